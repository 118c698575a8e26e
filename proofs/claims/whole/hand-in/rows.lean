section
-- ===== PART A: goes FIRST, ahead of the names: the tables' words, and 'selects' of the private methods out of them =====
/-- a private method of a class that the tables say can be made, by its rows of tables_1 -/
def lw_okq (q : MethodName × Nat) : Prop := (q.1.cls ≠ "java/lang/invoke/MethodHandle" ∧ q.1.cls ≠ "java/lang/invoke/VarHandle") ∧ Cond.instantiable q.1.cls q.2 ∈ tables_1 ∧ Cond.privateMethod q.1 ∈ tables_1 ∧ Cond.instanceMethod q.1 ∈ tables_1
theorem lw_p0 : lw_okq (⟨"ZoneShelf", "isFreeName", "(I)Z"⟩, 3) := ⟨⟨by decide +kernel, by decide +kernel⟩, List.mem_of_getElem? (i := 8) (by decide +kernel), List.mem_of_getElem? (i := 62) (by decide +kernel), List.mem_of_getElem? (i := 63) (by decide +kernel)⟩
theorem lw_p1 : lw_okq (⟨"ZoneShelf$Contents", "numberOf", "(I)I"⟩, 5) := ⟨⟨by decide +kernel, by decide +kernel⟩, List.mem_of_getElem? (i := 16) (by decide +kernel), List.mem_of_getElem? (i := 69) (by decide +kernel), List.mem_of_getElem? (i := 70) (by decide +kernel)⟩
theorem lw_p2 : lw_okq (⟨"ZoneShelf$Contents", "leastFreeNumber", "()I"⟩, 5) := ⟨⟨by decide +kernel, by decide +kernel⟩, List.mem_of_getElem? (i := 16) (by decide +kernel), List.mem_of_getElem? (i := 76) (by decide +kernel), List.mem_of_getElem? (i := 77) (by decide +kernel)⟩
theorem lw_p3 : lw_okq (⟨"ZoneShelf$Contents", "isTaken", "(I)Z"⟩, 5) := ⟨⟨by decide +kernel, by decide +kernel⟩, List.mem_of_getElem? (i := 16) (by decide +kernel), List.mem_of_getElem? (i := 80) (by decide +kernel), List.mem_of_getElem? (i := 81) (by decide +kernel)⟩
theorem lw_p4 : lw_okq (⟨"ZoneShelf$Contents", "place", "(III)V"⟩, 5) := ⟨⟨by decide +kernel, by decide +kernel⟩, List.mem_of_getElem? (i := 16) (by decide +kernel), List.mem_of_getElem? (i := 84) (by decide +kernel), List.mem_of_getElem? (i := 85) (by decide +kernel)⟩
theorem lw_p5 : lw_okq (⟨"ZoneShelf", "isThere", "(I)Z"⟩, 3) := ⟨⟨by decide +kernel, by decide +kernel⟩, List.mem_of_getElem? (i := 8) (by decide +kernel), List.mem_of_getElem? (i := 96) (by decide +kernel), List.mem_of_getElem? (i := 97) (by decide +kernel)⟩
theorem lw_p6 : lw_okq (⟨"ZoneShelf", "roomIn", "(I)I"⟩, 3) := ⟨⟨by decide +kernel, by decide +kernel⟩, List.mem_of_getElem? (i := 8) (by decide +kernel), List.mem_of_getElem? (i := 101) (by decide +kernel), List.mem_of_getElem? (i := 102) (by decide +kernel)⟩
theorem lw_p7 : lw_okq (⟨"ZoneShelf$Contents", "countWords", "()I"⟩, 5) := ⟨⟨by decide +kernel, by decide +kernel⟩, List.mem_of_getElem? (i := 16) (by decide +kernel), List.mem_of_getElem? (i := 105) (by decide +kernel), List.mem_of_getElem? (i := 106) (by decide +kernel)⟩
theorem lw_p8 : lw_okq (⟨"ZoneShelf$Contents", "addRow", "(III)V"⟩, 5) := ⟨⟨by decide +kernel, by decide +kernel⟩, List.mem_of_getElem? (i := 16) (by decide +kernel), List.mem_of_getElem? (i := 112) (by decide +kernel), List.mem_of_getElem? (i := 113) (by decide +kernel)⟩
theorem lw_p9 : lw_okq (⟨"ZoneShelf$Contents", "takeAway", "(I)V"⟩, 5) := ⟨⟨by decide +kernel, by decide +kernel⟩, List.mem_of_getElem? (i := 16) (by decide +kernel), List.mem_of_getElem? (i := 125) (by decide +kernel), List.mem_of_getElem? (i := 126) (by decide +kernel)⟩
theorem lw_p10 : lw_okq (⟨"ZoneShelf$Contents", "copyFrom", "(LZoneShelf$Contents;)V"⟩, 5) := ⟨⟨by decide +kernel, by decide +kernel⟩, List.mem_of_getElem? (i := 16) (by decide +kernel), List.mem_of_getElem? (i := 137) (by decide +kernel), List.mem_of_getElem? (i := 138) (by decide +kernel)⟩
theorem lw_p11 : lw_okq (⟨"ZoneShelf$Contents", "countObjects", "()I"⟩, 5) := ⟨⟨by decide +kernel, by decide +kernel⟩, List.mem_of_getElem? (i := 16) (by decide +kernel), List.mem_of_getElem? (i := 169) (by decide +kernel), List.mem_of_getElem? (i := 170) (by decide +kernel)⟩
theorem lw_p12 : lw_okq (⟨"ZoneShelf$Contents", "numberAtRank", "(I)I"⟩, 5) := ⟨⟨by decide +kernel, by decide +kernel⟩, List.mem_of_getElem? (i := 16) (by decide +kernel), List.mem_of_getElem? (i := 193) (by decide +kernel), List.mem_of_getElem? (i := 194) (by decide +kernel)⟩
theorem lw_p13 : lw_okq (⟨"ZoneShelf$Contents", "countNamesBelow", "(I)I"⟩, 5) := ⟨⟨by decide +kernel, by decide +kernel⟩, List.mem_of_getElem? (i := 16) (by decide +kernel), List.mem_of_getElem? (i := 197) (by decide +kernel), List.mem_of_getElem? (i := 198) (by decide +kernel)⟩
theorem lw_p14 : lw_okq (⟨"ZoneShelfModel", "named", "(I)I"⟩, 11) := ⟨⟨by decide +kernel, by decide +kernel⟩, List.mem_of_getElem? (i := 201) (by decide +kernel), List.mem_of_getElem? (i := 248) (by decide +kernel), List.mem_of_getElem? (i := 249) (by decide +kernel)⟩
theorem lw_p15 : lw_okq (⟨"ZoneShelfModel", "is", "(I)Z"⟩, 11) := ⟨⟨by decide +kernel, by decide +kernel⟩, List.mem_of_getElem? (i := 201) (by decide +kernel), List.mem_of_getElem? (i := 252) (by decide +kernel), List.mem_of_getElem? (i := 253) (by decide +kernel)⟩
def lw_privs_1 : List (MethodName × Nat) := [(⟨"ZoneShelf", "isFreeName", "(I)Z"⟩, 3), (⟨"ZoneShelf$Contents", "numberOf", "(I)I"⟩, 5), (⟨"ZoneShelf$Contents", "leastFreeNumber", "()I"⟩, 5), (⟨"ZoneShelf$Contents", "isTaken", "(I)Z"⟩, 5), (⟨"ZoneShelf$Contents", "place", "(III)V"⟩, 5), (⟨"ZoneShelf", "isThere", "(I)Z"⟩, 3), (⟨"ZoneShelf", "roomIn", "(I)I"⟩, 3), (⟨"ZoneShelf$Contents", "countWords", "()I"⟩, 5), (⟨"ZoneShelf$Contents", "addRow", "(III)V"⟩, 5), (⟨"ZoneShelf$Contents", "takeAway", "(I)V"⟩, 5), (⟨"ZoneShelf$Contents", "copyFrom", "(LZoneShelf$Contents;)V"⟩, 5), (⟨"ZoneShelf$Contents", "countObjects", "()I"⟩, 5), (⟨"ZoneShelf$Contents", "numberAtRank", "(I)I"⟩, 5), (⟨"ZoneShelf$Contents", "countNamesBelow", "(I)I"⟩, 5), (⟨"ZoneShelfModel", "named", "(I)I"⟩, 11), (⟨"ZoneShelfModel", "is", "(I)Z"⟩, 11)]
theorem lw_r1 : ∀ q ∈ lw_privs_1, lw_okq q := List.forall_mem_cons.mpr ⟨lw_p0, List.forall_mem_cons.mpr ⟨lw_p1, List.forall_mem_cons.mpr ⟨lw_p2, List.forall_mem_cons.mpr ⟨lw_p3, List.forall_mem_cons.mpr ⟨lw_p4, List.forall_mem_cons.mpr ⟨lw_p5, List.forall_mem_cons.mpr ⟨lw_p6, List.forall_mem_cons.mpr ⟨lw_p7, List.forall_mem_cons.mpr ⟨lw_p8, List.forall_mem_cons.mpr ⟨lw_p9, List.forall_mem_cons.mpr ⟨lw_p10, List.forall_mem_cons.mpr ⟨lw_p11, List.forall_mem_cons.mpr ⟨lw_p12, List.forall_mem_cons.mpr ⟨lw_p13, List.forall_mem_cons.mpr ⟨lw_p14, List.forall_mem_cons.mpr ⟨lw_p15, fun _ h => absurd h List.not_mem_nil⟩⟩⟩⟩⟩⟩⟩⟩⟩⟩⟩⟩⟩⟩⟩⟩
theorem lw_p16 : lw_okq (⟨"ZoneShelfModel", "left", "()I"⟩, 11) := ⟨⟨by decide +kernel, by decide +kernel⟩, List.mem_of_getElem? (i := 201) (by decide +kernel), List.mem_of_getElem? (i := 264) (by decide +kernel), List.mem_of_getElem? (i := 265) (by decide +kernel)⟩
def lw_privs_2 : List (MethodName × Nat) := [(⟨"ZoneShelfModel", "left", "()I"⟩, 11)]
theorem lw_r2 : ∀ q ∈ lw_privs_2, lw_okq q := List.forall_mem_cons.mpr ⟨lw_p16, fun _ h => absurd h List.not_mem_nil⟩
def lw_privs : List (MethodName × Nat) := lw_privs_1 ++ (lw_privs_2)
def lw_tbl : List Cond := k2_sels lw_privs ++ tables_1
theorem lw_privs_ok : ∀ q ∈ lw_privs, lw_okq q := by
  show ∀ q ∈ lw_privs_1 ++ (lw_privs_2), lw_okq q
  exact List.forall_mem_append.mpr ⟨lw_r1, lw_r2⟩
end
section
def zs_T_X : u_T := fun k => match k with
  | 0 => ("ZoneShelf", "current", "LZoneShelf$Contents;", true)
  | 1 => ("ZoneShelf", "synced", "LZoneShelf$Contents;", true)
  | _ => ("ZoneShelf", "up", "Z", false)
def zs_t_X : Nat → FieldType := fun k => match k with
  | 0 => .object "ZoneShelf$Contents"
  | 1 => .object "ZoneShelf$Contents"
  | _ => .boolean
def zs_T_C : u_T := fun k => match k with
  | 0 => ("ZoneShelf$Contents", "names", "[I", true)
  | 1 => ("ZoneShelf$Contents", "hints", "[I", true)
  | 2 => ("ZoneShelf$Contents", "lengths", "[I", true)
  | 3 => ("ZoneShelf$Contents", "opened", "[Z", true)
  | _ => ("ZoneShelf$Contents", "words", "[I", true)
def zs_t_C : Nat → FieldType := fun k => match k with
  | 0 => .array .int
  | 1 => .array .int
  | 2 => .array .int
  | 3 => .array .boolean
  | _ => .array .int
def zs_T_M : u_T := fun k => match k with
  | 0 => ("ZoneShelfModel", "up", "Z", false)
  | 1 => ("ZoneShelfModel", "names", "[I", true)
  | 2 => ("ZoneShelfModel", "hints", "[I", true)
  | 3 => ("ZoneShelfModel", "sizes", "[I", true)
  | 4 => ("ZoneShelfModel", "opens", "[Z", true)
  | 5 => ("ZoneShelfModel", "words", "[I", true)
  | 6 => ("ZoneShelfModel", "oldNames", "[I", true)
  | 7 => ("ZoneShelfModel", "oldHints", "[I", true)
  | 8 => ("ZoneShelfModel", "oldSizes", "[I", true)
  | 9 => ("ZoneShelfModel", "oldOpens", "[Z", true)
  | _ => ("ZoneShelfModel", "oldWords", "[I", true)
def zs_t_M : Nat → FieldType := fun k => match k with
  | 0 => .boolean
  | 1 => .array .int
  | 2 => .array .int
  | 3 => .array .int
  | 4 => .array .boolean
  | 5 => .array .int
  | 6 => .array .int
  | 7 => .array .int
  | 8 => .array .int
  | 9 => .array .boolean
  | _ => .array .int
abbrev zs_cl : List vw_C := [("ZoneShelf", zs_T_X, 3), ("ZoneShelf$Contents", zs_T_C, 5), ("ZoneShelfModel", zs_T_M, 11)]
abbrev zb_X_init : ByteArray := prog_1_method_1_code
def zy_X_init : MethodName := ⟨"ZoneShelf", "<init>", "()V"⟩
abbrev zb_C_init : ByteArray := prog_2_method_1_code
def zy_C_init : MethodName := ⟨"ZoneShelf$Contents", "<init>", "()V"⟩
abbrev zb_J_fill : ByteArray := prog_7_method_103_code
def zy_J_fill : MethodName := ⟨"java/util/Arrays", "fill", "([II)V"⟩
abbrev zb_X_create : ByteArray := prog_1_method_2_code
def zy_X_create : MethodName := ⟨"ZoneShelf", "create", "(II)I"⟩
abbrev zb_X_isFreeName : ByteArray := prog_1_method_21_code
def zy_X_isFreeName : MethodName := ⟨"ZoneShelf", "isFreeName", "(I)Z"⟩
abbrev zb_X_isName : ByteArray := prog_1_method_23_code
def zy_X_isName : MethodName := ⟨"ZoneShelf", "isName", "(I)Z"⟩
abbrev zb_C_numberOf : ByteArray := prog_2_method_4_code
def zy_C_numberOf : MethodName := ⟨"ZoneShelf$Contents", "numberOf", "(I)I"⟩
abbrev zb_X_isHint : ByteArray := prog_1_method_24_code
def zy_X_isHint : MethodName := ⟨"ZoneShelf", "isHint", "(I)Z"⟩
abbrev zb_C_leastFreeNumber : ByteArray := prog_2_method_3_code
def zy_C_leastFreeNumber : MethodName := ⟨"ZoneShelf$Contents", "leastFreeNumber", "()I"⟩
abbrev zb_C_isTaken : ByteArray := prog_2_method_2_code
def zy_C_isTaken : MethodName := ⟨"ZoneShelf$Contents", "isTaken", "(I)Z"⟩
abbrev zb_C_place : ByteArray := prog_2_method_9_code
def zy_C_place : MethodName := ⟨"ZoneShelf$Contents", "place", "(III)V"⟩
abbrev zb_X_append : ByteArray := prog_1_method_3_code
def zy_X_append : MethodName := ⟨"ZoneShelf", "append", "(II)Z"⟩
abbrev zb_X_appendRow : ByteArray := prog_1_method_4_code
def zy_X_appendRow : MethodName := ⟨"ZoneShelf", "appendRow", "(III)Z"⟩
abbrev zb_X_isThere : ByteArray := prog_1_method_20_code
def zy_X_isThere : MethodName := ⟨"ZoneShelf", "isThere", "(I)Z"⟩
abbrev zb_X_roomIn : ByteArray := prog_1_method_22_code
def zy_X_roomIn : MethodName := ⟨"ZoneShelf", "roomIn", "(I)I"⟩
abbrev zb_C_countWords : ByteArray := prog_2_method_8_code
def zy_C_countWords : MethodName := ⟨"ZoneShelf$Contents", "countWords", "()I"⟩
abbrev zb_C_addRow : ByteArray := prog_2_method_11_code
def zy_C_addRow : MethodName := ⟨"ZoneShelf$Contents", "addRow", "(III)V"⟩
abbrev zb_X_open : ByteArray := prog_1_method_5_code
def zy_X_open : MethodName := ⟨"ZoneShelf", "open", "(IZ)Z"⟩
abbrev zb_X_remove : ByteArray := prog_1_method_6_code
def zy_X_remove : MethodName := ⟨"ZoneShelf", "remove", "(I)Z"⟩
abbrev zb_C_takeAway : ByteArray := prog_2_method_10_code
def zy_C_takeAway : MethodName := ⟨"ZoneShelf$Contents", "takeAway", "(I)V"⟩
abbrev zb_X_rename : ByteArray := prog_1_method_7_code
def zy_X_rename : MethodName := ⟨"ZoneShelf", "rename", "(II)Z"⟩
abbrev zb_X_sync : ByteArray := prog_1_method_8_code
def zy_X_sync : MethodName := ⟨"ZoneShelf", "sync", "()Z"⟩
abbrev zb_C_copyFrom : ByteArray := prog_2_method_12_code
def zy_C_copyFrom : MethodName := ⟨"ZoneShelf$Contents", "copyFrom", "(LZoneShelf$Contents;)V"⟩
abbrev zb_X_tear : ByteArray := prog_1_method_9_code
def zy_X_tear : MethodName := ⟨"ZoneShelf", "tear", "()Z"⟩
abbrev zb_X_cut : ByteArray := prog_1_method_10_code
def zy_X_cut : MethodName := ⟨"ZoneShelf", "cut", "()Z"⟩
abbrev zb_X_mount : ByteArray := prog_1_method_11_code
def zy_X_mount : MethodName := ⟨"ZoneShelf", "mount", "()Z"⟩
abbrev zb_X_tidy : ByteArray := prog_1_method_12_code
def zy_X_tidy : MethodName := ⟨"ZoneShelf", "tidy", "()Z"⟩
abbrev zb_X_isUp : ByteArray := prog_1_method_13_code
def zy_X_isUp : MethodName := ⟨"ZoneShelf", "isUp", "()Z"⟩
abbrev zb_X_objects : ByteArray := prog_1_method_14_code
def zy_X_objects : MethodName := ⟨"ZoneShelf", "objects", "()I"⟩
abbrev zb_C_countObjects : ByteArray := prog_2_method_7_code
def zy_C_countObjects : MethodName := ⟨"ZoneShelf$Contents", "countObjects", "()I"⟩
abbrev zb_X_room : ByteArray := prog_1_method_15_code
def zy_X_room : MethodName := ⟨"ZoneShelf", "room", "()I"⟩
abbrev zb_X_object : ByteArray := prog_1_method_16_code
def zy_X_object : MethodName := ⟨"ZoneShelf", "object", "(II)I"⟩
abbrev zb_X_word : ByteArray := prog_1_method_17_code
def zy_X_word : MethodName := ⟨"ZoneShelf", "word", "(II)I"⟩
abbrev zb_X_find : ByteArray := prog_1_method_18_code
def zy_X_find : MethodName := ⟨"ZoneShelf", "find", "(I)I"⟩
abbrev zb_X_list : ByteArray := prog_1_method_19_code
def zy_X_list : MethodName := ⟨"ZoneShelf", "list", "(I)I"⟩
abbrev zb_C_numberAtRank : ByteArray := prog_2_method_5_code
def zy_C_numberAtRank : MethodName := ⟨"ZoneShelf$Contents", "numberAtRank", "(I)I"⟩
abbrev zb_C_countNamesBelow : ByteArray := prog_2_method_6_code
def zy_C_countNamesBelow : MethodName := ⟨"ZoneShelf$Contents", "countNamesBelow", "(I)I"⟩
abbrev zb_M_init : ByteArray := prog_4_method_1_code
def zy_M_init : MethodName := ⟨"ZoneShelfModel", "<init>", "()V"⟩
abbrev zb_M_create : ByteArray := prog_4_method_6_code
def zy_M_create : MethodName := ⟨"ZoneShelfModel", "create", "(II)I"⟩
abbrev zb_M_isName : ByteArray := prog_4_method_3_code
def zy_M_isName : MethodName := ⟨"ZoneShelfModel", "isName", "(I)Z"⟩
abbrev zb_M_named : ByteArray := prog_4_method_4_code
def zy_M_named : MethodName := ⟨"ZoneShelfModel", "named", "(I)I"⟩
abbrev zb_M_is : ByteArray := prog_4_method_2_code
def zy_M_is : MethodName := ⟨"ZoneShelfModel", "is", "(I)Z"⟩
abbrev zb_M_append : ByteArray := prog_4_method_7_code
def zy_M_append : MethodName := ⟨"ZoneShelfModel", "append", "(II)Z"⟩
abbrev zb_M_appendRow : ByteArray := prog_4_method_8_code
def zy_M_appendRow : MethodName := ⟨"ZoneShelfModel", "appendRow", "(III)Z"⟩
abbrev zb_M_left : ByteArray := prog_4_method_5_code
def zy_M_left : MethodName := ⟨"ZoneShelfModel", "left", "()I"⟩
abbrev zb_M_open : ByteArray := prog_4_method_9_code
def zy_M_open : MethodName := ⟨"ZoneShelfModel", "open", "(IZ)Z"⟩
abbrev zb_M_remove : ByteArray := prog_4_method_10_code
def zy_M_remove : MethodName := ⟨"ZoneShelfModel", "remove", "(I)Z"⟩
abbrev zb_M_rename : ByteArray := prog_4_method_11_code
def zy_M_rename : MethodName := ⟨"ZoneShelfModel", "rename", "(II)Z"⟩
abbrev zb_M_sync : ByteArray := prog_4_method_12_code
def zy_M_sync : MethodName := ⟨"ZoneShelfModel", "sync", "()Z"⟩
abbrev zb_M_tear : ByteArray := prog_4_method_13_code
def zy_M_tear : MethodName := ⟨"ZoneShelfModel", "tear", "()Z"⟩
abbrev zb_M_cut : ByteArray := prog_4_method_14_code
def zy_M_cut : MethodName := ⟨"ZoneShelfModel", "cut", "()Z"⟩
abbrev zb_M_mount : ByteArray := prog_4_method_15_code
def zy_M_mount : MethodName := ⟨"ZoneShelfModel", "mount", "()Z"⟩
abbrev zb_M_tidy : ByteArray := prog_4_method_16_code
def zy_M_tidy : MethodName := ⟨"ZoneShelfModel", "tidy", "()Z"⟩
abbrev zb_M_isUp : ByteArray := prog_4_method_17_code
def zy_M_isUp : MethodName := ⟨"ZoneShelfModel", "isUp", "()Z"⟩
abbrev zb_M_objects : ByteArray := prog_4_method_18_code
def zy_M_objects : MethodName := ⟨"ZoneShelfModel", "objects", "()I"⟩
abbrev zb_M_room : ByteArray := prog_4_method_19_code
def zy_M_room : MethodName := ⟨"ZoneShelfModel", "room", "()I"⟩
abbrev zb_M_object : ByteArray := prog_4_method_20_code
def zy_M_object : MethodName := ⟨"ZoneShelfModel", "object", "(II)I"⟩
abbrev zb_M_word : ByteArray := prog_4_method_21_code
def zy_M_word : MethodName := ⟨"ZoneShelfModel", "word", "(II)I"⟩
abbrev zb_M_find : ByteArray := prog_4_method_22_code
def zy_M_find : MethodName := ⟨"ZoneShelfModel", "find", "(I)I"⟩
abbrev zb_M_list : ByteArray := prog_4_method_23_code
def zy_M_list : MethodName := ⟨"ZoneShelfModel", "list", "(I)I"⟩
/-- the words that every method of this claim is given -/
def zs_w : List Cond := [(Jvm.Cond.selects "ZoneShelf" ({ cls := "ZoneShelf", name := "isFreeName", desc := "(I)Z" } : Jvm.MethodName) ({ cls := "ZoneShelf", name := "isFreeName", desc := "(I)Z" } : Jvm.MethodName)),
  (Jvm.Cond.selects "ZoneShelf$Contents" ({ cls := "ZoneShelf$Contents", name := "numberOf", desc := "(I)I" } : Jvm.MethodName) ({ cls := "ZoneShelf$Contents", name := "numberOf", desc := "(I)I" } : Jvm.MethodName)),
  (Jvm.Cond.selects "ZoneShelf$Contents" ({ cls := "ZoneShelf$Contents", name := "leastFreeNumber", desc := "()I" } : Jvm.MethodName) ({ cls := "ZoneShelf$Contents", name := "leastFreeNumber", desc := "()I" } : Jvm.MethodName)),
  (Jvm.Cond.selects "ZoneShelf$Contents" ({ cls := "ZoneShelf$Contents", name := "isTaken", desc := "(I)Z" } : Jvm.MethodName) ({ cls := "ZoneShelf$Contents", name := "isTaken", desc := "(I)Z" } : Jvm.MethodName)),
  (Jvm.Cond.selects "ZoneShelf$Contents" ({ cls := "ZoneShelf$Contents", name := "place", desc := "(III)V" } : Jvm.MethodName) ({ cls := "ZoneShelf$Contents", name := "place", desc := "(III)V" } : Jvm.MethodName)),
  (Jvm.Cond.selects "ZoneShelf" ({ cls := "ZoneShelf", name := "isThere", desc := "(I)Z" } : Jvm.MethodName) ({ cls := "ZoneShelf", name := "isThere", desc := "(I)Z" } : Jvm.MethodName)),
  (Jvm.Cond.selects "ZoneShelf" ({ cls := "ZoneShelf", name := "roomIn", desc := "(I)I" } : Jvm.MethodName) ({ cls := "ZoneShelf", name := "roomIn", desc := "(I)I" } : Jvm.MethodName)),
  (Jvm.Cond.selects "ZoneShelf$Contents" ({ cls := "ZoneShelf$Contents", name := "countWords", desc := "()I" } : Jvm.MethodName) ({ cls := "ZoneShelf$Contents", name := "countWords", desc := "()I" } : Jvm.MethodName)),
  (Jvm.Cond.selects "ZoneShelf$Contents" ({ cls := "ZoneShelf$Contents", name := "addRow", desc := "(III)V" } : Jvm.MethodName) ({ cls := "ZoneShelf$Contents", name := "addRow", desc := "(III)V" } : Jvm.MethodName)),
  (Jvm.Cond.selects "ZoneShelf$Contents" ({ cls := "ZoneShelf$Contents", name := "takeAway", desc := "(I)V" } : Jvm.MethodName) ({ cls := "ZoneShelf$Contents", name := "takeAway", desc := "(I)V" } : Jvm.MethodName)),
  (Jvm.Cond.selects "ZoneShelf$Contents" ({ cls := "ZoneShelf$Contents", name := "copyFrom", desc := "(LZoneShelf$Contents;)V" } : Jvm.MethodName) ({ cls := "ZoneShelf$Contents", name := "copyFrom", desc := "(LZoneShelf$Contents;)V" } : Jvm.MethodName)),
  (Jvm.Cond.selects "ZoneShelf$Contents" ({ cls := "ZoneShelf$Contents", name := "countObjects", desc := "()I" } : Jvm.MethodName) ({ cls := "ZoneShelf$Contents", name := "countObjects", desc := "()I" } : Jvm.MethodName)),
  (Jvm.Cond.selects "ZoneShelf$Contents" ({ cls := "ZoneShelf$Contents", name := "numberAtRank", desc := "(I)I" } : Jvm.MethodName) ({ cls := "ZoneShelf$Contents", name := "numberAtRank", desc := "(I)I" } : Jvm.MethodName)),
  (Jvm.Cond.selects "ZoneShelf$Contents" ({ cls := "ZoneShelf$Contents", name := "countNamesBelow", desc := "(I)I" } : Jvm.MethodName) ({ cls := "ZoneShelf$Contents", name := "countNamesBelow", desc := "(I)I" } : Jvm.MethodName)),
  (Jvm.Cond.selects "ZoneShelfModel" ({ cls := "ZoneShelfModel", name := "named", desc := "(I)I" } : Jvm.MethodName) ({ cls := "ZoneShelfModel", name := "named", desc := "(I)I" } : Jvm.MethodName)),
  (Jvm.Cond.selects "ZoneShelfModel" ({ cls := "ZoneShelfModel", name := "is", desc := "(I)Z" } : Jvm.MethodName) ({ cls := "ZoneShelfModel", name := "is", desc := "(I)Z" } : Jvm.MethodName)),
  (Jvm.Cond.selects "ZoneShelfModel" ({ cls := "ZoneShelfModel", name := "left", desc := "()I" } : Jvm.MethodName) ({ cls := "ZoneShelfModel", name := "left", desc := "()I" } : Jvm.MethodName)),
  (Jvm.Cond.initialized "ZoneShelfLaw"),
  (Jvm.Cond.initialized "ZoneShelf"),
  (Jvm.Cond.initialized "ZoneShelf$Contents"),
  (Jvm.Cond.initialized "java/util/Arrays"),
  (Jvm.Cond.initialized "ZoneShelfModel"),
  (Jvm.Cond.initialized "java/lang/Math"),
  (Jvm.Cond.initialized "java/lang/System"),
  (Jvm.Cond.classLink "ZoneShelfLaw" (7 : Nat) "ZoneShelf"),
  (Jvm.Cond.instantiable "ZoneShelf" (3 : Nat)),
  (Jvm.Cond.methodLink "ZoneShelfLaw" (9 : Nat) ({ cls := "ZoneShelf", name := "<init>", desc := "()V" } : Jvm.MethodName)),
  (Jvm.Cond.instanceMethod ({ cls := "ZoneShelf", name := "<init>", desc := "()V" } : Jvm.MethodName)),
  (Jvm.Cond.code ({ cls := "ZoneShelf", name := "<init>", desc := "()V" } : Jvm.MethodName) prog_1_method_1_code (1 : Nat) (Option.none : Option Jvm.ClassFile.FieldType)),
  (Jvm.Cond.methodLink "ZoneShelf" (1 : Nat) ({ cls := "java/lang/Object", name := "<init>", desc := "()V" } : Jvm.MethodName)),
  (Jvm.Cond.instanceMethod ({ cls := "java/lang/Object", name := "<init>", desc := "()V" } : Jvm.MethodName)),
  (Jvm.Cond.code ({ cls := "java/lang/Object", name := "<init>", desc := "()V" } : Jvm.MethodName) object_method_1_code (1 : Nat) (Option.none : Option Jvm.ClassFile.FieldType)),
  (Jvm.Cond.classLink "ZoneShelf" (7 : Nat) "ZoneShelf$Contents"),
  (Jvm.Cond.instantiable "ZoneShelf$Contents" (5 : Nat)),
  (Jvm.Cond.instanceMethod ({ cls := "ZoneShelf$Contents", name := "<init>", desc := "()V" } : Jvm.MethodName)),
  (Jvm.Cond.code ({ cls := "ZoneShelf$Contents", name := "<init>", desc := "()V" } : Jvm.MethodName) prog_2_method_1_code (1 : Nat) (Option.none : Option Jvm.ClassFile.FieldType)),
  (Jvm.Cond.methodLink "ZoneShelf$Contents" (3 : Nat) ({ cls := "java/lang/Object", name := "<init>", desc := "()V" } : Jvm.MethodName)),
  (Jvm.Cond.methodLink "ZoneShelf$Contents" (28 : Nat) ({ cls := "java/util/Arrays", name := "fill", desc := "([II)V" } : Jvm.MethodName)),
  (Jvm.Cond.static ({ cls := "java/util/Arrays", name := "fill", desc := "([II)V" } : Jvm.MethodName)),
  (Jvm.Cond.code ({ cls := "java/util/Arrays", name := "fill", desc := "([II)V" } : Jvm.MethodName) prog_7_method_103_code (4 : Nat) (Option.none : Option Jvm.ClassFile.FieldType)),
  (Jvm.Cond.fieldLink "ZoneShelf$Contents" (9 : Nat) "ZoneShelf$Contents" "names" "[I"),
  (Jvm.Cond.fieldLink "ZoneShelf$Contents" (15 : Nat) "ZoneShelf$Contents" "hints" "[I"),
  (Jvm.Cond.fieldLink "ZoneShelf$Contents" (18 : Nat) "ZoneShelf$Contents" "lengths" "[I"),
  (Jvm.Cond.fieldLink "ZoneShelf$Contents" (21 : Nat) "ZoneShelf$Contents" "opened" "[Z"),
  (Jvm.Cond.fieldLink "ZoneShelf$Contents" (25 : Nat) "ZoneShelf$Contents" "words" "[I"),
  (Jvm.Cond.laysFinal "ZoneShelf$Contents" "ZoneShelf$Contents" "names" "[I"),
  (Jvm.Cond.laysFinal "ZoneShelf$Contents" "ZoneShelf$Contents" "hints" "[I"),
  (Jvm.Cond.laysFinal "ZoneShelf$Contents" "ZoneShelf$Contents" "lengths" "[I"),
  (Jvm.Cond.laysFinal "ZoneShelf$Contents" "ZoneShelf$Contents" "opened" "[Z"),
  (Jvm.Cond.laysFinal "ZoneShelf$Contents" "ZoneShelf$Contents" "words" "[I"),
  (Jvm.Cond.arrayClass Jvm.ClassFile.FieldType.int),
  (Jvm.Cond.arrayClass Jvm.ClassFile.FieldType.boolean),
  (Jvm.Cond.fieldLink "ZoneShelf" (10 : Nat) "ZoneShelf" "current" "LZoneShelf$Contents;"),
  (Jvm.Cond.fieldLink "ZoneShelf" (16 : Nat) "ZoneShelf" "synced" "LZoneShelf$Contents;"),
  (Jvm.Cond.fieldLink "ZoneShelf" (19 : Nat) "ZoneShelf" "up" "Z"),
  (Jvm.Cond.laysFinal "ZoneShelf" "ZoneShelf" "current" "LZoneShelf$Contents;"),
  (Jvm.Cond.laysFinal "ZoneShelf" "ZoneShelf" "synced" "LZoneShelf$Contents;"),
  (Jvm.Cond.lays "ZoneShelf" "ZoneShelf" "up" "Z"),
  (Jvm.Cond.methodLink "ZoneShelfLaw" (13 : Nat) ({ cls := "ZoneShelf", name := "create", desc := "(II)I" } : Jvm.MethodName)),
  (Jvm.Cond.instanceMethod ({ cls := "ZoneShelf", name := "create", desc := "(II)I" } : Jvm.MethodName)),
  (Jvm.Cond.selects "ZoneShelf" ({ cls := "ZoneShelf", name := "create", desc := "(II)I" } : Jvm.MethodName) ({ cls := "ZoneShelf", name := "create", desc := "(II)I" } : Jvm.MethodName)),
  (Jvm.Cond.code ({ cls := "ZoneShelf", name := "create", desc := "(II)I" } : Jvm.MethodName) prog_1_method_2_code (4 : Nat) (Option.some Jvm.ClassFile.FieldType.int)),
  (Jvm.Cond.methodLink "ZoneShelf" (23 : Nat) ({ cls := "ZoneShelf", name := "isFreeName", desc := "(I)Z" } : Jvm.MethodName)),
  (Jvm.Cond.instanceMethod ({ cls := "ZoneShelf", name := "isFreeName", desc := "(I)Z" } : Jvm.MethodName)),
  (Jvm.Cond.code ({ cls := "ZoneShelf", name := "isFreeName", desc := "(I)Z" } : Jvm.MethodName) prog_1_method_21_code (2 : Nat) (Option.some Jvm.ClassFile.FieldType.boolean)),
  (Jvm.Cond.methodLink "ZoneShelf" (87 : Nat) ({ cls := "ZoneShelf", name := "isName", desc := "(I)Z" } : Jvm.MethodName)),
  (Jvm.Cond.static ({ cls := "ZoneShelf", name := "isName", desc := "(I)Z" } : Jvm.MethodName)),
  (Jvm.Cond.code ({ cls := "ZoneShelf", name := "isName", desc := "(I)Z" } : Jvm.MethodName) prog_1_method_23_code (1 : Nat) (Option.some Jvm.ClassFile.FieldType.boolean)),
  (Jvm.Cond.instanceMethod ({ cls := "ZoneShelf$Contents", name := "numberOf", desc := "(I)I" } : Jvm.MethodName)),
  (Jvm.Cond.code ({ cls := "ZoneShelf$Contents", name := "numberOf", desc := "(I)I" } : Jvm.MethodName) prog_2_method_4_code (3 : Nat) (Option.some Jvm.ClassFile.FieldType.int)),
  (Jvm.Cond.methodLink "ZoneShelf" (27 : Nat) ({ cls := "ZoneShelf", name := "isHint", desc := "(I)Z" } : Jvm.MethodName)),
  (Jvm.Cond.static ({ cls := "ZoneShelf", name := "isHint", desc := "(I)Z" } : Jvm.MethodName)),
  (Jvm.Cond.code ({ cls := "ZoneShelf", name := "isHint", desc := "(I)Z" } : Jvm.MethodName) prog_1_method_24_code (1 : Nat) (Option.some Jvm.ClassFile.FieldType.boolean)),
  (Jvm.Cond.instanceMethod ({ cls := "ZoneShelf$Contents", name := "leastFreeNumber", desc := "()I" } : Jvm.MethodName)),
  (Jvm.Cond.code ({ cls := "ZoneShelf$Contents", name := "leastFreeNumber", desc := "()I" } : Jvm.MethodName) prog_2_method_3_code (2 : Nat) (Option.some Jvm.ClassFile.FieldType.int)),
  (Jvm.Cond.methodLink "ZoneShelf$Contents" (34 : Nat) ({ cls := "ZoneShelf$Contents", name := "isTaken", desc := "(I)Z" } : Jvm.MethodName)),
  (Jvm.Cond.instanceMethod ({ cls := "ZoneShelf$Contents", name := "isTaken", desc := "(I)Z" } : Jvm.MethodName)),
  (Jvm.Cond.code ({ cls := "ZoneShelf$Contents", name := "isTaken", desc := "(I)Z" } : Jvm.MethodName) prog_2_method_2_code (2 : Nat) (Option.some Jvm.ClassFile.FieldType.boolean)),
  (Jvm.Cond.instanceMethod ({ cls := "ZoneShelf$Contents", name := "place", desc := "(III)V" } : Jvm.MethodName)),
  (Jvm.Cond.code ({ cls := "ZoneShelf$Contents", name := "place", desc := "(III)V" } : Jvm.MethodName) prog_2_method_9_code (4 : Nat) (Option.none : Option Jvm.ClassFile.FieldType)),
  (Jvm.Cond.methodLink "ZoneShelfLaw" (18 : Nat) ({ cls := "ZoneShelf", name := "append", desc := "(II)Z" } : Jvm.MethodName)),
  (Jvm.Cond.instanceMethod ({ cls := "ZoneShelf", name := "append", desc := "(II)Z" } : Jvm.MethodName)),
  (Jvm.Cond.selects "ZoneShelf" ({ cls := "ZoneShelf", name := "append", desc := "(II)Z" } : Jvm.MethodName) ({ cls := "ZoneShelf", name := "append", desc := "(II)Z" } : Jvm.MethodName)),
  (Jvm.Cond.code ({ cls := "ZoneShelf", name := "append", desc := "(II)Z" } : Jvm.MethodName) prog_1_method_3_code (3 : Nat) (Option.some Jvm.ClassFile.FieldType.boolean)),
  (Jvm.Cond.methodLink "ZoneShelf" (38 : Nat) ({ cls := "ZoneShelf", name := "appendRow", desc := "(III)Z" } : Jvm.MethodName)),
  (Jvm.Cond.instanceMethod ({ cls := "ZoneShelf", name := "appendRow", desc := "(III)Z" } : Jvm.MethodName)),
  (Jvm.Cond.selects "ZoneShelf" ({ cls := "ZoneShelf", name := "appendRow", desc := "(III)Z" } : Jvm.MethodName) ({ cls := "ZoneShelf", name := "appendRow", desc := "(III)Z" } : Jvm.MethodName)),
  (Jvm.Cond.code ({ cls := "ZoneShelf", name := "appendRow", desc := "(III)Z" } : Jvm.MethodName) prog_1_method_4_code (4 : Nat) (Option.some Jvm.ClassFile.FieldType.boolean)),
  (Jvm.Cond.methodLink "ZoneShelf" (42 : Nat) ({ cls := "ZoneShelf", name := "isThere", desc := "(I)Z" } : Jvm.MethodName)),
  (Jvm.Cond.instanceMethod ({ cls := "ZoneShelf", name := "isThere", desc := "(I)Z" } : Jvm.MethodName)),
  (Jvm.Cond.code ({ cls := "ZoneShelf", name := "isThere", desc := "(I)Z" } : Jvm.MethodName) prog_1_method_20_code (2 : Nat) (Option.some Jvm.ClassFile.FieldType.boolean)),
  (Jvm.Cond.methodLink "ZoneShelf" (49 : Nat) ({ cls := "ZoneShelf", name := "roomIn", desc := "(I)I" } : Jvm.MethodName)),
  (Jvm.Cond.instanceMethod ({ cls := "ZoneShelf", name := "roomIn", desc := "(I)I" } : Jvm.MethodName)),
  (Jvm.Cond.code ({ cls := "ZoneShelf", name := "roomIn", desc := "(I)I" } : Jvm.MethodName) prog_1_method_22_code (2 : Nat) (Option.some Jvm.ClassFile.FieldType.int)),
  (Jvm.Cond.instanceMethod ({ cls := "ZoneShelf$Contents", name := "countWords", desc := "()I" } : Jvm.MethodName)),
  (Jvm.Cond.code ({ cls := "ZoneShelf$Contents", name := "countWords", desc := "()I" } : Jvm.MethodName) prog_2_method_8_code (3 : Nat) (Option.some Jvm.ClassFile.FieldType.int)),
  (Jvm.Cond.methodLink "ZoneShelf" (99 : Nat) ({ cls := "java/lang/Math", name := "min", desc := "(II)I" } : Jvm.MethodName)),
  (Jvm.Cond.static ({ cls := "java/lang/Math", name := "min", desc := "(II)I" } : Jvm.MethodName)),
  (Jvm.Cond.code ({ cls := "java/lang/Math", name := "min", desc := "(II)I" } : Jvm.MethodName) prog_5_method_69_code (2 : Nat) (Option.some Jvm.ClassFile.FieldType.int)),
  (Jvm.Cond.instanceMethod ({ cls := "ZoneShelf$Contents", name := "addRow", desc := "(III)V" } : Jvm.MethodName)),
  (Jvm.Cond.code ({ cls := "ZoneShelf$Contents", name := "addRow", desc := "(III)V" } : Jvm.MethodName) prog_2_method_11_code (6 : Nat) (Option.none : Option Jvm.ClassFile.FieldType)),
  (Jvm.Cond.methodLink "ZoneShelfLaw" (23 : Nat) ({ cls := "ZoneShelf", name := "appendRow", desc := "(III)Z" } : Jvm.MethodName)),
  (Jvm.Cond.methodLink "ZoneShelfLaw" (28 : Nat) ({ cls := "ZoneShelf", name := "open", desc := "(IZ)Z" } : Jvm.MethodName)),
  (Jvm.Cond.instanceMethod ({ cls := "ZoneShelf", name := "open", desc := "(IZ)Z" } : Jvm.MethodName)),
  (Jvm.Cond.selects "ZoneShelf" ({ cls := "ZoneShelf", name := "open", desc := "(IZ)Z" } : Jvm.MethodName) ({ cls := "ZoneShelf", name := "open", desc := "(IZ)Z" } : Jvm.MethodName)),
  (Jvm.Cond.code ({ cls := "ZoneShelf", name := "open", desc := "(IZ)Z" } : Jvm.MethodName) prog_1_method_5_code (3 : Nat) (Option.some Jvm.ClassFile.FieldType.boolean)),
  (Jvm.Cond.methodLink "ZoneShelfLaw" (33 : Nat) ({ cls := "ZoneShelf", name := "remove", desc := "(I)Z" } : Jvm.MethodName)),
  (Jvm.Cond.instanceMethod ({ cls := "ZoneShelf", name := "remove", desc := "(I)Z" } : Jvm.MethodName)),
  (Jvm.Cond.selects "ZoneShelf" ({ cls := "ZoneShelf", name := "remove", desc := "(I)Z" } : Jvm.MethodName) ({ cls := "ZoneShelf", name := "remove", desc := "(I)Z" } : Jvm.MethodName)),
  (Jvm.Cond.code ({ cls := "ZoneShelf", name := "remove", desc := "(I)Z" } : Jvm.MethodName) prog_1_method_6_code (2 : Nat) (Option.some Jvm.ClassFile.FieldType.boolean)),
  (Jvm.Cond.instanceMethod ({ cls := "ZoneShelf$Contents", name := "takeAway", desc := "(I)V" } : Jvm.MethodName)),
  (Jvm.Cond.code ({ cls := "ZoneShelf$Contents", name := "takeAway", desc := "(I)V" } : Jvm.MethodName) prog_2_method_10_code (2 : Nat) (Option.none : Option Jvm.ClassFile.FieldType)),
  (Jvm.Cond.methodLink "ZoneShelfLaw" (38 : Nat) ({ cls := "ZoneShelf", name := "rename", desc := "(II)Z" } : Jvm.MethodName)),
  (Jvm.Cond.instanceMethod ({ cls := "ZoneShelf", name := "rename", desc := "(II)Z" } : Jvm.MethodName)),
  (Jvm.Cond.selects "ZoneShelf" ({ cls := "ZoneShelf", name := "rename", desc := "(II)Z" } : Jvm.MethodName) ({ cls := "ZoneShelf", name := "rename", desc := "(II)Z" } : Jvm.MethodName)),
  (Jvm.Cond.code ({ cls := "ZoneShelf", name := "rename", desc := "(II)Z" } : Jvm.MethodName) prog_1_method_7_code (3 : Nat) (Option.some Jvm.ClassFile.FieldType.boolean)),
  (Jvm.Cond.methodLink "ZoneShelfLaw" (42 : Nat) ({ cls := "ZoneShelf", name := "sync", desc := "()Z" } : Jvm.MethodName)),
  (Jvm.Cond.instanceMethod ({ cls := "ZoneShelf", name := "sync", desc := "()Z" } : Jvm.MethodName)),
  (Jvm.Cond.selects "ZoneShelf" ({ cls := "ZoneShelf", name := "sync", desc := "()Z" } : Jvm.MethodName) ({ cls := "ZoneShelf", name := "sync", desc := "()Z" } : Jvm.MethodName)),
  (Jvm.Cond.code ({ cls := "ZoneShelf", name := "sync", desc := "()Z" } : Jvm.MethodName) prog_1_method_8_code (1 : Nat) (Option.some Jvm.ClassFile.FieldType.boolean)),
  (Jvm.Cond.instanceMethod ({ cls := "ZoneShelf$Contents", name := "copyFrom", desc := "(LZoneShelf$Contents;)V" } : Jvm.MethodName)),
  (Jvm.Cond.code ({ cls := "ZoneShelf$Contents", name := "copyFrom", desc := "(LZoneShelf$Contents;)V" } : Jvm.MethodName) prog_2_method_12_code (3 : Nat) (Option.none : Option Jvm.ClassFile.FieldType)),
  (Jvm.Cond.methodLink "ZoneShelf$Contents" (42 : Nat) ({ cls := "java/lang/System", name := "arraycopy", desc := "(Ljava/lang/Object;ILjava/lang/Object;II)V" } : Jvm.MethodName)),
  (Jvm.Cond.static ({ cls := "java/lang/System", name := "arraycopy", desc := "(Ljava/lang/Object;ILjava/lang/Object;II)V" } : Jvm.MethodName)),
  (Jvm.Cond.native ({ cls := "java/lang/System", name := "arraycopy", desc := "(Ljava/lang/Object;ILjava/lang/Object;II)V" } : Jvm.MethodName)),
  (Jvm.Cond.methodLink "ZoneShelfLaw" (47 : Nat) ({ cls := "ZoneShelf", name := "tear", desc := "()Z" } : Jvm.MethodName)),
  (Jvm.Cond.instanceMethod ({ cls := "ZoneShelf", name := "tear", desc := "()Z" } : Jvm.MethodName)),
  (Jvm.Cond.selects "ZoneShelf" ({ cls := "ZoneShelf", name := "tear", desc := "()Z" } : Jvm.MethodName) ({ cls := "ZoneShelf", name := "tear", desc := "()Z" } : Jvm.MethodName)),
  (Jvm.Cond.code ({ cls := "ZoneShelf", name := "tear", desc := "()Z" } : Jvm.MethodName) prog_1_method_9_code (1 : Nat) (Option.some Jvm.ClassFile.FieldType.boolean)),
  (Jvm.Cond.methodLink "ZoneShelf" (68 : Nat) ({ cls := "ZoneShelf", name := "cut", desc := "()Z" } : Jvm.MethodName)),
  (Jvm.Cond.instanceMethod ({ cls := "ZoneShelf", name := "cut", desc := "()Z" } : Jvm.MethodName)),
  (Jvm.Cond.selects "ZoneShelf" ({ cls := "ZoneShelf", name := "cut", desc := "()Z" } : Jvm.MethodName) ({ cls := "ZoneShelf", name := "cut", desc := "()Z" } : Jvm.MethodName)),
  (Jvm.Cond.code ({ cls := "ZoneShelf", name := "cut", desc := "()Z" } : Jvm.MethodName) prog_1_method_10_code (1 : Nat) (Option.some Jvm.ClassFile.FieldType.boolean)),
  (Jvm.Cond.methodLink "ZoneShelfLaw" (51 : Nat) ({ cls := "ZoneShelf", name := "cut", desc := "()Z" } : Jvm.MethodName)),
  (Jvm.Cond.methodLink "ZoneShelfLaw" (55 : Nat) ({ cls := "ZoneShelf", name := "mount", desc := "()Z" } : Jvm.MethodName)),
  (Jvm.Cond.instanceMethod ({ cls := "ZoneShelf", name := "mount", desc := "()Z" } : Jvm.MethodName)),
  (Jvm.Cond.selects "ZoneShelf" ({ cls := "ZoneShelf", name := "mount", desc := "()Z" } : Jvm.MethodName) ({ cls := "ZoneShelf", name := "mount", desc := "()Z" } : Jvm.MethodName)),
  (Jvm.Cond.code ({ cls := "ZoneShelf", name := "mount", desc := "()Z" } : Jvm.MethodName) prog_1_method_11_code (1 : Nat) (Option.some Jvm.ClassFile.FieldType.boolean)),
  (Jvm.Cond.methodLink "ZoneShelfLaw" (59 : Nat) ({ cls := "ZoneShelf", name := "tidy", desc := "()Z" } : Jvm.MethodName)),
  (Jvm.Cond.instanceMethod ({ cls := "ZoneShelf", name := "tidy", desc := "()Z" } : Jvm.MethodName)),
  (Jvm.Cond.selects "ZoneShelf" ({ cls := "ZoneShelf", name := "tidy", desc := "()Z" } : Jvm.MethodName) ({ cls := "ZoneShelf", name := "tidy", desc := "()Z" } : Jvm.MethodName)),
  (Jvm.Cond.code ({ cls := "ZoneShelf", name := "tidy", desc := "()Z" } : Jvm.MethodName) prog_1_method_12_code (1 : Nat) (Option.some Jvm.ClassFile.FieldType.boolean)),
  (Jvm.Cond.methodLink "ZoneShelfLaw" (63 : Nat) ({ cls := "ZoneShelf", name := "isUp", desc := "()Z" } : Jvm.MethodName)),
  (Jvm.Cond.instanceMethod ({ cls := "ZoneShelf", name := "isUp", desc := "()Z" } : Jvm.MethodName)),
  (Jvm.Cond.selects "ZoneShelf" ({ cls := "ZoneShelf", name := "isUp", desc := "()Z" } : Jvm.MethodName) ({ cls := "ZoneShelf", name := "isUp", desc := "()Z" } : Jvm.MethodName)),
  (Jvm.Cond.code ({ cls := "ZoneShelf", name := "isUp", desc := "()Z" } : Jvm.MethodName) prog_1_method_13_code (1 : Nat) (Option.some Jvm.ClassFile.FieldType.boolean)),
  (Jvm.Cond.methodLink "ZoneShelfLaw" (67 : Nat) ({ cls := "ZoneShelf", name := "objects", desc := "()I" } : Jvm.MethodName)),
  (Jvm.Cond.instanceMethod ({ cls := "ZoneShelf", name := "objects", desc := "()I" } : Jvm.MethodName)),
  (Jvm.Cond.selects "ZoneShelf" ({ cls := "ZoneShelf", name := "objects", desc := "()I" } : Jvm.MethodName) ({ cls := "ZoneShelf", name := "objects", desc := "()I" } : Jvm.MethodName)),
  (Jvm.Cond.code ({ cls := "ZoneShelf", name := "objects", desc := "()I" } : Jvm.MethodName) prog_1_method_14_code (1 : Nat) (Option.some Jvm.ClassFile.FieldType.int)),
  (Jvm.Cond.instanceMethod ({ cls := "ZoneShelf$Contents", name := "countObjects", desc := "()I" } : Jvm.MethodName)),
  (Jvm.Cond.code ({ cls := "ZoneShelf$Contents", name := "countObjects", desc := "()I" } : Jvm.MethodName) prog_2_method_7_code (3 : Nat) (Option.some Jvm.ClassFile.FieldType.int)),
  (Jvm.Cond.methodLink "ZoneShelfLaw" (72 : Nat) ({ cls := "ZoneShelf", name := "room", desc := "()I" } : Jvm.MethodName)),
  (Jvm.Cond.instanceMethod ({ cls := "ZoneShelf", name := "room", desc := "()I" } : Jvm.MethodName)),
  (Jvm.Cond.selects "ZoneShelf" ({ cls := "ZoneShelf", name := "room", desc := "()I" } : Jvm.MethodName) ({ cls := "ZoneShelf", name := "room", desc := "()I" } : Jvm.MethodName)),
  (Jvm.Cond.code ({ cls := "ZoneShelf", name := "room", desc := "()I" } : Jvm.MethodName) prog_1_method_15_code (1 : Nat) (Option.some Jvm.ClassFile.FieldType.int)),
  (Jvm.Cond.methodLink "ZoneShelfLaw" (76 : Nat) ({ cls := "ZoneShelf", name := "object", desc := "(II)I" } : Jvm.MethodName)),
  (Jvm.Cond.instanceMethod ({ cls := "ZoneShelf", name := "object", desc := "(II)I" } : Jvm.MethodName)),
  (Jvm.Cond.selects "ZoneShelf" ({ cls := "ZoneShelf", name := "object", desc := "(II)I" } : Jvm.MethodName) ({ cls := "ZoneShelf", name := "object", desc := "(II)I" } : Jvm.MethodName)),
  (Jvm.Cond.code ({ cls := "ZoneShelf", name := "object", desc := "(II)I" } : Jvm.MethodName) prog_1_method_16_code (3 : Nat) (Option.some Jvm.ClassFile.FieldType.int)),
  (Jvm.Cond.methodLink "ZoneShelfLaw" (80 : Nat) ({ cls := "ZoneShelf", name := "word", desc := "(II)I" } : Jvm.MethodName)),
  (Jvm.Cond.instanceMethod ({ cls := "ZoneShelf", name := "word", desc := "(II)I" } : Jvm.MethodName)),
  (Jvm.Cond.selects "ZoneShelf" ({ cls := "ZoneShelf", name := "word", desc := "(II)I" } : Jvm.MethodName) ({ cls := "ZoneShelf", name := "word", desc := "(II)I" } : Jvm.MethodName)),
  (Jvm.Cond.code ({ cls := "ZoneShelf", name := "word", desc := "(II)I" } : Jvm.MethodName) prog_1_method_17_code (3 : Nat) (Option.some Jvm.ClassFile.FieldType.int)),
  (Jvm.Cond.methodLink "ZoneShelfLaw" (84 : Nat) ({ cls := "ZoneShelf", name := "find", desc := "(I)I" } : Jvm.MethodName)),
  (Jvm.Cond.instanceMethod ({ cls := "ZoneShelf", name := "find", desc := "(I)I" } : Jvm.MethodName)),
  (Jvm.Cond.selects "ZoneShelf" ({ cls := "ZoneShelf", name := "find", desc := "(I)I" } : Jvm.MethodName) ({ cls := "ZoneShelf", name := "find", desc := "(I)I" } : Jvm.MethodName)),
  (Jvm.Cond.code ({ cls := "ZoneShelf", name := "find", desc := "(I)I" } : Jvm.MethodName) prog_1_method_18_code (2 : Nat) (Option.some Jvm.ClassFile.FieldType.int)),
  (Jvm.Cond.methodLink "ZoneShelfLaw" (89 : Nat) ({ cls := "ZoneShelf", name := "list", desc := "(I)I" } : Jvm.MethodName)),
  (Jvm.Cond.instanceMethod ({ cls := "ZoneShelf", name := "list", desc := "(I)I" } : Jvm.MethodName)),
  (Jvm.Cond.selects "ZoneShelf" ({ cls := "ZoneShelf", name := "list", desc := "(I)I" } : Jvm.MethodName) ({ cls := "ZoneShelf", name := "list", desc := "(I)I" } : Jvm.MethodName)),
  (Jvm.Cond.code ({ cls := "ZoneShelf", name := "list", desc := "(I)I" } : Jvm.MethodName) prog_1_method_19_code (2 : Nat) (Option.some Jvm.ClassFile.FieldType.int)),
  (Jvm.Cond.instanceMethod ({ cls := "ZoneShelf$Contents", name := "numberAtRank", desc := "(I)I" } : Jvm.MethodName)),
  (Jvm.Cond.code ({ cls := "ZoneShelf$Contents", name := "numberAtRank", desc := "(I)I" } : Jvm.MethodName) prog_2_method_5_code (3 : Nat) (Option.some Jvm.ClassFile.FieldType.int)),
  (Jvm.Cond.methodLink "ZoneShelf$Contents" (38 : Nat) ({ cls := "ZoneShelf$Contents", name := "countNamesBelow", desc := "(I)I" } : Jvm.MethodName)),
  (Jvm.Cond.instanceMethod ({ cls := "ZoneShelf$Contents", name := "countNamesBelow", desc := "(I)I" } : Jvm.MethodName)),
  (Jvm.Cond.code ({ cls := "ZoneShelf$Contents", name := "countNamesBelow", desc := "(I)I" } : Jvm.MethodName) prog_2_method_6_code (4 : Nat) (Option.some Jvm.ClassFile.FieldType.int)),
  (Jvm.Cond.classLink "ZoneShelfLaw" (10 : Nat) "ZoneShelfModel"),
  (Jvm.Cond.instantiable "ZoneShelfModel" (11 : Nat)),
  (Jvm.Cond.methodLink "ZoneShelfLaw" (12 : Nat) ({ cls := "ZoneShelfModel", name := "<init>", desc := "()V" } : Jvm.MethodName)),
  (Jvm.Cond.instanceMethod ({ cls := "ZoneShelfModel", name := "<init>", desc := "()V" } : Jvm.MethodName)),
  (Jvm.Cond.code ({ cls := "ZoneShelfModel", name := "<init>", desc := "()V" } : Jvm.MethodName) prog_4_method_1_code (1 : Nat) (Option.none : Option Jvm.ClassFile.FieldType)),
  (Jvm.Cond.methodLink "ZoneShelfModel" (1 : Nat) ({ cls := "java/lang/Object", name := "<init>", desc := "()V" } : Jvm.MethodName)),
  (Jvm.Cond.fieldLink "ZoneShelfModel" (7 : Nat) "ZoneShelfModel" "up" "Z"),
  (Jvm.Cond.fieldLink "ZoneShelfModel" (13 : Nat) "ZoneShelfModel" "names" "[I"),
  (Jvm.Cond.fieldLink "ZoneShelfModel" (17 : Nat) "ZoneShelfModel" "hints" "[I"),
  (Jvm.Cond.fieldLink "ZoneShelfModel" (20 : Nat) "ZoneShelfModel" "sizes" "[I"),
  (Jvm.Cond.fieldLink "ZoneShelfModel" (23 : Nat) "ZoneShelfModel" "opens" "[Z"),
  (Jvm.Cond.fieldLink "ZoneShelfModel" (27 : Nat) "ZoneShelfModel" "words" "[I"),
  (Jvm.Cond.fieldLink "ZoneShelfModel" (30 : Nat) "ZoneShelfModel" "oldNames" "[I"),
  (Jvm.Cond.fieldLink "ZoneShelfModel" (33 : Nat) "ZoneShelfModel" "oldHints" "[I"),
  (Jvm.Cond.fieldLink "ZoneShelfModel" (36 : Nat) "ZoneShelfModel" "oldSizes" "[I"),
  (Jvm.Cond.fieldLink "ZoneShelfModel" (39 : Nat) "ZoneShelfModel" "oldOpens" "[Z"),
  (Jvm.Cond.fieldLink "ZoneShelfModel" (42 : Nat) "ZoneShelfModel" "oldWords" "[I"),
  (Jvm.Cond.lays "ZoneShelfModel" "ZoneShelfModel" "up" "Z"),
  (Jvm.Cond.laysFinal "ZoneShelfModel" "ZoneShelfModel" "names" "[I"),
  (Jvm.Cond.laysFinal "ZoneShelfModel" "ZoneShelfModel" "hints" "[I"),
  (Jvm.Cond.laysFinal "ZoneShelfModel" "ZoneShelfModel" "sizes" "[I"),
  (Jvm.Cond.laysFinal "ZoneShelfModel" "ZoneShelfModel" "opens" "[Z"),
  (Jvm.Cond.laysFinal "ZoneShelfModel" "ZoneShelfModel" "words" "[I"),
  (Jvm.Cond.laysFinal "ZoneShelfModel" "ZoneShelfModel" "oldNames" "[I"),
  (Jvm.Cond.laysFinal "ZoneShelfModel" "ZoneShelfModel" "oldHints" "[I"),
  (Jvm.Cond.laysFinal "ZoneShelfModel" "ZoneShelfModel" "oldSizes" "[I"),
  (Jvm.Cond.laysFinal "ZoneShelfModel" "ZoneShelfModel" "oldOpens" "[Z"),
  (Jvm.Cond.laysFinal "ZoneShelfModel" "ZoneShelfModel" "oldWords" "[I"),
  (Jvm.Cond.methodLink "ZoneShelfLaw" (17 : Nat) ({ cls := "ZoneShelfModel", name := "create", desc := "(II)I" } : Jvm.MethodName)),
  (Jvm.Cond.instanceMethod ({ cls := "ZoneShelfModel", name := "create", desc := "(II)I" } : Jvm.MethodName)),
  (Jvm.Cond.selects "ZoneShelfModel" ({ cls := "ZoneShelfModel", name := "create", desc := "(II)I" } : Jvm.MethodName) ({ cls := "ZoneShelfModel", name := "create", desc := "(II)I" } : Jvm.MethodName)),
  (Jvm.Cond.code ({ cls := "ZoneShelfModel", name := "create", desc := "(II)I" } : Jvm.MethodName) prog_4_method_6_code (4 : Nat) (Option.some Jvm.ClassFile.FieldType.int)),
  (Jvm.Cond.methodLink "ZoneShelfModel" (45 : Nat) ({ cls := "ZoneShelfModel", name := "isName", desc := "(I)Z" } : Jvm.MethodName)),
  (Jvm.Cond.static ({ cls := "ZoneShelfModel", name := "isName", desc := "(I)Z" } : Jvm.MethodName)),
  (Jvm.Cond.code ({ cls := "ZoneShelfModel", name := "isName", desc := "(I)Z" } : Jvm.MethodName) prog_4_method_3_code (1 : Nat) (Option.some Jvm.ClassFile.FieldType.boolean)),
  (Jvm.Cond.methodLink "ZoneShelfModel" (52 : Nat) ({ cls := "ZoneShelfModel", name := "named", desc := "(I)I" } : Jvm.MethodName)),
  (Jvm.Cond.instanceMethod ({ cls := "ZoneShelfModel", name := "named", desc := "(I)I" } : Jvm.MethodName)),
  (Jvm.Cond.code ({ cls := "ZoneShelfModel", name := "named", desc := "(I)I" } : Jvm.MethodName) prog_4_method_4_code (4 : Nat) (Option.some Jvm.ClassFile.FieldType.int)),
  (Jvm.Cond.methodLink "ZoneShelfModel" (49 : Nat) ({ cls := "ZoneShelfModel", name := "is", desc := "(I)Z" } : Jvm.MethodName)),
  (Jvm.Cond.instanceMethod ({ cls := "ZoneShelfModel", name := "is", desc := "(I)Z" } : Jvm.MethodName)),
  (Jvm.Cond.code ({ cls := "ZoneShelfModel", name := "is", desc := "(I)Z" } : Jvm.MethodName) prog_4_method_2_code (2 : Nat) (Option.some Jvm.ClassFile.FieldType.boolean)),
  (Jvm.Cond.methodLink "ZoneShelfLaw" (22 : Nat) ({ cls := "ZoneShelfModel", name := "append", desc := "(II)Z" } : Jvm.MethodName)),
  (Jvm.Cond.instanceMethod ({ cls := "ZoneShelfModel", name := "append", desc := "(II)Z" } : Jvm.MethodName)),
  (Jvm.Cond.selects "ZoneShelfModel" ({ cls := "ZoneShelfModel", name := "append", desc := "(II)Z" } : Jvm.MethodName) ({ cls := "ZoneShelfModel", name := "append", desc := "(II)Z" } : Jvm.MethodName)),
  (Jvm.Cond.code ({ cls := "ZoneShelfModel", name := "append", desc := "(II)Z" } : Jvm.MethodName) prog_4_method_7_code (3 : Nat) (Option.some Jvm.ClassFile.FieldType.boolean)),
  (Jvm.Cond.methodLink "ZoneShelfModel" (56 : Nat) ({ cls := "ZoneShelfModel", name := "appendRow", desc := "(III)Z" } : Jvm.MethodName)),
  (Jvm.Cond.instanceMethod ({ cls := "ZoneShelfModel", name := "appendRow", desc := "(III)Z" } : Jvm.MethodName)),
  (Jvm.Cond.selects "ZoneShelfModel" ({ cls := "ZoneShelfModel", name := "appendRow", desc := "(III)Z" } : Jvm.MethodName) ({ cls := "ZoneShelfModel", name := "appendRow", desc := "(III)Z" } : Jvm.MethodName)),
  (Jvm.Cond.code ({ cls := "ZoneShelfModel", name := "appendRow", desc := "(III)Z" } : Jvm.MethodName) prog_4_method_8_code (5 : Nat) (Option.some Jvm.ClassFile.FieldType.boolean)),
  (Jvm.Cond.methodLink "ZoneShelfModel" (60 : Nat) ({ cls := "ZoneShelfModel", name := "left", desc := "()I" } : Jvm.MethodName)),
  (Jvm.Cond.instanceMethod ({ cls := "ZoneShelfModel", name := "left", desc := "()I" } : Jvm.MethodName)),
  (Jvm.Cond.code ({ cls := "ZoneShelfModel", name := "left", desc := "()I" } : Jvm.MethodName) prog_4_method_5_code (3 : Nat) (Option.some Jvm.ClassFile.FieldType.int)),
  (Jvm.Cond.methodLink "ZoneShelfLaw" (27 : Nat) ({ cls := "ZoneShelfModel", name := "appendRow", desc := "(III)Z" } : Jvm.MethodName)),
  (Jvm.Cond.methodLink "ZoneShelfLaw" (32 : Nat) ({ cls := "ZoneShelfModel", name := "open", desc := "(IZ)Z" } : Jvm.MethodName)),
  (Jvm.Cond.instanceMethod ({ cls := "ZoneShelfModel", name := "open", desc := "(IZ)Z" } : Jvm.MethodName)),
  (Jvm.Cond.selects "ZoneShelfModel" ({ cls := "ZoneShelfModel", name := "open", desc := "(IZ)Z" } : Jvm.MethodName) ({ cls := "ZoneShelfModel", name := "open", desc := "(IZ)Z" } : Jvm.MethodName)),
  (Jvm.Cond.code ({ cls := "ZoneShelfModel", name := "open", desc := "(IZ)Z" } : Jvm.MethodName) prog_4_method_9_code (3 : Nat) (Option.some Jvm.ClassFile.FieldType.boolean)),
  (Jvm.Cond.methodLink "ZoneShelfLaw" (37 : Nat) ({ cls := "ZoneShelfModel", name := "remove", desc := "(I)Z" } : Jvm.MethodName)),
  (Jvm.Cond.instanceMethod ({ cls := "ZoneShelfModel", name := "remove", desc := "(I)Z" } : Jvm.MethodName)),
  (Jvm.Cond.selects "ZoneShelfModel" ({ cls := "ZoneShelfModel", name := "remove", desc := "(I)Z" } : Jvm.MethodName) ({ cls := "ZoneShelfModel", name := "remove", desc := "(I)Z" } : Jvm.MethodName)),
  (Jvm.Cond.code ({ cls := "ZoneShelfModel", name := "remove", desc := "(I)Z" } : Jvm.MethodName) prog_4_method_10_code (2 : Nat) (Option.some Jvm.ClassFile.FieldType.boolean)),
  (Jvm.Cond.methodLink "ZoneShelfLaw" (41 : Nat) ({ cls := "ZoneShelfModel", name := "rename", desc := "(II)Z" } : Jvm.MethodName)),
  (Jvm.Cond.instanceMethod ({ cls := "ZoneShelfModel", name := "rename", desc := "(II)Z" } : Jvm.MethodName)),
  (Jvm.Cond.selects "ZoneShelfModel" ({ cls := "ZoneShelfModel", name := "rename", desc := "(II)Z" } : Jvm.MethodName) ({ cls := "ZoneShelfModel", name := "rename", desc := "(II)Z" } : Jvm.MethodName)),
  (Jvm.Cond.code ({ cls := "ZoneShelfModel", name := "rename", desc := "(II)Z" } : Jvm.MethodName) prog_4_method_11_code (3 : Nat) (Option.some Jvm.ClassFile.FieldType.boolean)),
  (Jvm.Cond.methodLink "ZoneShelfLaw" (46 : Nat) ({ cls := "ZoneShelfModel", name := "sync", desc := "()Z" } : Jvm.MethodName)),
  (Jvm.Cond.instanceMethod ({ cls := "ZoneShelfModel", name := "sync", desc := "()Z" } : Jvm.MethodName)),
  (Jvm.Cond.selects "ZoneShelfModel" ({ cls := "ZoneShelfModel", name := "sync", desc := "()Z" } : Jvm.MethodName) ({ cls := "ZoneShelfModel", name := "sync", desc := "()Z" } : Jvm.MethodName)),
  (Jvm.Cond.code ({ cls := "ZoneShelfModel", name := "sync", desc := "()Z" } : Jvm.MethodName) prog_4_method_12_code (2 : Nat) (Option.some Jvm.ClassFile.FieldType.boolean)),
  (Jvm.Cond.methodLink "ZoneShelfLaw" (50 : Nat) ({ cls := "ZoneShelfModel", name := "tear", desc := "()Z" } : Jvm.MethodName)),
  (Jvm.Cond.instanceMethod ({ cls := "ZoneShelfModel", name := "tear", desc := "()Z" } : Jvm.MethodName)),
  (Jvm.Cond.selects "ZoneShelfModel" ({ cls := "ZoneShelfModel", name := "tear", desc := "()Z" } : Jvm.MethodName) ({ cls := "ZoneShelfModel", name := "tear", desc := "()Z" } : Jvm.MethodName)),
  (Jvm.Cond.code ({ cls := "ZoneShelfModel", name := "tear", desc := "()Z" } : Jvm.MethodName) prog_4_method_13_code (1 : Nat) (Option.some Jvm.ClassFile.FieldType.boolean)),
  (Jvm.Cond.methodLink "ZoneShelfModel" (64 : Nat) ({ cls := "ZoneShelfModel", name := "cut", desc := "()Z" } : Jvm.MethodName)),
  (Jvm.Cond.instanceMethod ({ cls := "ZoneShelfModel", name := "cut", desc := "()Z" } : Jvm.MethodName)),
  (Jvm.Cond.selects "ZoneShelfModel" ({ cls := "ZoneShelfModel", name := "cut", desc := "()Z" } : Jvm.MethodName) ({ cls := "ZoneShelfModel", name := "cut", desc := "()Z" } : Jvm.MethodName)),
  (Jvm.Cond.code ({ cls := "ZoneShelfModel", name := "cut", desc := "()Z" } : Jvm.MethodName) prog_4_method_14_code (2 : Nat) (Option.some Jvm.ClassFile.FieldType.boolean)),
  (Jvm.Cond.methodLink "ZoneShelfLaw" (54 : Nat) ({ cls := "ZoneShelfModel", name := "cut", desc := "()Z" } : Jvm.MethodName)),
  (Jvm.Cond.methodLink "ZoneShelfLaw" (58 : Nat) ({ cls := "ZoneShelfModel", name := "mount", desc := "()Z" } : Jvm.MethodName)),
  (Jvm.Cond.instanceMethod ({ cls := "ZoneShelfModel", name := "mount", desc := "()Z" } : Jvm.MethodName)),
  (Jvm.Cond.selects "ZoneShelfModel" ({ cls := "ZoneShelfModel", name := "mount", desc := "()Z" } : Jvm.MethodName) ({ cls := "ZoneShelfModel", name := "mount", desc := "()Z" } : Jvm.MethodName)),
  (Jvm.Cond.code ({ cls := "ZoneShelfModel", name := "mount", desc := "()Z" } : Jvm.MethodName) prog_4_method_15_code (2 : Nat) (Option.some Jvm.ClassFile.FieldType.boolean)),
  (Jvm.Cond.methodLink "ZoneShelfLaw" (62 : Nat) ({ cls := "ZoneShelfModel", name := "tidy", desc := "()Z" } : Jvm.MethodName)),
  (Jvm.Cond.instanceMethod ({ cls := "ZoneShelfModel", name := "tidy", desc := "()Z" } : Jvm.MethodName)),
  (Jvm.Cond.selects "ZoneShelfModel" ({ cls := "ZoneShelfModel", name := "tidy", desc := "()Z" } : Jvm.MethodName) ({ cls := "ZoneShelfModel", name := "tidy", desc := "()Z" } : Jvm.MethodName)),
  (Jvm.Cond.code ({ cls := "ZoneShelfModel", name := "tidy", desc := "()Z" } : Jvm.MethodName) prog_4_method_16_code (1 : Nat) (Option.some Jvm.ClassFile.FieldType.boolean)),
  (Jvm.Cond.methodLink "ZoneShelfLaw" (66 : Nat) ({ cls := "ZoneShelfModel", name := "isUp", desc := "()Z" } : Jvm.MethodName)),
  (Jvm.Cond.instanceMethod ({ cls := "ZoneShelfModel", name := "isUp", desc := "()Z" } : Jvm.MethodName)),
  (Jvm.Cond.selects "ZoneShelfModel" ({ cls := "ZoneShelfModel", name := "isUp", desc := "()Z" } : Jvm.MethodName) ({ cls := "ZoneShelfModel", name := "isUp", desc := "()Z" } : Jvm.MethodName)),
  (Jvm.Cond.code ({ cls := "ZoneShelfModel", name := "isUp", desc := "()Z" } : Jvm.MethodName) prog_4_method_17_code (1 : Nat) (Option.some Jvm.ClassFile.FieldType.boolean)),
  (Jvm.Cond.methodLink "ZoneShelfLaw" (71 : Nat) ({ cls := "ZoneShelfModel", name := "objects", desc := "()I" } : Jvm.MethodName)),
  (Jvm.Cond.instanceMethod ({ cls := "ZoneShelfModel", name := "objects", desc := "()I" } : Jvm.MethodName)),
  (Jvm.Cond.selects "ZoneShelfModel" ({ cls := "ZoneShelfModel", name := "objects", desc := "()I" } : Jvm.MethodName) ({ cls := "ZoneShelfModel", name := "objects", desc := "()I" } : Jvm.MethodName)),
  (Jvm.Cond.code ({ cls := "ZoneShelfModel", name := "objects", desc := "()I" } : Jvm.MethodName) prog_4_method_18_code (3 : Nat) (Option.some Jvm.ClassFile.FieldType.int)),
  (Jvm.Cond.methodLink "ZoneShelfLaw" (75 : Nat) ({ cls := "ZoneShelfModel", name := "room", desc := "()I" } : Jvm.MethodName)),
  (Jvm.Cond.instanceMethod ({ cls := "ZoneShelfModel", name := "room", desc := "()I" } : Jvm.MethodName)),
  (Jvm.Cond.selects "ZoneShelfModel" ({ cls := "ZoneShelfModel", name := "room", desc := "()I" } : Jvm.MethodName) ({ cls := "ZoneShelfModel", name := "room", desc := "()I" } : Jvm.MethodName)),
  (Jvm.Cond.code ({ cls := "ZoneShelfModel", name := "room", desc := "()I" } : Jvm.MethodName) prog_4_method_19_code (1 : Nat) (Option.some Jvm.ClassFile.FieldType.int)),
  (Jvm.Cond.methodLink "ZoneShelfLaw" (79 : Nat) ({ cls := "ZoneShelfModel", name := "object", desc := "(II)I" } : Jvm.MethodName)),
  (Jvm.Cond.instanceMethod ({ cls := "ZoneShelfModel", name := "object", desc := "(II)I" } : Jvm.MethodName)),
  (Jvm.Cond.selects "ZoneShelfModel" ({ cls := "ZoneShelfModel", name := "object", desc := "(II)I" } : Jvm.MethodName) ({ cls := "ZoneShelfModel", name := "object", desc := "(II)I" } : Jvm.MethodName)),
  (Jvm.Cond.code ({ cls := "ZoneShelfModel", name := "object", desc := "(II)I" } : Jvm.MethodName) prog_4_method_20_code (3 : Nat) (Option.some Jvm.ClassFile.FieldType.int)),
  (Jvm.Cond.methodLink "ZoneShelfLaw" (83 : Nat) ({ cls := "ZoneShelfModel", name := "word", desc := "(II)I" } : Jvm.MethodName)),
  (Jvm.Cond.instanceMethod ({ cls := "ZoneShelfModel", name := "word", desc := "(II)I" } : Jvm.MethodName)),
  (Jvm.Cond.selects "ZoneShelfModel" ({ cls := "ZoneShelfModel", name := "word", desc := "(II)I" } : Jvm.MethodName) ({ cls := "ZoneShelfModel", name := "word", desc := "(II)I" } : Jvm.MethodName)),
  (Jvm.Cond.code ({ cls := "ZoneShelfModel", name := "word", desc := "(II)I" } : Jvm.MethodName) prog_4_method_21_code (3 : Nat) (Option.some Jvm.ClassFile.FieldType.int)),
  (Jvm.Cond.methodLink "ZoneShelfLaw" (88 : Nat) ({ cls := "ZoneShelfModel", name := "find", desc := "(I)I" } : Jvm.MethodName)),
  (Jvm.Cond.instanceMethod ({ cls := "ZoneShelfModel", name := "find", desc := "(I)I" } : Jvm.MethodName)),
  (Jvm.Cond.selects "ZoneShelfModel" ({ cls := "ZoneShelfModel", name := "find", desc := "(I)I" } : Jvm.MethodName) ({ cls := "ZoneShelfModel", name := "find", desc := "(I)I" } : Jvm.MethodName)),
  (Jvm.Cond.code ({ cls := "ZoneShelfModel", name := "find", desc := "(I)I" } : Jvm.MethodName) prog_4_method_22_code (2 : Nat) (Option.some Jvm.ClassFile.FieldType.int)),
  (Jvm.Cond.methodLink "ZoneShelfLaw" (92 : Nat) ({ cls := "ZoneShelfModel", name := "list", desc := "(I)I" } : Jvm.MethodName)),
  (Jvm.Cond.instanceMethod ({ cls := "ZoneShelfModel", name := "list", desc := "(I)I" } : Jvm.MethodName)),
  (Jvm.Cond.selects "ZoneShelfModel" ({ cls := "ZoneShelfModel", name := "list", desc := "(I)I" } : Jvm.MethodName) ({ cls := "ZoneShelfModel", name := "list", desc := "(I)I" } : Jvm.MethodName)),
  (Jvm.Cond.code ({ cls := "ZoneShelfModel", name := "list", desc := "(I)I" } : Jvm.MethodName) prog_4_method_23_code (5 : Nat) (Option.some Jvm.ClassFile.FieldType.int))]
/-- the links between nest mates -/
def zs_n : List Cond := [(Jvm.Cond.methodLinkNest "ZoneShelf" (9 : Nat) ({ cls := "ZoneShelf$Contents", name := "<init>", desc := "()V" } : Jvm.MethodName) "ZoneShelf"),
  (Jvm.Cond.fieldLinkNest "ZoneShelf" (60 : Nat) "ZoneShelf$Contents" "names" "[I" "ZoneShelf"),
  (Jvm.Cond.fieldLinkNest "ZoneShelf" (78 : Nat) "ZoneShelf$Contents" "hints" "[I" "ZoneShelf"),
  (Jvm.Cond.fieldLinkNest "ZoneShelf" (81 : Nat) "ZoneShelf$Contents" "lengths" "[I" "ZoneShelf"),
  (Jvm.Cond.fieldLinkNest "ZoneShelf" (45 : Nat) "ZoneShelf$Contents" "opened" "[Z" "ZoneShelf"),
  (Jvm.Cond.fieldLinkNest "ZoneShelf" (84 : Nat) "ZoneShelf$Contents" "words" "[I" "ZoneShelf"),
  (Jvm.Cond.methodLinkNest "ZoneShelf" (90 : Nat) ({ cls := "ZoneShelf$Contents", name := "numberOf", desc := "(I)I" } : Jvm.MethodName) "ZoneShelf"),
  (Jvm.Cond.methodLinkNest "ZoneShelf" (30 : Nat) ({ cls := "ZoneShelf$Contents", name := "leastFreeNumber", desc := "()I" } : Jvm.MethodName) "ZoneShelf"),
  (Jvm.Cond.methodLinkNest "ZoneShelf" (34 : Nat) ({ cls := "ZoneShelf$Contents", name := "place", desc := "(III)V" } : Jvm.MethodName) "ZoneShelf"),
  (Jvm.Cond.methodLinkNest "ZoneShelf" (96 : Nat) ({ cls := "ZoneShelf$Contents", name := "isTaken", desc := "(I)Z" } : Jvm.MethodName) "ZoneShelf"),
  (Jvm.Cond.methodLinkNest "ZoneShelf" (75 : Nat) ({ cls := "ZoneShelf$Contents", name := "countWords", desc := "()I" } : Jvm.MethodName) "ZoneShelf"),
  (Jvm.Cond.methodLinkNest "ZoneShelf" (53 : Nat) ({ cls := "ZoneShelf$Contents", name := "addRow", desc := "(III)V" } : Jvm.MethodName) "ZoneShelf"),
  (Jvm.Cond.methodLinkNest "ZoneShelf" (56 : Nat) ({ cls := "ZoneShelf$Contents", name := "takeAway", desc := "(I)V" } : Jvm.MethodName) "ZoneShelf"),
  (Jvm.Cond.methodLinkNest "ZoneShelf" (64 : Nat) ({ cls := "ZoneShelf$Contents", name := "copyFrom", desc := "(LZoneShelf$Contents;)V" } : Jvm.MethodName) "ZoneShelf"),
  (Jvm.Cond.methodLinkNest "ZoneShelf" (72 : Nat) ({ cls := "ZoneShelf$Contents", name := "countObjects", desc := "()I" } : Jvm.MethodName) "ZoneShelf"),
  (Jvm.Cond.methodLinkNest "ZoneShelf" (93 : Nat) ({ cls := "ZoneShelf$Contents", name := "numberAtRank", desc := "(I)I" } : Jvm.MethodName) "ZoneShelf")]
theorem zs_w_all : zs_w.all goodWord = true := by decide +kernel
theorem zq_0 : (Jvm.Cond.selects "ZoneShelf" ({ cls := "ZoneShelf", name := "isFreeName", desc := "(I)Z" } : Jvm.MethodName) ({ cls := "ZoneShelf", name := "isFreeName", desc := "(I)Z" } : Jvm.MethodName)) ∈ zs_w := List.mem_of_getElem? (i := 0) rfl
theorem zq_1 : (Jvm.Cond.selects "ZoneShelf$Contents" ({ cls := "ZoneShelf$Contents", name := "numberOf", desc := "(I)I" } : Jvm.MethodName) ({ cls := "ZoneShelf$Contents", name := "numberOf", desc := "(I)I" } : Jvm.MethodName)) ∈ zs_w := List.mem_of_getElem? (i := 1) rfl
theorem zq_2 : (Jvm.Cond.selects "ZoneShelf$Contents" ({ cls := "ZoneShelf$Contents", name := "leastFreeNumber", desc := "()I" } : Jvm.MethodName) ({ cls := "ZoneShelf$Contents", name := "leastFreeNumber", desc := "()I" } : Jvm.MethodName)) ∈ zs_w := List.mem_of_getElem? (i := 2) rfl
theorem zq_3 : (Jvm.Cond.selects "ZoneShelf$Contents" ({ cls := "ZoneShelf$Contents", name := "isTaken", desc := "(I)Z" } : Jvm.MethodName) ({ cls := "ZoneShelf$Contents", name := "isTaken", desc := "(I)Z" } : Jvm.MethodName)) ∈ zs_w := List.mem_of_getElem? (i := 3) rfl
theorem zq_4 : (Jvm.Cond.selects "ZoneShelf$Contents" ({ cls := "ZoneShelf$Contents", name := "place", desc := "(III)V" } : Jvm.MethodName) ({ cls := "ZoneShelf$Contents", name := "place", desc := "(III)V" } : Jvm.MethodName)) ∈ zs_w := List.mem_of_getElem? (i := 4) rfl
theorem zq_5 : (Jvm.Cond.selects "ZoneShelf" ({ cls := "ZoneShelf", name := "isThere", desc := "(I)Z" } : Jvm.MethodName) ({ cls := "ZoneShelf", name := "isThere", desc := "(I)Z" } : Jvm.MethodName)) ∈ zs_w := List.mem_of_getElem? (i := 5) rfl
theorem zq_6 : (Jvm.Cond.selects "ZoneShelf" ({ cls := "ZoneShelf", name := "roomIn", desc := "(I)I" } : Jvm.MethodName) ({ cls := "ZoneShelf", name := "roomIn", desc := "(I)I" } : Jvm.MethodName)) ∈ zs_w := List.mem_of_getElem? (i := 6) rfl
theorem zq_7 : (Jvm.Cond.selects "ZoneShelf$Contents" ({ cls := "ZoneShelf$Contents", name := "countWords", desc := "()I" } : Jvm.MethodName) ({ cls := "ZoneShelf$Contents", name := "countWords", desc := "()I" } : Jvm.MethodName)) ∈ zs_w := List.mem_of_getElem? (i := 7) rfl
theorem zq_8 : (Jvm.Cond.selects "ZoneShelf$Contents" ({ cls := "ZoneShelf$Contents", name := "addRow", desc := "(III)V" } : Jvm.MethodName) ({ cls := "ZoneShelf$Contents", name := "addRow", desc := "(III)V" } : Jvm.MethodName)) ∈ zs_w := List.mem_of_getElem? (i := 8) rfl
theorem zq_9 : (Jvm.Cond.selects "ZoneShelf$Contents" ({ cls := "ZoneShelf$Contents", name := "takeAway", desc := "(I)V" } : Jvm.MethodName) ({ cls := "ZoneShelf$Contents", name := "takeAway", desc := "(I)V" } : Jvm.MethodName)) ∈ zs_w := List.mem_of_getElem? (i := 9) rfl
theorem zq_10 : (Jvm.Cond.selects "ZoneShelf$Contents" ({ cls := "ZoneShelf$Contents", name := "copyFrom", desc := "(LZoneShelf$Contents;)V" } : Jvm.MethodName) ({ cls := "ZoneShelf$Contents", name := "copyFrom", desc := "(LZoneShelf$Contents;)V" } : Jvm.MethodName)) ∈ zs_w := List.mem_of_getElem? (i := 10) rfl
theorem zq_11 : (Jvm.Cond.selects "ZoneShelf$Contents" ({ cls := "ZoneShelf$Contents", name := "countObjects", desc := "()I" } : Jvm.MethodName) ({ cls := "ZoneShelf$Contents", name := "countObjects", desc := "()I" } : Jvm.MethodName)) ∈ zs_w := List.mem_of_getElem? (i := 11) rfl
theorem zq_12 : (Jvm.Cond.selects "ZoneShelf$Contents" ({ cls := "ZoneShelf$Contents", name := "numberAtRank", desc := "(I)I" } : Jvm.MethodName) ({ cls := "ZoneShelf$Contents", name := "numberAtRank", desc := "(I)I" } : Jvm.MethodName)) ∈ zs_w := List.mem_of_getElem? (i := 12) rfl
theorem zq_13 : (Jvm.Cond.selects "ZoneShelf$Contents" ({ cls := "ZoneShelf$Contents", name := "countNamesBelow", desc := "(I)I" } : Jvm.MethodName) ({ cls := "ZoneShelf$Contents", name := "countNamesBelow", desc := "(I)I" } : Jvm.MethodName)) ∈ zs_w := List.mem_of_getElem? (i := 13) rfl
theorem zq_14 : (Jvm.Cond.selects "ZoneShelfModel" ({ cls := "ZoneShelfModel", name := "named", desc := "(I)I" } : Jvm.MethodName) ({ cls := "ZoneShelfModel", name := "named", desc := "(I)I" } : Jvm.MethodName)) ∈ zs_w := List.mem_of_getElem? (i := 14) rfl
theorem zq_15 : (Jvm.Cond.selects "ZoneShelfModel" ({ cls := "ZoneShelfModel", name := "is", desc := "(I)Z" } : Jvm.MethodName) ({ cls := "ZoneShelfModel", name := "is", desc := "(I)Z" } : Jvm.MethodName)) ∈ zs_w := List.mem_of_getElem? (i := 15) rfl
theorem zq_16 : (Jvm.Cond.selects "ZoneShelfModel" ({ cls := "ZoneShelfModel", name := "left", desc := "()I" } : Jvm.MethodName) ({ cls := "ZoneShelfModel", name := "left", desc := "()I" } : Jvm.MethodName)) ∈ zs_w := List.mem_of_getElem? (i := 16) rfl
theorem zq_17 : (Jvm.Cond.initialized "ZoneShelfLaw") ∈ zs_w := List.mem_of_getElem? (i := 17) rfl
theorem zq_18 : (Jvm.Cond.initialized "ZoneShelf") ∈ zs_w := List.mem_of_getElem? (i := 18) rfl
theorem zq_19 : (Jvm.Cond.initialized "ZoneShelf$Contents") ∈ zs_w := List.mem_of_getElem? (i := 19) rfl
theorem zq_20 : (Jvm.Cond.initialized "java/util/Arrays") ∈ zs_w := List.mem_of_getElem? (i := 20) rfl
theorem zq_21 : (Jvm.Cond.initialized "ZoneShelfModel") ∈ zs_w := List.mem_of_getElem? (i := 21) rfl
theorem zq_22 : (Jvm.Cond.initialized "java/lang/Math") ∈ zs_w := List.mem_of_getElem? (i := 22) rfl
theorem zq_23 : (Jvm.Cond.initialized "java/lang/System") ∈ zs_w := List.mem_of_getElem? (i := 23) rfl
theorem zq_24 : (Jvm.Cond.classLink "ZoneShelfLaw" (7 : Nat) "ZoneShelf") ∈ zs_w := List.mem_of_getElem? (i := 24) rfl
theorem zq_25 : (Jvm.Cond.instantiable "ZoneShelf" (3 : Nat)) ∈ zs_w := List.mem_of_getElem? (i := 25) rfl
theorem zq_26 : (Jvm.Cond.methodLink "ZoneShelfLaw" (9 : Nat) ({ cls := "ZoneShelf", name := "<init>", desc := "()V" } : Jvm.MethodName)) ∈ zs_w := List.mem_of_getElem? (i := 26) rfl
theorem zq_27 : (Jvm.Cond.instanceMethod ({ cls := "ZoneShelf", name := "<init>", desc := "()V" } : Jvm.MethodName)) ∈ zs_w := List.mem_of_getElem? (i := 27) rfl
theorem zq_28 : (Jvm.Cond.code ({ cls := "ZoneShelf", name := "<init>", desc := "()V" } : Jvm.MethodName) prog_1_method_1_code (1 : Nat) (Option.none : Option Jvm.ClassFile.FieldType)) ∈ zs_w := List.mem_of_getElem? (i := 28) rfl
theorem zq_29 : (Jvm.Cond.methodLink "ZoneShelf" (1 : Nat) ({ cls := "java/lang/Object", name := "<init>", desc := "()V" } : Jvm.MethodName)) ∈ zs_w := List.mem_of_getElem? (i := 29) rfl
theorem zq_30 : (Jvm.Cond.instanceMethod ({ cls := "java/lang/Object", name := "<init>", desc := "()V" } : Jvm.MethodName)) ∈ zs_w := List.mem_of_getElem? (i := 30) rfl
theorem zq_31 : (Jvm.Cond.code ({ cls := "java/lang/Object", name := "<init>", desc := "()V" } : Jvm.MethodName) object_method_1_code (1 : Nat) (Option.none : Option Jvm.ClassFile.FieldType)) ∈ zs_w := List.mem_of_getElem? (i := 31) rfl
theorem zq_32 : (Jvm.Cond.classLink "ZoneShelf" (7 : Nat) "ZoneShelf$Contents") ∈ zs_w := List.mem_of_getElem? (i := 32) rfl
theorem zq_33 : (Jvm.Cond.instantiable "ZoneShelf$Contents" (5 : Nat)) ∈ zs_w := List.mem_of_getElem? (i := 33) rfl
theorem zq_34 : (Jvm.Cond.instanceMethod ({ cls := "ZoneShelf$Contents", name := "<init>", desc := "()V" } : Jvm.MethodName)) ∈ zs_w := List.mem_of_getElem? (i := 34) rfl
theorem zq_35 : (Jvm.Cond.code ({ cls := "ZoneShelf$Contents", name := "<init>", desc := "()V" } : Jvm.MethodName) prog_2_method_1_code (1 : Nat) (Option.none : Option Jvm.ClassFile.FieldType)) ∈ zs_w := List.mem_of_getElem? (i := 35) rfl
theorem zq_36 : (Jvm.Cond.methodLink "ZoneShelf$Contents" (3 : Nat) ({ cls := "java/lang/Object", name := "<init>", desc := "()V" } : Jvm.MethodName)) ∈ zs_w := List.mem_of_getElem? (i := 36) rfl
theorem zq_37 : (Jvm.Cond.methodLink "ZoneShelf$Contents" (28 : Nat) ({ cls := "java/util/Arrays", name := "fill", desc := "([II)V" } : Jvm.MethodName)) ∈ zs_w := List.mem_of_getElem? (i := 37) rfl
theorem zq_38 : (Jvm.Cond.static ({ cls := "java/util/Arrays", name := "fill", desc := "([II)V" } : Jvm.MethodName)) ∈ zs_w := List.mem_of_getElem? (i := 38) rfl
theorem zq_39 : (Jvm.Cond.code ({ cls := "java/util/Arrays", name := "fill", desc := "([II)V" } : Jvm.MethodName) prog_7_method_103_code (4 : Nat) (Option.none : Option Jvm.ClassFile.FieldType)) ∈ zs_w := List.mem_of_getElem? (i := 39) rfl
theorem zq_40 : (Jvm.Cond.fieldLink "ZoneShelf$Contents" (9 : Nat) "ZoneShelf$Contents" "names" "[I") ∈ zs_w := List.mem_of_getElem? (i := 40) rfl
theorem zq_41 : (Jvm.Cond.fieldLink "ZoneShelf$Contents" (15 : Nat) "ZoneShelf$Contents" "hints" "[I") ∈ zs_w := List.mem_of_getElem? (i := 41) rfl
theorem zq_42 : (Jvm.Cond.fieldLink "ZoneShelf$Contents" (18 : Nat) "ZoneShelf$Contents" "lengths" "[I") ∈ zs_w := List.mem_of_getElem? (i := 42) rfl
theorem zq_43 : (Jvm.Cond.fieldLink "ZoneShelf$Contents" (21 : Nat) "ZoneShelf$Contents" "opened" "[Z") ∈ zs_w := List.mem_of_getElem? (i := 43) rfl
theorem zq_44 : (Jvm.Cond.fieldLink "ZoneShelf$Contents" (25 : Nat) "ZoneShelf$Contents" "words" "[I") ∈ zs_w := List.mem_of_getElem? (i := 44) rfl
theorem zq_45 : (Jvm.Cond.laysFinal "ZoneShelf$Contents" "ZoneShelf$Contents" "names" "[I") ∈ zs_w := List.mem_of_getElem? (i := 45) rfl
theorem zq_46 : (Jvm.Cond.laysFinal "ZoneShelf$Contents" "ZoneShelf$Contents" "hints" "[I") ∈ zs_w := List.mem_of_getElem? (i := 46) rfl
theorem zq_47 : (Jvm.Cond.laysFinal "ZoneShelf$Contents" "ZoneShelf$Contents" "lengths" "[I") ∈ zs_w := List.mem_of_getElem? (i := 47) rfl
theorem zq_48 : (Jvm.Cond.laysFinal "ZoneShelf$Contents" "ZoneShelf$Contents" "opened" "[Z") ∈ zs_w := List.mem_of_getElem? (i := 48) rfl
theorem zq_49 : (Jvm.Cond.laysFinal "ZoneShelf$Contents" "ZoneShelf$Contents" "words" "[I") ∈ zs_w := List.mem_of_getElem? (i := 49) rfl
theorem zq_50 : (Jvm.Cond.arrayClass Jvm.ClassFile.FieldType.int) ∈ zs_w := List.mem_of_getElem? (i := 50) rfl
theorem zq_51 : (Jvm.Cond.arrayClass Jvm.ClassFile.FieldType.boolean) ∈ zs_w := List.mem_of_getElem? (i := 51) rfl
theorem zq_52 : (Jvm.Cond.fieldLink "ZoneShelf" (10 : Nat) "ZoneShelf" "current" "LZoneShelf$Contents;") ∈ zs_w := List.mem_of_getElem? (i := 52) rfl
theorem zq_53 : (Jvm.Cond.fieldLink "ZoneShelf" (16 : Nat) "ZoneShelf" "synced" "LZoneShelf$Contents;") ∈ zs_w := List.mem_of_getElem? (i := 53) rfl
theorem zq_54 : (Jvm.Cond.fieldLink "ZoneShelf" (19 : Nat) "ZoneShelf" "up" "Z") ∈ zs_w := List.mem_of_getElem? (i := 54) rfl
theorem zq_55 : (Jvm.Cond.laysFinal "ZoneShelf" "ZoneShelf" "current" "LZoneShelf$Contents;") ∈ zs_w := List.mem_of_getElem? (i := 55) rfl
theorem zq_56 : (Jvm.Cond.laysFinal "ZoneShelf" "ZoneShelf" "synced" "LZoneShelf$Contents;") ∈ zs_w := List.mem_of_getElem? (i := 56) rfl
theorem zq_57 : (Jvm.Cond.lays "ZoneShelf" "ZoneShelf" "up" "Z") ∈ zs_w := List.mem_of_getElem? (i := 57) rfl
theorem zq_58 : (Jvm.Cond.methodLink "ZoneShelfLaw" (13 : Nat) ({ cls := "ZoneShelf", name := "create", desc := "(II)I" } : Jvm.MethodName)) ∈ zs_w := List.mem_of_getElem? (i := 58) rfl
theorem zq_59 : (Jvm.Cond.instanceMethod ({ cls := "ZoneShelf", name := "create", desc := "(II)I" } : Jvm.MethodName)) ∈ zs_w := List.mem_of_getElem? (i := 59) rfl
theorem zq_60 : (Jvm.Cond.selects "ZoneShelf" ({ cls := "ZoneShelf", name := "create", desc := "(II)I" } : Jvm.MethodName) ({ cls := "ZoneShelf", name := "create", desc := "(II)I" } : Jvm.MethodName)) ∈ zs_w := List.mem_of_getElem? (i := 60) rfl
theorem zq_61 : (Jvm.Cond.code ({ cls := "ZoneShelf", name := "create", desc := "(II)I" } : Jvm.MethodName) prog_1_method_2_code (4 : Nat) (Option.some Jvm.ClassFile.FieldType.int)) ∈ zs_w := List.mem_of_getElem? (i := 61) rfl
theorem zq_62 : (Jvm.Cond.methodLink "ZoneShelf" (23 : Nat) ({ cls := "ZoneShelf", name := "isFreeName", desc := "(I)Z" } : Jvm.MethodName)) ∈ zs_w := List.mem_of_getElem? (i := 62) rfl
theorem zq_63 : (Jvm.Cond.instanceMethod ({ cls := "ZoneShelf", name := "isFreeName", desc := "(I)Z" } : Jvm.MethodName)) ∈ zs_w := List.mem_of_getElem? (i := 63) rfl
theorem zq_64 : (Jvm.Cond.code ({ cls := "ZoneShelf", name := "isFreeName", desc := "(I)Z" } : Jvm.MethodName) prog_1_method_21_code (2 : Nat) (Option.some Jvm.ClassFile.FieldType.boolean)) ∈ zs_w := List.mem_of_getElem? (i := 64) rfl
theorem zq_65 : (Jvm.Cond.methodLink "ZoneShelf" (87 : Nat) ({ cls := "ZoneShelf", name := "isName", desc := "(I)Z" } : Jvm.MethodName)) ∈ zs_w := List.mem_of_getElem? (i := 65) rfl
theorem zq_66 : (Jvm.Cond.static ({ cls := "ZoneShelf", name := "isName", desc := "(I)Z" } : Jvm.MethodName)) ∈ zs_w := List.mem_of_getElem? (i := 66) rfl
theorem zq_67 : (Jvm.Cond.code ({ cls := "ZoneShelf", name := "isName", desc := "(I)Z" } : Jvm.MethodName) prog_1_method_23_code (1 : Nat) (Option.some Jvm.ClassFile.FieldType.boolean)) ∈ zs_w := List.mem_of_getElem? (i := 67) rfl
theorem zq_68 : (Jvm.Cond.instanceMethod ({ cls := "ZoneShelf$Contents", name := "numberOf", desc := "(I)I" } : Jvm.MethodName)) ∈ zs_w := List.mem_of_getElem? (i := 68) rfl
theorem zq_69 : (Jvm.Cond.code ({ cls := "ZoneShelf$Contents", name := "numberOf", desc := "(I)I" } : Jvm.MethodName) prog_2_method_4_code (3 : Nat) (Option.some Jvm.ClassFile.FieldType.int)) ∈ zs_w := List.mem_of_getElem? (i := 69) rfl
theorem zq_70 : (Jvm.Cond.methodLink "ZoneShelf" (27 : Nat) ({ cls := "ZoneShelf", name := "isHint", desc := "(I)Z" } : Jvm.MethodName)) ∈ zs_w := List.mem_of_getElem? (i := 70) rfl
theorem zq_71 : (Jvm.Cond.static ({ cls := "ZoneShelf", name := "isHint", desc := "(I)Z" } : Jvm.MethodName)) ∈ zs_w := List.mem_of_getElem? (i := 71) rfl
theorem zq_72 : (Jvm.Cond.code ({ cls := "ZoneShelf", name := "isHint", desc := "(I)Z" } : Jvm.MethodName) prog_1_method_24_code (1 : Nat) (Option.some Jvm.ClassFile.FieldType.boolean)) ∈ zs_w := List.mem_of_getElem? (i := 72) rfl
theorem zq_73 : (Jvm.Cond.instanceMethod ({ cls := "ZoneShelf$Contents", name := "leastFreeNumber", desc := "()I" } : Jvm.MethodName)) ∈ zs_w := List.mem_of_getElem? (i := 73) rfl
theorem zq_74 : (Jvm.Cond.code ({ cls := "ZoneShelf$Contents", name := "leastFreeNumber", desc := "()I" } : Jvm.MethodName) prog_2_method_3_code (2 : Nat) (Option.some Jvm.ClassFile.FieldType.int)) ∈ zs_w := List.mem_of_getElem? (i := 74) rfl
theorem zq_75 : (Jvm.Cond.methodLink "ZoneShelf$Contents" (34 : Nat) ({ cls := "ZoneShelf$Contents", name := "isTaken", desc := "(I)Z" } : Jvm.MethodName)) ∈ zs_w := List.mem_of_getElem? (i := 75) rfl
theorem zq_76 : (Jvm.Cond.instanceMethod ({ cls := "ZoneShelf$Contents", name := "isTaken", desc := "(I)Z" } : Jvm.MethodName)) ∈ zs_w := List.mem_of_getElem? (i := 76) rfl
theorem zq_77 : (Jvm.Cond.code ({ cls := "ZoneShelf$Contents", name := "isTaken", desc := "(I)Z" } : Jvm.MethodName) prog_2_method_2_code (2 : Nat) (Option.some Jvm.ClassFile.FieldType.boolean)) ∈ zs_w := List.mem_of_getElem? (i := 77) rfl
theorem zq_78 : (Jvm.Cond.instanceMethod ({ cls := "ZoneShelf$Contents", name := "place", desc := "(III)V" } : Jvm.MethodName)) ∈ zs_w := List.mem_of_getElem? (i := 78) rfl
theorem zq_79 : (Jvm.Cond.code ({ cls := "ZoneShelf$Contents", name := "place", desc := "(III)V" } : Jvm.MethodName) prog_2_method_9_code (4 : Nat) (Option.none : Option Jvm.ClassFile.FieldType)) ∈ zs_w := List.mem_of_getElem? (i := 79) rfl
theorem zq_80 : (Jvm.Cond.methodLink "ZoneShelfLaw" (18 : Nat) ({ cls := "ZoneShelf", name := "append", desc := "(II)Z" } : Jvm.MethodName)) ∈ zs_w := List.mem_of_getElem? (i := 80) rfl
theorem zq_81 : (Jvm.Cond.instanceMethod ({ cls := "ZoneShelf", name := "append", desc := "(II)Z" } : Jvm.MethodName)) ∈ zs_w := List.mem_of_getElem? (i := 81) rfl
theorem zq_82 : (Jvm.Cond.selects "ZoneShelf" ({ cls := "ZoneShelf", name := "append", desc := "(II)Z" } : Jvm.MethodName) ({ cls := "ZoneShelf", name := "append", desc := "(II)Z" } : Jvm.MethodName)) ∈ zs_w := List.mem_of_getElem? (i := 82) rfl
theorem zq_83 : (Jvm.Cond.code ({ cls := "ZoneShelf", name := "append", desc := "(II)Z" } : Jvm.MethodName) prog_1_method_3_code (3 : Nat) (Option.some Jvm.ClassFile.FieldType.boolean)) ∈ zs_w := List.mem_of_getElem? (i := 83) rfl
theorem zq_84 : (Jvm.Cond.methodLink "ZoneShelf" (38 : Nat) ({ cls := "ZoneShelf", name := "appendRow", desc := "(III)Z" } : Jvm.MethodName)) ∈ zs_w := List.mem_of_getElem? (i := 84) rfl
theorem zq_85 : (Jvm.Cond.instanceMethod ({ cls := "ZoneShelf", name := "appendRow", desc := "(III)Z" } : Jvm.MethodName)) ∈ zs_w := List.mem_of_getElem? (i := 85) rfl
theorem zq_86 : (Jvm.Cond.selects "ZoneShelf" ({ cls := "ZoneShelf", name := "appendRow", desc := "(III)Z" } : Jvm.MethodName) ({ cls := "ZoneShelf", name := "appendRow", desc := "(III)Z" } : Jvm.MethodName)) ∈ zs_w := List.mem_of_getElem? (i := 86) rfl
theorem zq_87 : (Jvm.Cond.code ({ cls := "ZoneShelf", name := "appendRow", desc := "(III)Z" } : Jvm.MethodName) prog_1_method_4_code (4 : Nat) (Option.some Jvm.ClassFile.FieldType.boolean)) ∈ zs_w := List.mem_of_getElem? (i := 87) rfl
theorem zq_88 : (Jvm.Cond.methodLink "ZoneShelf" (42 : Nat) ({ cls := "ZoneShelf", name := "isThere", desc := "(I)Z" } : Jvm.MethodName)) ∈ zs_w := List.mem_of_getElem? (i := 88) rfl
theorem zq_89 : (Jvm.Cond.instanceMethod ({ cls := "ZoneShelf", name := "isThere", desc := "(I)Z" } : Jvm.MethodName)) ∈ zs_w := List.mem_of_getElem? (i := 89) rfl
theorem zq_90 : (Jvm.Cond.code ({ cls := "ZoneShelf", name := "isThere", desc := "(I)Z" } : Jvm.MethodName) prog_1_method_20_code (2 : Nat) (Option.some Jvm.ClassFile.FieldType.boolean)) ∈ zs_w := List.mem_of_getElem? (i := 90) rfl
theorem zq_91 : (Jvm.Cond.methodLink "ZoneShelf" (49 : Nat) ({ cls := "ZoneShelf", name := "roomIn", desc := "(I)I" } : Jvm.MethodName)) ∈ zs_w := List.mem_of_getElem? (i := 91) rfl
theorem zq_92 : (Jvm.Cond.instanceMethod ({ cls := "ZoneShelf", name := "roomIn", desc := "(I)I" } : Jvm.MethodName)) ∈ zs_w := List.mem_of_getElem? (i := 92) rfl
theorem zq_93 : (Jvm.Cond.code ({ cls := "ZoneShelf", name := "roomIn", desc := "(I)I" } : Jvm.MethodName) prog_1_method_22_code (2 : Nat) (Option.some Jvm.ClassFile.FieldType.int)) ∈ zs_w := List.mem_of_getElem? (i := 93) rfl
theorem zq_94 : (Jvm.Cond.instanceMethod ({ cls := "ZoneShelf$Contents", name := "countWords", desc := "()I" } : Jvm.MethodName)) ∈ zs_w := List.mem_of_getElem? (i := 94) rfl
theorem zq_95 : (Jvm.Cond.code ({ cls := "ZoneShelf$Contents", name := "countWords", desc := "()I" } : Jvm.MethodName) prog_2_method_8_code (3 : Nat) (Option.some Jvm.ClassFile.FieldType.int)) ∈ zs_w := List.mem_of_getElem? (i := 95) rfl
theorem zq_96 : (Jvm.Cond.methodLink "ZoneShelf" (99 : Nat) ({ cls := "java/lang/Math", name := "min", desc := "(II)I" } : Jvm.MethodName)) ∈ zs_w := List.mem_of_getElem? (i := 96) rfl
theorem zq_97 : (Jvm.Cond.static ({ cls := "java/lang/Math", name := "min", desc := "(II)I" } : Jvm.MethodName)) ∈ zs_w := List.mem_of_getElem? (i := 97) rfl
theorem zq_98 : (Jvm.Cond.code ({ cls := "java/lang/Math", name := "min", desc := "(II)I" } : Jvm.MethodName) prog_5_method_69_code (2 : Nat) (Option.some Jvm.ClassFile.FieldType.int)) ∈ zs_w := List.mem_of_getElem? (i := 98) rfl
theorem zq_99 : (Jvm.Cond.instanceMethod ({ cls := "ZoneShelf$Contents", name := "addRow", desc := "(III)V" } : Jvm.MethodName)) ∈ zs_w := List.mem_of_getElem? (i := 99) rfl
theorem zq_100 : (Jvm.Cond.code ({ cls := "ZoneShelf$Contents", name := "addRow", desc := "(III)V" } : Jvm.MethodName) prog_2_method_11_code (6 : Nat) (Option.none : Option Jvm.ClassFile.FieldType)) ∈ zs_w := List.mem_of_getElem? (i := 100) rfl
theorem zq_101 : (Jvm.Cond.methodLink "ZoneShelfLaw" (23 : Nat) ({ cls := "ZoneShelf", name := "appendRow", desc := "(III)Z" } : Jvm.MethodName)) ∈ zs_w := List.mem_of_getElem? (i := 101) rfl
theorem zq_102 : (Jvm.Cond.methodLink "ZoneShelfLaw" (28 : Nat) ({ cls := "ZoneShelf", name := "open", desc := "(IZ)Z" } : Jvm.MethodName)) ∈ zs_w := List.mem_of_getElem? (i := 102) rfl
theorem zq_103 : (Jvm.Cond.instanceMethod ({ cls := "ZoneShelf", name := "open", desc := "(IZ)Z" } : Jvm.MethodName)) ∈ zs_w := List.mem_of_getElem? (i := 103) rfl
theorem zq_104 : (Jvm.Cond.selects "ZoneShelf" ({ cls := "ZoneShelf", name := "open", desc := "(IZ)Z" } : Jvm.MethodName) ({ cls := "ZoneShelf", name := "open", desc := "(IZ)Z" } : Jvm.MethodName)) ∈ zs_w := List.mem_of_getElem? (i := 104) rfl
theorem zq_105 : (Jvm.Cond.code ({ cls := "ZoneShelf", name := "open", desc := "(IZ)Z" } : Jvm.MethodName) prog_1_method_5_code (3 : Nat) (Option.some Jvm.ClassFile.FieldType.boolean)) ∈ zs_w := List.mem_of_getElem? (i := 105) rfl
theorem zq_106 : (Jvm.Cond.methodLink "ZoneShelfLaw" (33 : Nat) ({ cls := "ZoneShelf", name := "remove", desc := "(I)Z" } : Jvm.MethodName)) ∈ zs_w := List.mem_of_getElem? (i := 106) rfl
theorem zq_107 : (Jvm.Cond.instanceMethod ({ cls := "ZoneShelf", name := "remove", desc := "(I)Z" } : Jvm.MethodName)) ∈ zs_w := List.mem_of_getElem? (i := 107) rfl
theorem zq_108 : (Jvm.Cond.selects "ZoneShelf" ({ cls := "ZoneShelf", name := "remove", desc := "(I)Z" } : Jvm.MethodName) ({ cls := "ZoneShelf", name := "remove", desc := "(I)Z" } : Jvm.MethodName)) ∈ zs_w := List.mem_of_getElem? (i := 108) rfl
theorem zq_109 : (Jvm.Cond.code ({ cls := "ZoneShelf", name := "remove", desc := "(I)Z" } : Jvm.MethodName) prog_1_method_6_code (2 : Nat) (Option.some Jvm.ClassFile.FieldType.boolean)) ∈ zs_w := List.mem_of_getElem? (i := 109) rfl
theorem zq_110 : (Jvm.Cond.instanceMethod ({ cls := "ZoneShelf$Contents", name := "takeAway", desc := "(I)V" } : Jvm.MethodName)) ∈ zs_w := List.mem_of_getElem? (i := 110) rfl
theorem zq_111 : (Jvm.Cond.code ({ cls := "ZoneShelf$Contents", name := "takeAway", desc := "(I)V" } : Jvm.MethodName) prog_2_method_10_code (2 : Nat) (Option.none : Option Jvm.ClassFile.FieldType)) ∈ zs_w := List.mem_of_getElem? (i := 111) rfl
theorem zq_112 : (Jvm.Cond.methodLink "ZoneShelfLaw" (38 : Nat) ({ cls := "ZoneShelf", name := "rename", desc := "(II)Z" } : Jvm.MethodName)) ∈ zs_w := List.mem_of_getElem? (i := 112) rfl
theorem zq_113 : (Jvm.Cond.instanceMethod ({ cls := "ZoneShelf", name := "rename", desc := "(II)Z" } : Jvm.MethodName)) ∈ zs_w := List.mem_of_getElem? (i := 113) rfl
theorem zq_114 : (Jvm.Cond.selects "ZoneShelf" ({ cls := "ZoneShelf", name := "rename", desc := "(II)Z" } : Jvm.MethodName) ({ cls := "ZoneShelf", name := "rename", desc := "(II)Z" } : Jvm.MethodName)) ∈ zs_w := List.mem_of_getElem? (i := 114) rfl
theorem zq_115 : (Jvm.Cond.code ({ cls := "ZoneShelf", name := "rename", desc := "(II)Z" } : Jvm.MethodName) prog_1_method_7_code (3 : Nat) (Option.some Jvm.ClassFile.FieldType.boolean)) ∈ zs_w := List.mem_of_getElem? (i := 115) rfl
theorem zq_116 : (Jvm.Cond.methodLink "ZoneShelfLaw" (42 : Nat) ({ cls := "ZoneShelf", name := "sync", desc := "()Z" } : Jvm.MethodName)) ∈ zs_w := List.mem_of_getElem? (i := 116) rfl
theorem zq_117 : (Jvm.Cond.instanceMethod ({ cls := "ZoneShelf", name := "sync", desc := "()Z" } : Jvm.MethodName)) ∈ zs_w := List.mem_of_getElem? (i := 117) rfl
theorem zq_118 : (Jvm.Cond.selects "ZoneShelf" ({ cls := "ZoneShelf", name := "sync", desc := "()Z" } : Jvm.MethodName) ({ cls := "ZoneShelf", name := "sync", desc := "()Z" } : Jvm.MethodName)) ∈ zs_w := List.mem_of_getElem? (i := 118) rfl
theorem zq_119 : (Jvm.Cond.code ({ cls := "ZoneShelf", name := "sync", desc := "()Z" } : Jvm.MethodName) prog_1_method_8_code (1 : Nat) (Option.some Jvm.ClassFile.FieldType.boolean)) ∈ zs_w := List.mem_of_getElem? (i := 119) rfl
theorem zq_120 : (Jvm.Cond.instanceMethod ({ cls := "ZoneShelf$Contents", name := "copyFrom", desc := "(LZoneShelf$Contents;)V" } : Jvm.MethodName)) ∈ zs_w := List.mem_of_getElem? (i := 120) rfl
theorem zq_121 : (Jvm.Cond.code ({ cls := "ZoneShelf$Contents", name := "copyFrom", desc := "(LZoneShelf$Contents;)V" } : Jvm.MethodName) prog_2_method_12_code (3 : Nat) (Option.none : Option Jvm.ClassFile.FieldType)) ∈ zs_w := List.mem_of_getElem? (i := 121) rfl
theorem zq_122 : (Jvm.Cond.methodLink "ZoneShelf$Contents" (42 : Nat) ({ cls := "java/lang/System", name := "arraycopy", desc := "(Ljava/lang/Object;ILjava/lang/Object;II)V" } : Jvm.MethodName)) ∈ zs_w := List.mem_of_getElem? (i := 122) rfl
theorem zq_123 : (Jvm.Cond.static ({ cls := "java/lang/System", name := "arraycopy", desc := "(Ljava/lang/Object;ILjava/lang/Object;II)V" } : Jvm.MethodName)) ∈ zs_w := List.mem_of_getElem? (i := 123) rfl
theorem zq_124 : (Jvm.Cond.native ({ cls := "java/lang/System", name := "arraycopy", desc := "(Ljava/lang/Object;ILjava/lang/Object;II)V" } : Jvm.MethodName)) ∈ zs_w := List.mem_of_getElem? (i := 124) rfl
theorem zq_125 : (Jvm.Cond.methodLink "ZoneShelfLaw" (47 : Nat) ({ cls := "ZoneShelf", name := "tear", desc := "()Z" } : Jvm.MethodName)) ∈ zs_w := List.mem_of_getElem? (i := 125) rfl
theorem zq_126 : (Jvm.Cond.instanceMethod ({ cls := "ZoneShelf", name := "tear", desc := "()Z" } : Jvm.MethodName)) ∈ zs_w := List.mem_of_getElem? (i := 126) rfl
theorem zq_127 : (Jvm.Cond.selects "ZoneShelf" ({ cls := "ZoneShelf", name := "tear", desc := "()Z" } : Jvm.MethodName) ({ cls := "ZoneShelf", name := "tear", desc := "()Z" } : Jvm.MethodName)) ∈ zs_w := List.mem_of_getElem? (i := 127) rfl
theorem zq_128 : (Jvm.Cond.code ({ cls := "ZoneShelf", name := "tear", desc := "()Z" } : Jvm.MethodName) prog_1_method_9_code (1 : Nat) (Option.some Jvm.ClassFile.FieldType.boolean)) ∈ zs_w := List.mem_of_getElem? (i := 128) rfl
theorem zq_129 : (Jvm.Cond.methodLink "ZoneShelf" (68 : Nat) ({ cls := "ZoneShelf", name := "cut", desc := "()Z" } : Jvm.MethodName)) ∈ zs_w := List.mem_of_getElem? (i := 129) rfl
theorem zq_130 : (Jvm.Cond.instanceMethod ({ cls := "ZoneShelf", name := "cut", desc := "()Z" } : Jvm.MethodName)) ∈ zs_w := List.mem_of_getElem? (i := 130) rfl
theorem zq_131 : (Jvm.Cond.selects "ZoneShelf" ({ cls := "ZoneShelf", name := "cut", desc := "()Z" } : Jvm.MethodName) ({ cls := "ZoneShelf", name := "cut", desc := "()Z" } : Jvm.MethodName)) ∈ zs_w := List.mem_of_getElem? (i := 131) rfl
theorem zq_132 : (Jvm.Cond.code ({ cls := "ZoneShelf", name := "cut", desc := "()Z" } : Jvm.MethodName) prog_1_method_10_code (1 : Nat) (Option.some Jvm.ClassFile.FieldType.boolean)) ∈ zs_w := List.mem_of_getElem? (i := 132) rfl
theorem zq_133 : (Jvm.Cond.methodLink "ZoneShelfLaw" (51 : Nat) ({ cls := "ZoneShelf", name := "cut", desc := "()Z" } : Jvm.MethodName)) ∈ zs_w := List.mem_of_getElem? (i := 133) rfl
theorem zq_134 : (Jvm.Cond.methodLink "ZoneShelfLaw" (55 : Nat) ({ cls := "ZoneShelf", name := "mount", desc := "()Z" } : Jvm.MethodName)) ∈ zs_w := List.mem_of_getElem? (i := 134) rfl
theorem zq_135 : (Jvm.Cond.instanceMethod ({ cls := "ZoneShelf", name := "mount", desc := "()Z" } : Jvm.MethodName)) ∈ zs_w := List.mem_of_getElem? (i := 135) rfl
theorem zq_136 : (Jvm.Cond.selects "ZoneShelf" ({ cls := "ZoneShelf", name := "mount", desc := "()Z" } : Jvm.MethodName) ({ cls := "ZoneShelf", name := "mount", desc := "()Z" } : Jvm.MethodName)) ∈ zs_w := List.mem_of_getElem? (i := 136) rfl
theorem zq_137 : (Jvm.Cond.code ({ cls := "ZoneShelf", name := "mount", desc := "()Z" } : Jvm.MethodName) prog_1_method_11_code (1 : Nat) (Option.some Jvm.ClassFile.FieldType.boolean)) ∈ zs_w := List.mem_of_getElem? (i := 137) rfl
theorem zq_138 : (Jvm.Cond.methodLink "ZoneShelfLaw" (59 : Nat) ({ cls := "ZoneShelf", name := "tidy", desc := "()Z" } : Jvm.MethodName)) ∈ zs_w := List.mem_of_getElem? (i := 138) rfl
theorem zq_139 : (Jvm.Cond.instanceMethod ({ cls := "ZoneShelf", name := "tidy", desc := "()Z" } : Jvm.MethodName)) ∈ zs_w := List.mem_of_getElem? (i := 139) rfl
theorem zq_140 : (Jvm.Cond.selects "ZoneShelf" ({ cls := "ZoneShelf", name := "tidy", desc := "()Z" } : Jvm.MethodName) ({ cls := "ZoneShelf", name := "tidy", desc := "()Z" } : Jvm.MethodName)) ∈ zs_w := List.mem_of_getElem? (i := 140) rfl
theorem zq_141 : (Jvm.Cond.code ({ cls := "ZoneShelf", name := "tidy", desc := "()Z" } : Jvm.MethodName) prog_1_method_12_code (1 : Nat) (Option.some Jvm.ClassFile.FieldType.boolean)) ∈ zs_w := List.mem_of_getElem? (i := 141) rfl
theorem zq_142 : (Jvm.Cond.methodLink "ZoneShelfLaw" (63 : Nat) ({ cls := "ZoneShelf", name := "isUp", desc := "()Z" } : Jvm.MethodName)) ∈ zs_w := List.mem_of_getElem? (i := 142) rfl
theorem zq_143 : (Jvm.Cond.instanceMethod ({ cls := "ZoneShelf", name := "isUp", desc := "()Z" } : Jvm.MethodName)) ∈ zs_w := List.mem_of_getElem? (i := 143) rfl
theorem zq_144 : (Jvm.Cond.selects "ZoneShelf" ({ cls := "ZoneShelf", name := "isUp", desc := "()Z" } : Jvm.MethodName) ({ cls := "ZoneShelf", name := "isUp", desc := "()Z" } : Jvm.MethodName)) ∈ zs_w := List.mem_of_getElem? (i := 144) rfl
theorem zq_145 : (Jvm.Cond.code ({ cls := "ZoneShelf", name := "isUp", desc := "()Z" } : Jvm.MethodName) prog_1_method_13_code (1 : Nat) (Option.some Jvm.ClassFile.FieldType.boolean)) ∈ zs_w := List.mem_of_getElem? (i := 145) rfl
theorem zq_146 : (Jvm.Cond.methodLink "ZoneShelfLaw" (67 : Nat) ({ cls := "ZoneShelf", name := "objects", desc := "()I" } : Jvm.MethodName)) ∈ zs_w := List.mem_of_getElem? (i := 146) rfl
theorem zq_147 : (Jvm.Cond.instanceMethod ({ cls := "ZoneShelf", name := "objects", desc := "()I" } : Jvm.MethodName)) ∈ zs_w := List.mem_of_getElem? (i := 147) rfl
theorem zq_148 : (Jvm.Cond.selects "ZoneShelf" ({ cls := "ZoneShelf", name := "objects", desc := "()I" } : Jvm.MethodName) ({ cls := "ZoneShelf", name := "objects", desc := "()I" } : Jvm.MethodName)) ∈ zs_w := List.mem_of_getElem? (i := 148) rfl
theorem zq_149 : (Jvm.Cond.code ({ cls := "ZoneShelf", name := "objects", desc := "()I" } : Jvm.MethodName) prog_1_method_14_code (1 : Nat) (Option.some Jvm.ClassFile.FieldType.int)) ∈ zs_w := List.mem_of_getElem? (i := 149) rfl
theorem zq_150 : (Jvm.Cond.instanceMethod ({ cls := "ZoneShelf$Contents", name := "countObjects", desc := "()I" } : Jvm.MethodName)) ∈ zs_w := List.mem_of_getElem? (i := 150) rfl
theorem zq_151 : (Jvm.Cond.code ({ cls := "ZoneShelf$Contents", name := "countObjects", desc := "()I" } : Jvm.MethodName) prog_2_method_7_code (3 : Nat) (Option.some Jvm.ClassFile.FieldType.int)) ∈ zs_w := List.mem_of_getElem? (i := 151) rfl
theorem zq_152 : (Jvm.Cond.methodLink "ZoneShelfLaw" (72 : Nat) ({ cls := "ZoneShelf", name := "room", desc := "()I" } : Jvm.MethodName)) ∈ zs_w := List.mem_of_getElem? (i := 152) rfl
theorem zq_153 : (Jvm.Cond.instanceMethod ({ cls := "ZoneShelf", name := "room", desc := "()I" } : Jvm.MethodName)) ∈ zs_w := List.mem_of_getElem? (i := 153) rfl
theorem zq_154 : (Jvm.Cond.selects "ZoneShelf" ({ cls := "ZoneShelf", name := "room", desc := "()I" } : Jvm.MethodName) ({ cls := "ZoneShelf", name := "room", desc := "()I" } : Jvm.MethodName)) ∈ zs_w := List.mem_of_getElem? (i := 154) rfl
theorem zq_155 : (Jvm.Cond.code ({ cls := "ZoneShelf", name := "room", desc := "()I" } : Jvm.MethodName) prog_1_method_15_code (1 : Nat) (Option.some Jvm.ClassFile.FieldType.int)) ∈ zs_w := List.mem_of_getElem? (i := 155) rfl
theorem zq_156 : (Jvm.Cond.methodLink "ZoneShelfLaw" (76 : Nat) ({ cls := "ZoneShelf", name := "object", desc := "(II)I" } : Jvm.MethodName)) ∈ zs_w := List.mem_of_getElem? (i := 156) rfl
theorem zq_157 : (Jvm.Cond.instanceMethod ({ cls := "ZoneShelf", name := "object", desc := "(II)I" } : Jvm.MethodName)) ∈ zs_w := List.mem_of_getElem? (i := 157) rfl
theorem zq_158 : (Jvm.Cond.selects "ZoneShelf" ({ cls := "ZoneShelf", name := "object", desc := "(II)I" } : Jvm.MethodName) ({ cls := "ZoneShelf", name := "object", desc := "(II)I" } : Jvm.MethodName)) ∈ zs_w := List.mem_of_getElem? (i := 158) rfl
theorem zq_159 : (Jvm.Cond.code ({ cls := "ZoneShelf", name := "object", desc := "(II)I" } : Jvm.MethodName) prog_1_method_16_code (3 : Nat) (Option.some Jvm.ClassFile.FieldType.int)) ∈ zs_w := List.mem_of_getElem? (i := 159) rfl
theorem zq_160 : (Jvm.Cond.methodLink "ZoneShelfLaw" (80 : Nat) ({ cls := "ZoneShelf", name := "word", desc := "(II)I" } : Jvm.MethodName)) ∈ zs_w := List.mem_of_getElem? (i := 160) rfl
theorem zq_161 : (Jvm.Cond.instanceMethod ({ cls := "ZoneShelf", name := "word", desc := "(II)I" } : Jvm.MethodName)) ∈ zs_w := List.mem_of_getElem? (i := 161) rfl
theorem zq_162 : (Jvm.Cond.selects "ZoneShelf" ({ cls := "ZoneShelf", name := "word", desc := "(II)I" } : Jvm.MethodName) ({ cls := "ZoneShelf", name := "word", desc := "(II)I" } : Jvm.MethodName)) ∈ zs_w := List.mem_of_getElem? (i := 162) rfl
theorem zq_163 : (Jvm.Cond.code ({ cls := "ZoneShelf", name := "word", desc := "(II)I" } : Jvm.MethodName) prog_1_method_17_code (3 : Nat) (Option.some Jvm.ClassFile.FieldType.int)) ∈ zs_w := List.mem_of_getElem? (i := 163) rfl
theorem zq_164 : (Jvm.Cond.methodLink "ZoneShelfLaw" (84 : Nat) ({ cls := "ZoneShelf", name := "find", desc := "(I)I" } : Jvm.MethodName)) ∈ zs_w := List.mem_of_getElem? (i := 164) rfl
theorem zq_165 : (Jvm.Cond.instanceMethod ({ cls := "ZoneShelf", name := "find", desc := "(I)I" } : Jvm.MethodName)) ∈ zs_w := List.mem_of_getElem? (i := 165) rfl
theorem zq_166 : (Jvm.Cond.selects "ZoneShelf" ({ cls := "ZoneShelf", name := "find", desc := "(I)I" } : Jvm.MethodName) ({ cls := "ZoneShelf", name := "find", desc := "(I)I" } : Jvm.MethodName)) ∈ zs_w := List.mem_of_getElem? (i := 166) rfl
theorem zq_167 : (Jvm.Cond.code ({ cls := "ZoneShelf", name := "find", desc := "(I)I" } : Jvm.MethodName) prog_1_method_18_code (2 : Nat) (Option.some Jvm.ClassFile.FieldType.int)) ∈ zs_w := List.mem_of_getElem? (i := 167) rfl
theorem zq_168 : (Jvm.Cond.methodLink "ZoneShelfLaw" (89 : Nat) ({ cls := "ZoneShelf", name := "list", desc := "(I)I" } : Jvm.MethodName)) ∈ zs_w := List.mem_of_getElem? (i := 168) rfl
theorem zq_169 : (Jvm.Cond.instanceMethod ({ cls := "ZoneShelf", name := "list", desc := "(I)I" } : Jvm.MethodName)) ∈ zs_w := List.mem_of_getElem? (i := 169) rfl
theorem zq_170 : (Jvm.Cond.selects "ZoneShelf" ({ cls := "ZoneShelf", name := "list", desc := "(I)I" } : Jvm.MethodName) ({ cls := "ZoneShelf", name := "list", desc := "(I)I" } : Jvm.MethodName)) ∈ zs_w := List.mem_of_getElem? (i := 170) rfl
theorem zq_171 : (Jvm.Cond.code ({ cls := "ZoneShelf", name := "list", desc := "(I)I" } : Jvm.MethodName) prog_1_method_19_code (2 : Nat) (Option.some Jvm.ClassFile.FieldType.int)) ∈ zs_w := List.mem_of_getElem? (i := 171) rfl
theorem zq_172 : (Jvm.Cond.instanceMethod ({ cls := "ZoneShelf$Contents", name := "numberAtRank", desc := "(I)I" } : Jvm.MethodName)) ∈ zs_w := List.mem_of_getElem? (i := 172) rfl
theorem zq_173 : (Jvm.Cond.code ({ cls := "ZoneShelf$Contents", name := "numberAtRank", desc := "(I)I" } : Jvm.MethodName) prog_2_method_5_code (3 : Nat) (Option.some Jvm.ClassFile.FieldType.int)) ∈ zs_w := List.mem_of_getElem? (i := 173) rfl
theorem zq_174 : (Jvm.Cond.methodLink "ZoneShelf$Contents" (38 : Nat) ({ cls := "ZoneShelf$Contents", name := "countNamesBelow", desc := "(I)I" } : Jvm.MethodName)) ∈ zs_w := List.mem_of_getElem? (i := 174) rfl
theorem zq_175 : (Jvm.Cond.instanceMethod ({ cls := "ZoneShelf$Contents", name := "countNamesBelow", desc := "(I)I" } : Jvm.MethodName)) ∈ zs_w := List.mem_of_getElem? (i := 175) rfl
theorem zq_176 : (Jvm.Cond.code ({ cls := "ZoneShelf$Contents", name := "countNamesBelow", desc := "(I)I" } : Jvm.MethodName) prog_2_method_6_code (4 : Nat) (Option.some Jvm.ClassFile.FieldType.int)) ∈ zs_w := List.mem_of_getElem? (i := 176) rfl
theorem zq_177 : (Jvm.Cond.classLink "ZoneShelfLaw" (10 : Nat) "ZoneShelfModel") ∈ zs_w := List.mem_of_getElem? (i := 177) rfl
theorem zq_178 : (Jvm.Cond.instantiable "ZoneShelfModel" (11 : Nat)) ∈ zs_w := List.mem_of_getElem? (i := 178) rfl
theorem zq_179 : (Jvm.Cond.methodLink "ZoneShelfLaw" (12 : Nat) ({ cls := "ZoneShelfModel", name := "<init>", desc := "()V" } : Jvm.MethodName)) ∈ zs_w := List.mem_of_getElem? (i := 179) rfl
theorem zq_180 : (Jvm.Cond.instanceMethod ({ cls := "ZoneShelfModel", name := "<init>", desc := "()V" } : Jvm.MethodName)) ∈ zs_w := List.mem_of_getElem? (i := 180) rfl
theorem zq_181 : (Jvm.Cond.code ({ cls := "ZoneShelfModel", name := "<init>", desc := "()V" } : Jvm.MethodName) prog_4_method_1_code (1 : Nat) (Option.none : Option Jvm.ClassFile.FieldType)) ∈ zs_w := List.mem_of_getElem? (i := 181) rfl
theorem zq_182 : (Jvm.Cond.methodLink "ZoneShelfModel" (1 : Nat) ({ cls := "java/lang/Object", name := "<init>", desc := "()V" } : Jvm.MethodName)) ∈ zs_w := List.mem_of_getElem? (i := 182) rfl
theorem zq_183 : (Jvm.Cond.fieldLink "ZoneShelfModel" (7 : Nat) "ZoneShelfModel" "up" "Z") ∈ zs_w := List.mem_of_getElem? (i := 183) rfl
theorem zq_184 : (Jvm.Cond.fieldLink "ZoneShelfModel" (13 : Nat) "ZoneShelfModel" "names" "[I") ∈ zs_w := List.mem_of_getElem? (i := 184) rfl
theorem zq_185 : (Jvm.Cond.fieldLink "ZoneShelfModel" (17 : Nat) "ZoneShelfModel" "hints" "[I") ∈ zs_w := List.mem_of_getElem? (i := 185) rfl
theorem zq_186 : (Jvm.Cond.fieldLink "ZoneShelfModel" (20 : Nat) "ZoneShelfModel" "sizes" "[I") ∈ zs_w := List.mem_of_getElem? (i := 186) rfl
theorem zq_187 : (Jvm.Cond.fieldLink "ZoneShelfModel" (23 : Nat) "ZoneShelfModel" "opens" "[Z") ∈ zs_w := List.mem_of_getElem? (i := 187) rfl
theorem zq_188 : (Jvm.Cond.fieldLink "ZoneShelfModel" (27 : Nat) "ZoneShelfModel" "words" "[I") ∈ zs_w := List.mem_of_getElem? (i := 188) rfl
theorem zq_189 : (Jvm.Cond.fieldLink "ZoneShelfModel" (30 : Nat) "ZoneShelfModel" "oldNames" "[I") ∈ zs_w := List.mem_of_getElem? (i := 189) rfl
theorem zq_190 : (Jvm.Cond.fieldLink "ZoneShelfModel" (33 : Nat) "ZoneShelfModel" "oldHints" "[I") ∈ zs_w := List.mem_of_getElem? (i := 190) rfl
theorem zq_191 : (Jvm.Cond.fieldLink "ZoneShelfModel" (36 : Nat) "ZoneShelfModel" "oldSizes" "[I") ∈ zs_w := List.mem_of_getElem? (i := 191) rfl
theorem zq_192 : (Jvm.Cond.fieldLink "ZoneShelfModel" (39 : Nat) "ZoneShelfModel" "oldOpens" "[Z") ∈ zs_w := List.mem_of_getElem? (i := 192) rfl
theorem zq_193 : (Jvm.Cond.fieldLink "ZoneShelfModel" (42 : Nat) "ZoneShelfModel" "oldWords" "[I") ∈ zs_w := List.mem_of_getElem? (i := 193) rfl
theorem zq_194 : (Jvm.Cond.lays "ZoneShelfModel" "ZoneShelfModel" "up" "Z") ∈ zs_w := List.mem_of_getElem? (i := 194) rfl
theorem zq_195 : (Jvm.Cond.laysFinal "ZoneShelfModel" "ZoneShelfModel" "names" "[I") ∈ zs_w := List.mem_of_getElem? (i := 195) rfl
theorem zq_196 : (Jvm.Cond.laysFinal "ZoneShelfModel" "ZoneShelfModel" "hints" "[I") ∈ zs_w := List.mem_of_getElem? (i := 196) rfl
theorem zq_197 : (Jvm.Cond.laysFinal "ZoneShelfModel" "ZoneShelfModel" "sizes" "[I") ∈ zs_w := List.mem_of_getElem? (i := 197) rfl
theorem zq_198 : (Jvm.Cond.laysFinal "ZoneShelfModel" "ZoneShelfModel" "opens" "[Z") ∈ zs_w := List.mem_of_getElem? (i := 198) rfl
theorem zq_199 : (Jvm.Cond.laysFinal "ZoneShelfModel" "ZoneShelfModel" "words" "[I") ∈ zs_w := List.mem_of_getElem? (i := 199) rfl
theorem zq_200 : (Jvm.Cond.laysFinal "ZoneShelfModel" "ZoneShelfModel" "oldNames" "[I") ∈ zs_w := List.mem_of_getElem? (i := 200) rfl
theorem zq_201 : (Jvm.Cond.laysFinal "ZoneShelfModel" "ZoneShelfModel" "oldHints" "[I") ∈ zs_w := List.mem_of_getElem? (i := 201) rfl
theorem zq_202 : (Jvm.Cond.laysFinal "ZoneShelfModel" "ZoneShelfModel" "oldSizes" "[I") ∈ zs_w := List.mem_of_getElem? (i := 202) rfl
theorem zq_203 : (Jvm.Cond.laysFinal "ZoneShelfModel" "ZoneShelfModel" "oldOpens" "[Z") ∈ zs_w := List.mem_of_getElem? (i := 203) rfl
theorem zq_204 : (Jvm.Cond.laysFinal "ZoneShelfModel" "ZoneShelfModel" "oldWords" "[I") ∈ zs_w := List.mem_of_getElem? (i := 204) rfl
theorem zq_205 : (Jvm.Cond.methodLink "ZoneShelfLaw" (17 : Nat) ({ cls := "ZoneShelfModel", name := "create", desc := "(II)I" } : Jvm.MethodName)) ∈ zs_w := List.mem_of_getElem? (i := 205) rfl
theorem zq_206 : (Jvm.Cond.instanceMethod ({ cls := "ZoneShelfModel", name := "create", desc := "(II)I" } : Jvm.MethodName)) ∈ zs_w := List.mem_of_getElem? (i := 206) rfl
theorem zq_207 : (Jvm.Cond.selects "ZoneShelfModel" ({ cls := "ZoneShelfModel", name := "create", desc := "(II)I" } : Jvm.MethodName) ({ cls := "ZoneShelfModel", name := "create", desc := "(II)I" } : Jvm.MethodName)) ∈ zs_w := List.mem_of_getElem? (i := 207) rfl
theorem zq_208 : (Jvm.Cond.code ({ cls := "ZoneShelfModel", name := "create", desc := "(II)I" } : Jvm.MethodName) prog_4_method_6_code (4 : Nat) (Option.some Jvm.ClassFile.FieldType.int)) ∈ zs_w := List.mem_of_getElem? (i := 208) rfl
theorem zq_209 : (Jvm.Cond.methodLink "ZoneShelfModel" (45 : Nat) ({ cls := "ZoneShelfModel", name := "isName", desc := "(I)Z" } : Jvm.MethodName)) ∈ zs_w := List.mem_of_getElem? (i := 209) rfl
theorem zq_210 : (Jvm.Cond.static ({ cls := "ZoneShelfModel", name := "isName", desc := "(I)Z" } : Jvm.MethodName)) ∈ zs_w := List.mem_of_getElem? (i := 210) rfl
theorem zq_211 : (Jvm.Cond.code ({ cls := "ZoneShelfModel", name := "isName", desc := "(I)Z" } : Jvm.MethodName) prog_4_method_3_code (1 : Nat) (Option.some Jvm.ClassFile.FieldType.boolean)) ∈ zs_w := List.mem_of_getElem? (i := 211) rfl
theorem zq_212 : (Jvm.Cond.methodLink "ZoneShelfModel" (52 : Nat) ({ cls := "ZoneShelfModel", name := "named", desc := "(I)I" } : Jvm.MethodName)) ∈ zs_w := List.mem_of_getElem? (i := 212) rfl
theorem zq_213 : (Jvm.Cond.instanceMethod ({ cls := "ZoneShelfModel", name := "named", desc := "(I)I" } : Jvm.MethodName)) ∈ zs_w := List.mem_of_getElem? (i := 213) rfl
theorem zq_214 : (Jvm.Cond.code ({ cls := "ZoneShelfModel", name := "named", desc := "(I)I" } : Jvm.MethodName) prog_4_method_4_code (4 : Nat) (Option.some Jvm.ClassFile.FieldType.int)) ∈ zs_w := List.mem_of_getElem? (i := 214) rfl
theorem zq_215 : (Jvm.Cond.methodLink "ZoneShelfModel" (49 : Nat) ({ cls := "ZoneShelfModel", name := "is", desc := "(I)Z" } : Jvm.MethodName)) ∈ zs_w := List.mem_of_getElem? (i := 215) rfl
theorem zq_216 : (Jvm.Cond.instanceMethod ({ cls := "ZoneShelfModel", name := "is", desc := "(I)Z" } : Jvm.MethodName)) ∈ zs_w := List.mem_of_getElem? (i := 216) rfl
theorem zq_217 : (Jvm.Cond.code ({ cls := "ZoneShelfModel", name := "is", desc := "(I)Z" } : Jvm.MethodName) prog_4_method_2_code (2 : Nat) (Option.some Jvm.ClassFile.FieldType.boolean)) ∈ zs_w := List.mem_of_getElem? (i := 217) rfl
theorem zq_218 : (Jvm.Cond.methodLink "ZoneShelfLaw" (22 : Nat) ({ cls := "ZoneShelfModel", name := "append", desc := "(II)Z" } : Jvm.MethodName)) ∈ zs_w := List.mem_of_getElem? (i := 218) rfl
theorem zq_219 : (Jvm.Cond.instanceMethod ({ cls := "ZoneShelfModel", name := "append", desc := "(II)Z" } : Jvm.MethodName)) ∈ zs_w := List.mem_of_getElem? (i := 219) rfl
theorem zq_220 : (Jvm.Cond.selects "ZoneShelfModel" ({ cls := "ZoneShelfModel", name := "append", desc := "(II)Z" } : Jvm.MethodName) ({ cls := "ZoneShelfModel", name := "append", desc := "(II)Z" } : Jvm.MethodName)) ∈ zs_w := List.mem_of_getElem? (i := 220) rfl
theorem zq_221 : (Jvm.Cond.code ({ cls := "ZoneShelfModel", name := "append", desc := "(II)Z" } : Jvm.MethodName) prog_4_method_7_code (3 : Nat) (Option.some Jvm.ClassFile.FieldType.boolean)) ∈ zs_w := List.mem_of_getElem? (i := 221) rfl
theorem zq_222 : (Jvm.Cond.methodLink "ZoneShelfModel" (56 : Nat) ({ cls := "ZoneShelfModel", name := "appendRow", desc := "(III)Z" } : Jvm.MethodName)) ∈ zs_w := List.mem_of_getElem? (i := 222) rfl
theorem zq_223 : (Jvm.Cond.instanceMethod ({ cls := "ZoneShelfModel", name := "appendRow", desc := "(III)Z" } : Jvm.MethodName)) ∈ zs_w := List.mem_of_getElem? (i := 223) rfl
theorem zq_224 : (Jvm.Cond.selects "ZoneShelfModel" ({ cls := "ZoneShelfModel", name := "appendRow", desc := "(III)Z" } : Jvm.MethodName) ({ cls := "ZoneShelfModel", name := "appendRow", desc := "(III)Z" } : Jvm.MethodName)) ∈ zs_w := List.mem_of_getElem? (i := 224) rfl
theorem zq_225 : (Jvm.Cond.code ({ cls := "ZoneShelfModel", name := "appendRow", desc := "(III)Z" } : Jvm.MethodName) prog_4_method_8_code (5 : Nat) (Option.some Jvm.ClassFile.FieldType.boolean)) ∈ zs_w := List.mem_of_getElem? (i := 225) rfl
theorem zq_226 : (Jvm.Cond.methodLink "ZoneShelfModel" (60 : Nat) ({ cls := "ZoneShelfModel", name := "left", desc := "()I" } : Jvm.MethodName)) ∈ zs_w := List.mem_of_getElem? (i := 226) rfl
theorem zq_227 : (Jvm.Cond.instanceMethod ({ cls := "ZoneShelfModel", name := "left", desc := "()I" } : Jvm.MethodName)) ∈ zs_w := List.mem_of_getElem? (i := 227) rfl
theorem zq_228 : (Jvm.Cond.code ({ cls := "ZoneShelfModel", name := "left", desc := "()I" } : Jvm.MethodName) prog_4_method_5_code (3 : Nat) (Option.some Jvm.ClassFile.FieldType.int)) ∈ zs_w := List.mem_of_getElem? (i := 228) rfl
theorem zq_229 : (Jvm.Cond.methodLink "ZoneShelfLaw" (27 : Nat) ({ cls := "ZoneShelfModel", name := "appendRow", desc := "(III)Z" } : Jvm.MethodName)) ∈ zs_w := List.mem_of_getElem? (i := 229) rfl
theorem zq_230 : (Jvm.Cond.methodLink "ZoneShelfLaw" (32 : Nat) ({ cls := "ZoneShelfModel", name := "open", desc := "(IZ)Z" } : Jvm.MethodName)) ∈ zs_w := List.mem_of_getElem? (i := 230) rfl
theorem zq_231 : (Jvm.Cond.instanceMethod ({ cls := "ZoneShelfModel", name := "open", desc := "(IZ)Z" } : Jvm.MethodName)) ∈ zs_w := List.mem_of_getElem? (i := 231) rfl
theorem zq_232 : (Jvm.Cond.selects "ZoneShelfModel" ({ cls := "ZoneShelfModel", name := "open", desc := "(IZ)Z" } : Jvm.MethodName) ({ cls := "ZoneShelfModel", name := "open", desc := "(IZ)Z" } : Jvm.MethodName)) ∈ zs_w := List.mem_of_getElem? (i := 232) rfl
theorem zq_233 : (Jvm.Cond.code ({ cls := "ZoneShelfModel", name := "open", desc := "(IZ)Z" } : Jvm.MethodName) prog_4_method_9_code (3 : Nat) (Option.some Jvm.ClassFile.FieldType.boolean)) ∈ zs_w := List.mem_of_getElem? (i := 233) rfl
theorem zq_234 : (Jvm.Cond.methodLink "ZoneShelfLaw" (37 : Nat) ({ cls := "ZoneShelfModel", name := "remove", desc := "(I)Z" } : Jvm.MethodName)) ∈ zs_w := List.mem_of_getElem? (i := 234) rfl
theorem zq_235 : (Jvm.Cond.instanceMethod ({ cls := "ZoneShelfModel", name := "remove", desc := "(I)Z" } : Jvm.MethodName)) ∈ zs_w := List.mem_of_getElem? (i := 235) rfl
theorem zq_236 : (Jvm.Cond.selects "ZoneShelfModel" ({ cls := "ZoneShelfModel", name := "remove", desc := "(I)Z" } : Jvm.MethodName) ({ cls := "ZoneShelfModel", name := "remove", desc := "(I)Z" } : Jvm.MethodName)) ∈ zs_w := List.mem_of_getElem? (i := 236) rfl
theorem zq_237 : (Jvm.Cond.code ({ cls := "ZoneShelfModel", name := "remove", desc := "(I)Z" } : Jvm.MethodName) prog_4_method_10_code (2 : Nat) (Option.some Jvm.ClassFile.FieldType.boolean)) ∈ zs_w := List.mem_of_getElem? (i := 237) rfl
theorem zq_238 : (Jvm.Cond.methodLink "ZoneShelfLaw" (41 : Nat) ({ cls := "ZoneShelfModel", name := "rename", desc := "(II)Z" } : Jvm.MethodName)) ∈ zs_w := List.mem_of_getElem? (i := 238) rfl
theorem zq_239 : (Jvm.Cond.instanceMethod ({ cls := "ZoneShelfModel", name := "rename", desc := "(II)Z" } : Jvm.MethodName)) ∈ zs_w := List.mem_of_getElem? (i := 239) rfl
theorem zq_240 : (Jvm.Cond.selects "ZoneShelfModel" ({ cls := "ZoneShelfModel", name := "rename", desc := "(II)Z" } : Jvm.MethodName) ({ cls := "ZoneShelfModel", name := "rename", desc := "(II)Z" } : Jvm.MethodName)) ∈ zs_w := List.mem_of_getElem? (i := 240) rfl
theorem zq_241 : (Jvm.Cond.code ({ cls := "ZoneShelfModel", name := "rename", desc := "(II)Z" } : Jvm.MethodName) prog_4_method_11_code (3 : Nat) (Option.some Jvm.ClassFile.FieldType.boolean)) ∈ zs_w := List.mem_of_getElem? (i := 241) rfl
theorem zq_242 : (Jvm.Cond.methodLink "ZoneShelfLaw" (46 : Nat) ({ cls := "ZoneShelfModel", name := "sync", desc := "()Z" } : Jvm.MethodName)) ∈ zs_w := List.mem_of_getElem? (i := 242) rfl
theorem zq_243 : (Jvm.Cond.instanceMethod ({ cls := "ZoneShelfModel", name := "sync", desc := "()Z" } : Jvm.MethodName)) ∈ zs_w := List.mem_of_getElem? (i := 243) rfl
theorem zq_244 : (Jvm.Cond.selects "ZoneShelfModel" ({ cls := "ZoneShelfModel", name := "sync", desc := "()Z" } : Jvm.MethodName) ({ cls := "ZoneShelfModel", name := "sync", desc := "()Z" } : Jvm.MethodName)) ∈ zs_w := List.mem_of_getElem? (i := 244) rfl
theorem zq_245 : (Jvm.Cond.code ({ cls := "ZoneShelfModel", name := "sync", desc := "()Z" } : Jvm.MethodName) prog_4_method_12_code (2 : Nat) (Option.some Jvm.ClassFile.FieldType.boolean)) ∈ zs_w := List.mem_of_getElem? (i := 245) rfl
theorem zq_246 : (Jvm.Cond.methodLink "ZoneShelfLaw" (50 : Nat) ({ cls := "ZoneShelfModel", name := "tear", desc := "()Z" } : Jvm.MethodName)) ∈ zs_w := List.mem_of_getElem? (i := 246) rfl
theorem zq_247 : (Jvm.Cond.instanceMethod ({ cls := "ZoneShelfModel", name := "tear", desc := "()Z" } : Jvm.MethodName)) ∈ zs_w := List.mem_of_getElem? (i := 247) rfl
theorem zq_248 : (Jvm.Cond.selects "ZoneShelfModel" ({ cls := "ZoneShelfModel", name := "tear", desc := "()Z" } : Jvm.MethodName) ({ cls := "ZoneShelfModel", name := "tear", desc := "()Z" } : Jvm.MethodName)) ∈ zs_w := List.mem_of_getElem? (i := 248) rfl
theorem zq_249 : (Jvm.Cond.code ({ cls := "ZoneShelfModel", name := "tear", desc := "()Z" } : Jvm.MethodName) prog_4_method_13_code (1 : Nat) (Option.some Jvm.ClassFile.FieldType.boolean)) ∈ zs_w := List.mem_of_getElem? (i := 249) rfl
theorem zq_250 : (Jvm.Cond.methodLink "ZoneShelfModel" (64 : Nat) ({ cls := "ZoneShelfModel", name := "cut", desc := "()Z" } : Jvm.MethodName)) ∈ zs_w := List.mem_of_getElem? (i := 250) rfl
theorem zq_251 : (Jvm.Cond.instanceMethod ({ cls := "ZoneShelfModel", name := "cut", desc := "()Z" } : Jvm.MethodName)) ∈ zs_w := List.mem_of_getElem? (i := 251) rfl
theorem zq_252 : (Jvm.Cond.selects "ZoneShelfModel" ({ cls := "ZoneShelfModel", name := "cut", desc := "()Z" } : Jvm.MethodName) ({ cls := "ZoneShelfModel", name := "cut", desc := "()Z" } : Jvm.MethodName)) ∈ zs_w := List.mem_of_getElem? (i := 252) rfl
theorem zq_253 : (Jvm.Cond.code ({ cls := "ZoneShelfModel", name := "cut", desc := "()Z" } : Jvm.MethodName) prog_4_method_14_code (2 : Nat) (Option.some Jvm.ClassFile.FieldType.boolean)) ∈ zs_w := List.mem_of_getElem? (i := 253) rfl
theorem zq_254 : (Jvm.Cond.methodLink "ZoneShelfLaw" (54 : Nat) ({ cls := "ZoneShelfModel", name := "cut", desc := "()Z" } : Jvm.MethodName)) ∈ zs_w := List.mem_of_getElem? (i := 254) rfl
theorem zq_255 : (Jvm.Cond.methodLink "ZoneShelfLaw" (58 : Nat) ({ cls := "ZoneShelfModel", name := "mount", desc := "()Z" } : Jvm.MethodName)) ∈ zs_w := List.mem_of_getElem? (i := 255) rfl
theorem zq_256 : (Jvm.Cond.instanceMethod ({ cls := "ZoneShelfModel", name := "mount", desc := "()Z" } : Jvm.MethodName)) ∈ zs_w := List.mem_of_getElem? (i := 256) rfl
theorem zq_257 : (Jvm.Cond.selects "ZoneShelfModel" ({ cls := "ZoneShelfModel", name := "mount", desc := "()Z" } : Jvm.MethodName) ({ cls := "ZoneShelfModel", name := "mount", desc := "()Z" } : Jvm.MethodName)) ∈ zs_w := List.mem_of_getElem? (i := 257) rfl
theorem zq_258 : (Jvm.Cond.code ({ cls := "ZoneShelfModel", name := "mount", desc := "()Z" } : Jvm.MethodName) prog_4_method_15_code (2 : Nat) (Option.some Jvm.ClassFile.FieldType.boolean)) ∈ zs_w := List.mem_of_getElem? (i := 258) rfl
theorem zq_259 : (Jvm.Cond.methodLink "ZoneShelfLaw" (62 : Nat) ({ cls := "ZoneShelfModel", name := "tidy", desc := "()Z" } : Jvm.MethodName)) ∈ zs_w := List.mem_of_getElem? (i := 259) rfl
theorem zq_260 : (Jvm.Cond.instanceMethod ({ cls := "ZoneShelfModel", name := "tidy", desc := "()Z" } : Jvm.MethodName)) ∈ zs_w := List.mem_of_getElem? (i := 260) rfl
theorem zq_261 : (Jvm.Cond.selects "ZoneShelfModel" ({ cls := "ZoneShelfModel", name := "tidy", desc := "()Z" } : Jvm.MethodName) ({ cls := "ZoneShelfModel", name := "tidy", desc := "()Z" } : Jvm.MethodName)) ∈ zs_w := List.mem_of_getElem? (i := 261) rfl
theorem zq_262 : (Jvm.Cond.code ({ cls := "ZoneShelfModel", name := "tidy", desc := "()Z" } : Jvm.MethodName) prog_4_method_16_code (1 : Nat) (Option.some Jvm.ClassFile.FieldType.boolean)) ∈ zs_w := List.mem_of_getElem? (i := 262) rfl
theorem zq_263 : (Jvm.Cond.methodLink "ZoneShelfLaw" (66 : Nat) ({ cls := "ZoneShelfModel", name := "isUp", desc := "()Z" } : Jvm.MethodName)) ∈ zs_w := List.mem_of_getElem? (i := 263) rfl
theorem zq_264 : (Jvm.Cond.instanceMethod ({ cls := "ZoneShelfModel", name := "isUp", desc := "()Z" } : Jvm.MethodName)) ∈ zs_w := List.mem_of_getElem? (i := 264) rfl
theorem zq_265 : (Jvm.Cond.selects "ZoneShelfModel" ({ cls := "ZoneShelfModel", name := "isUp", desc := "()Z" } : Jvm.MethodName) ({ cls := "ZoneShelfModel", name := "isUp", desc := "()Z" } : Jvm.MethodName)) ∈ zs_w := List.mem_of_getElem? (i := 265) rfl
theorem zq_266 : (Jvm.Cond.code ({ cls := "ZoneShelfModel", name := "isUp", desc := "()Z" } : Jvm.MethodName) prog_4_method_17_code (1 : Nat) (Option.some Jvm.ClassFile.FieldType.boolean)) ∈ zs_w := List.mem_of_getElem? (i := 266) rfl
theorem zq_267 : (Jvm.Cond.methodLink "ZoneShelfLaw" (71 : Nat) ({ cls := "ZoneShelfModel", name := "objects", desc := "()I" } : Jvm.MethodName)) ∈ zs_w := List.mem_of_getElem? (i := 267) rfl
theorem zq_268 : (Jvm.Cond.instanceMethod ({ cls := "ZoneShelfModel", name := "objects", desc := "()I" } : Jvm.MethodName)) ∈ zs_w := List.mem_of_getElem? (i := 268) rfl
theorem zq_269 : (Jvm.Cond.selects "ZoneShelfModel" ({ cls := "ZoneShelfModel", name := "objects", desc := "()I" } : Jvm.MethodName) ({ cls := "ZoneShelfModel", name := "objects", desc := "()I" } : Jvm.MethodName)) ∈ zs_w := List.mem_of_getElem? (i := 269) rfl
theorem zq_270 : (Jvm.Cond.code ({ cls := "ZoneShelfModel", name := "objects", desc := "()I" } : Jvm.MethodName) prog_4_method_18_code (3 : Nat) (Option.some Jvm.ClassFile.FieldType.int)) ∈ zs_w := List.mem_of_getElem? (i := 270) rfl
theorem zq_271 : (Jvm.Cond.methodLink "ZoneShelfLaw" (75 : Nat) ({ cls := "ZoneShelfModel", name := "room", desc := "()I" } : Jvm.MethodName)) ∈ zs_w := List.mem_of_getElem? (i := 271) rfl
theorem zq_272 : (Jvm.Cond.instanceMethod ({ cls := "ZoneShelfModel", name := "room", desc := "()I" } : Jvm.MethodName)) ∈ zs_w := List.mem_of_getElem? (i := 272) rfl
theorem zq_273 : (Jvm.Cond.selects "ZoneShelfModel" ({ cls := "ZoneShelfModel", name := "room", desc := "()I" } : Jvm.MethodName) ({ cls := "ZoneShelfModel", name := "room", desc := "()I" } : Jvm.MethodName)) ∈ zs_w := List.mem_of_getElem? (i := 273) rfl
theorem zq_274 : (Jvm.Cond.code ({ cls := "ZoneShelfModel", name := "room", desc := "()I" } : Jvm.MethodName) prog_4_method_19_code (1 : Nat) (Option.some Jvm.ClassFile.FieldType.int)) ∈ zs_w := List.mem_of_getElem? (i := 274) rfl
theorem zq_275 : (Jvm.Cond.methodLink "ZoneShelfLaw" (79 : Nat) ({ cls := "ZoneShelfModel", name := "object", desc := "(II)I" } : Jvm.MethodName)) ∈ zs_w := List.mem_of_getElem? (i := 275) rfl
theorem zq_276 : (Jvm.Cond.instanceMethod ({ cls := "ZoneShelfModel", name := "object", desc := "(II)I" } : Jvm.MethodName)) ∈ zs_w := List.mem_of_getElem? (i := 276) rfl
theorem zq_277 : (Jvm.Cond.selects "ZoneShelfModel" ({ cls := "ZoneShelfModel", name := "object", desc := "(II)I" } : Jvm.MethodName) ({ cls := "ZoneShelfModel", name := "object", desc := "(II)I" } : Jvm.MethodName)) ∈ zs_w := List.mem_of_getElem? (i := 277) rfl
theorem zq_278 : (Jvm.Cond.code ({ cls := "ZoneShelfModel", name := "object", desc := "(II)I" } : Jvm.MethodName) prog_4_method_20_code (3 : Nat) (Option.some Jvm.ClassFile.FieldType.int)) ∈ zs_w := List.mem_of_getElem? (i := 278) rfl
theorem zq_279 : (Jvm.Cond.methodLink "ZoneShelfLaw" (83 : Nat) ({ cls := "ZoneShelfModel", name := "word", desc := "(II)I" } : Jvm.MethodName)) ∈ zs_w := List.mem_of_getElem? (i := 279) rfl
theorem zq_280 : (Jvm.Cond.instanceMethod ({ cls := "ZoneShelfModel", name := "word", desc := "(II)I" } : Jvm.MethodName)) ∈ zs_w := List.mem_of_getElem? (i := 280) rfl
theorem zq_281 : (Jvm.Cond.selects "ZoneShelfModel" ({ cls := "ZoneShelfModel", name := "word", desc := "(II)I" } : Jvm.MethodName) ({ cls := "ZoneShelfModel", name := "word", desc := "(II)I" } : Jvm.MethodName)) ∈ zs_w := List.mem_of_getElem? (i := 281) rfl
theorem zq_282 : (Jvm.Cond.code ({ cls := "ZoneShelfModel", name := "word", desc := "(II)I" } : Jvm.MethodName) prog_4_method_21_code (3 : Nat) (Option.some Jvm.ClassFile.FieldType.int)) ∈ zs_w := List.mem_of_getElem? (i := 282) rfl
theorem zq_283 : (Jvm.Cond.methodLink "ZoneShelfLaw" (88 : Nat) ({ cls := "ZoneShelfModel", name := "find", desc := "(I)I" } : Jvm.MethodName)) ∈ zs_w := List.mem_of_getElem? (i := 283) rfl
theorem zq_284 : (Jvm.Cond.instanceMethod ({ cls := "ZoneShelfModel", name := "find", desc := "(I)I" } : Jvm.MethodName)) ∈ zs_w := List.mem_of_getElem? (i := 284) rfl
theorem zq_285 : (Jvm.Cond.selects "ZoneShelfModel" ({ cls := "ZoneShelfModel", name := "find", desc := "(I)I" } : Jvm.MethodName) ({ cls := "ZoneShelfModel", name := "find", desc := "(I)I" } : Jvm.MethodName)) ∈ zs_w := List.mem_of_getElem? (i := 285) rfl
theorem zq_286 : (Jvm.Cond.code ({ cls := "ZoneShelfModel", name := "find", desc := "(I)I" } : Jvm.MethodName) prog_4_method_22_code (2 : Nat) (Option.some Jvm.ClassFile.FieldType.int)) ∈ zs_w := List.mem_of_getElem? (i := 286) rfl
theorem zq_287 : (Jvm.Cond.methodLink "ZoneShelfLaw" (92 : Nat) ({ cls := "ZoneShelfModel", name := "list", desc := "(I)I" } : Jvm.MethodName)) ∈ zs_w := List.mem_of_getElem? (i := 287) rfl
theorem zq_288 : (Jvm.Cond.instanceMethod ({ cls := "ZoneShelfModel", name := "list", desc := "(I)I" } : Jvm.MethodName)) ∈ zs_w := List.mem_of_getElem? (i := 288) rfl
theorem zq_289 : (Jvm.Cond.selects "ZoneShelfModel" ({ cls := "ZoneShelfModel", name := "list", desc := "(I)I" } : Jvm.MethodName) ({ cls := "ZoneShelfModel", name := "list", desc := "(I)I" } : Jvm.MethodName)) ∈ zs_w := List.mem_of_getElem? (i := 289) rfl
theorem zq_290 : (Jvm.Cond.code ({ cls := "ZoneShelfModel", name := "list", desc := "(I)I" } : Jvm.MethodName) prog_4_method_23_code (5 : Nat) (Option.some Jvm.ClassFile.FieldType.int)) ∈ zs_w := List.mem_of_getElem? (i := 290) rfl
theorem zv_0 : (Jvm.Cond.methodLinkNest "ZoneShelf" (9 : Nat) ({ cls := "ZoneShelf$Contents", name := "<init>", desc := "()V" } : Jvm.MethodName) "ZoneShelf") ∈ zs_n := List.mem_of_getElem? (i := 0) rfl
theorem zv_1 : (Jvm.Cond.fieldLinkNest "ZoneShelf" (60 : Nat) "ZoneShelf$Contents" "names" "[I" "ZoneShelf") ∈ zs_n := List.mem_of_getElem? (i := 1) rfl
theorem zv_2 : (Jvm.Cond.fieldLinkNest "ZoneShelf" (78 : Nat) "ZoneShelf$Contents" "hints" "[I" "ZoneShelf") ∈ zs_n := List.mem_of_getElem? (i := 2) rfl
theorem zv_3 : (Jvm.Cond.fieldLinkNest "ZoneShelf" (81 : Nat) "ZoneShelf$Contents" "lengths" "[I" "ZoneShelf") ∈ zs_n := List.mem_of_getElem? (i := 3) rfl
theorem zv_4 : (Jvm.Cond.fieldLinkNest "ZoneShelf" (45 : Nat) "ZoneShelf$Contents" "opened" "[Z" "ZoneShelf") ∈ zs_n := List.mem_of_getElem? (i := 4) rfl
theorem zv_5 : (Jvm.Cond.fieldLinkNest "ZoneShelf" (84 : Nat) "ZoneShelf$Contents" "words" "[I" "ZoneShelf") ∈ zs_n := List.mem_of_getElem? (i := 5) rfl
theorem zv_6 : (Jvm.Cond.methodLinkNest "ZoneShelf" (90 : Nat) ({ cls := "ZoneShelf$Contents", name := "numberOf", desc := "(I)I" } : Jvm.MethodName) "ZoneShelf") ∈ zs_n := List.mem_of_getElem? (i := 6) rfl
theorem zv_7 : (Jvm.Cond.methodLinkNest "ZoneShelf" (30 : Nat) ({ cls := "ZoneShelf$Contents", name := "leastFreeNumber", desc := "()I" } : Jvm.MethodName) "ZoneShelf") ∈ zs_n := List.mem_of_getElem? (i := 7) rfl
theorem zv_8 : (Jvm.Cond.methodLinkNest "ZoneShelf" (34 : Nat) ({ cls := "ZoneShelf$Contents", name := "place", desc := "(III)V" } : Jvm.MethodName) "ZoneShelf") ∈ zs_n := List.mem_of_getElem? (i := 8) rfl
theorem zv_9 : (Jvm.Cond.methodLinkNest "ZoneShelf" (96 : Nat) ({ cls := "ZoneShelf$Contents", name := "isTaken", desc := "(I)Z" } : Jvm.MethodName) "ZoneShelf") ∈ zs_n := List.mem_of_getElem? (i := 9) rfl
theorem zv_10 : (Jvm.Cond.methodLinkNest "ZoneShelf" (75 : Nat) ({ cls := "ZoneShelf$Contents", name := "countWords", desc := "()I" } : Jvm.MethodName) "ZoneShelf") ∈ zs_n := List.mem_of_getElem? (i := 10) rfl
theorem zv_11 : (Jvm.Cond.methodLinkNest "ZoneShelf" (53 : Nat) ({ cls := "ZoneShelf$Contents", name := "addRow", desc := "(III)V" } : Jvm.MethodName) "ZoneShelf") ∈ zs_n := List.mem_of_getElem? (i := 11) rfl
theorem zv_12 : (Jvm.Cond.methodLinkNest "ZoneShelf" (56 : Nat) ({ cls := "ZoneShelf$Contents", name := "takeAway", desc := "(I)V" } : Jvm.MethodName) "ZoneShelf") ∈ zs_n := List.mem_of_getElem? (i := 12) rfl
theorem zv_13 : (Jvm.Cond.methodLinkNest "ZoneShelf" (64 : Nat) ({ cls := "ZoneShelf$Contents", name := "copyFrom", desc := "(LZoneShelf$Contents;)V" } : Jvm.MethodName) "ZoneShelf") ∈ zs_n := List.mem_of_getElem? (i := 13) rfl
theorem zv_14 : (Jvm.Cond.methodLinkNest "ZoneShelf" (72 : Nat) ({ cls := "ZoneShelf$Contents", name := "countObjects", desc := "()I" } : Jvm.MethodName) "ZoneShelf") ∈ zs_n := List.mem_of_getElem? (i := 14) rfl
theorem zv_15 : (Jvm.Cond.methodLinkNest "ZoneShelf" (93 : Nat) ({ cls := "ZoneShelf$Contents", name := "numberAtRank", desc := "(I)I" } : Jvm.MethodName) "ZoneShelf") ∈ zs_n := List.mem_of_getElem? (i := 15) rfl
theorem zs_in_X : ∀ w ∈ u_ws "ZoneShelf" zs_T_X 3, w ∈ zs_w := by decide +kernel
theorem zs_tok_X : ∀ k, k < 3 → parseFieldDescriptor (zs_T_X k).2.2.1 = some (zs_t_X k) := by decide +kernel
theorem zs_nok_X : ∀ a, a < 3 → ∀ b, b < 3 → a ≠ b → (zs_T_X a).2.1 ≠ (zs_T_X b).2.1 := by decide +kernel
theorem zs_in_C : ∀ w ∈ u_ws "ZoneShelf$Contents" zs_T_C 5, w ∈ zs_w := by decide +kernel
theorem zs_tok_C : ∀ k, k < 5 → parseFieldDescriptor (zs_T_C k).2.2.1 = some (zs_t_C k) := by decide +kernel
theorem zs_nok_C : ∀ a, a < 5 → ∀ b, b < 5 → a ≠ b → (zs_T_C a).2.1 ≠ (zs_T_C b).2.1 := by decide +kernel
theorem zs_in_M : ∀ w ∈ u_ws "ZoneShelfModel" zs_T_M 11, w ∈ zs_w := by decide +kernel
theorem zs_tok_M : ∀ k, k < 11 → parseFieldDescriptor (zs_T_M k).2.2.1 = some (zs_t_M k) := by decide +kernel
theorem zs_nok_M : ∀ a, a < 11 → ∀ b, b < 11 → a ≠ b → (zs_T_M a).2.1 ≠ (zs_T_M b).2.1 := by decide +kernel
def zs_wi : List Nat := [0, 1, 2, 3, 4, 5, 6, 7, 8, 9, 10, 11, 12, 13, 14, 15, 16, 17, 18, 19, 20, 21, 22, 23, 24, 25, 26, 27, 28, 29, 30, 31, 32, 33, 35, 36, 37, 38, 39, 40, 41, 43, 45, 47, 49, 51, 53, 55, 57, 59, 62, 63, 64, 65, 66, 67, 69, 71, 74, 75, 76, 77, 78, 80, 81, 82, 83, 84, 87, 88, 89, 90, 91, 94, 95, 96, 98, 99, 102, 103, 104, 105, 106, 107, 108, 109, 110, 111, 112, 114, 115, 117, 119, 120, 123, 124, 125, 126, 127, 130, 131, 132, 133, 134, 135, 136, 137, 138, 139, 140, 143, 144, 145, 146, 147, 148, 149, 150, 151, 152, 155, 156, 157, 158, 159, 160, 161, 162, 163, 164, 165, 166, 167, 168, 169, 170, 171, 172, 173, 174, 175, 176, 177, 178, 179, 180, 181, 182, 183, 184, 187, 188, 189, 190, 191, 192, 193, 194, 195, 196, 197, 198, 199, 200, 201, 202, 203, 204, 205, 206, 207, 208, 211, 212, 213, 215, 216, 217, 218, 219, 220, 221, 222, 223, 224, 225, 226, 227, 228, 229, 230, 231, 232, 233, 234, 236, 238, 240, 242, 244, 246, 248, 250, 252, 254, 257, 258, 259, 260, 261, 262, 263, 264, 266, 267, 268, 270, 271, 272, 273, 274, 275, 276, 277, 278, 279, 280, 282, 283, 284, 285, 286, 287, 288, 289, 290, 291, 292, 293, 294, 295, 296, 297, 298, 299, 300, 301, 302, 303, 304, 305, 306, 307, 308, 309, 310, 311, 312, 313, 314, 315, 316, 317, 318, 319, 320, 321, 322, 323, 324, 325, 326, 327, 328, 329, 330, 331, 332, 333, 334, 335, 336, 337, 338, 339, 340, 341, 342, 343, 344, 345]
def zs_ni : List Nat := [34, 42, 44, 46, 48, 50, 85, 92, 100, 116, 121, 128, 141, 153, 185, 209]
set_option maxRecDepth 100000 in
theorem zs_wi_ok : zs_wi.filterMap (fun i => lw_tbl[i]?) = zs_w := by rfl
set_option maxRecDepth 100000 in
theorem zs_ni_ok : zs_ni.filterMap (fun i => lw_tbl[i]?) = zs_n := by rfl
theorem zs_w_tbl : ∀ w ∈ zs_w, w ∈ lw_tbl := by
  intro w hw
  rw [← zs_wi_ok] at hw
  obtain ⟨i, -, hi⟩ := List.mem_filterMap.mp hw
  exact List.mem_of_getElem? hi
theorem zs_n_tbl : ∀ w ∈ zs_n, w ∈ lw_tbl := by
  intro w hw
  rw [← zs_ni_ok] at hw
  obtain ⟨i, -, hi⟩ := List.mem_filterMap.mp hw
  exact List.mem_of_getElem? hi
end
section
/-- what a callee's own words say -/
def zs_f (y : MethodName) (bytes : ByteArray) (maxL : Nat) (ret : Option FieldType) (n : Nat) : Prop := Cond.code y bytes maxL ret ∈ zs_w ∧ Cond.initialized y.cls ∈ zs_w ∧ (y.cls ≠ "java/lang/invoke/MethodHandle" ∧ y.cls ≠ "java/lang/invoke/VarHandle" ∧ (parseMethodDescriptor y.desc).map (fun d => d.parameters.length) = some n)
theorem zf_X_init : zs_f zy_X_init zb_X_init 1 none 0 := ⟨zq_28, zq_18, by decide +kernel, by decide +kernel, by decide +kernel⟩
theorem zf_C_init : zs_f zy_C_init zb_C_init 1 none 0 := ⟨zq_35, zq_19, by decide +kernel, by decide +kernel, by decide +kernel⟩
theorem zf_J_fill : zs_f zy_J_fill zb_J_fill 4 none 2 := ⟨zq_39, zq_20, by decide +kernel, by decide +kernel, by decide +kernel⟩
theorem zf_X_create : zs_f zy_X_create zb_X_create 4 (some .int) 2 := ⟨zq_61, zq_18, by decide +kernel, by decide +kernel, by decide +kernel⟩
theorem zf_X_isFreeName : zs_f zy_X_isFreeName zb_X_isFreeName 2 (some .boolean) 1 := ⟨zq_64, zq_18, by decide +kernel, by decide +kernel, by decide +kernel⟩
theorem zf_X_isName : zs_f zy_X_isName zb_X_isName 1 (some .boolean) 1 := ⟨zq_67, zq_18, by decide +kernel, by decide +kernel, by decide +kernel⟩
theorem zf_C_numberOf : zs_f zy_C_numberOf zb_C_numberOf 3 (some .int) 1 := ⟨zq_69, zq_19, by decide +kernel, by decide +kernel, by decide +kernel⟩
theorem zf_X_isHint : zs_f zy_X_isHint zb_X_isHint 1 (some .boolean) 1 := ⟨zq_72, zq_18, by decide +kernel, by decide +kernel, by decide +kernel⟩
theorem zf_C_leastFreeNumber : zs_f zy_C_leastFreeNumber zb_C_leastFreeNumber 2 (some .int) 0 := ⟨zq_74, zq_19, by decide +kernel, by decide +kernel, by decide +kernel⟩
theorem zf_C_isTaken : zs_f zy_C_isTaken zb_C_isTaken 2 (some .boolean) 1 := ⟨zq_77, zq_19, by decide +kernel, by decide +kernel, by decide +kernel⟩
theorem zf_C_place : zs_f zy_C_place zb_C_place 4 none 3 := ⟨zq_79, zq_19, by decide +kernel, by decide +kernel, by decide +kernel⟩
theorem zf_X_append : zs_f zy_X_append zb_X_append 3 (some .boolean) 2 := ⟨zq_83, zq_18, by decide +kernel, by decide +kernel, by decide +kernel⟩
theorem zf_X_appendRow : zs_f zy_X_appendRow zb_X_appendRow 4 (some .boolean) 3 := ⟨zq_87, zq_18, by decide +kernel, by decide +kernel, by decide +kernel⟩
theorem zf_X_isThere : zs_f zy_X_isThere zb_X_isThere 2 (some .boolean) 1 := ⟨zq_90, zq_18, by decide +kernel, by decide +kernel, by decide +kernel⟩
theorem zf_X_roomIn : zs_f zy_X_roomIn zb_X_roomIn 2 (some .int) 1 := ⟨zq_93, zq_18, by decide +kernel, by decide +kernel, by decide +kernel⟩
theorem zf_C_countWords : zs_f zy_C_countWords zb_C_countWords 3 (some .int) 0 := ⟨zq_95, zq_19, by decide +kernel, by decide +kernel, by decide +kernel⟩
theorem zf_C_addRow : zs_f zy_C_addRow zb_C_addRow 6 none 3 := ⟨zq_100, zq_19, by decide +kernel, by decide +kernel, by decide +kernel⟩
theorem zf_X_open : zs_f zy_X_open zb_X_open 3 (some .boolean) 2 := ⟨zq_105, zq_18, by decide +kernel, by decide +kernel, by decide +kernel⟩
theorem zf_X_remove : zs_f zy_X_remove zb_X_remove 2 (some .boolean) 1 := ⟨zq_109, zq_18, by decide +kernel, by decide +kernel, by decide +kernel⟩
theorem zf_C_takeAway : zs_f zy_C_takeAway zb_C_takeAway 2 none 1 := ⟨zq_111, zq_19, by decide +kernel, by decide +kernel, by decide +kernel⟩
theorem zf_X_rename : zs_f zy_X_rename zb_X_rename 3 (some .boolean) 2 := ⟨zq_115, zq_18, by decide +kernel, by decide +kernel, by decide +kernel⟩
theorem zf_X_sync : zs_f zy_X_sync zb_X_sync 1 (some .boolean) 0 := ⟨zq_119, zq_18, by decide +kernel, by decide +kernel, by decide +kernel⟩
theorem zf_C_copyFrom : zs_f zy_C_copyFrom zb_C_copyFrom 3 none 1 := ⟨zq_121, zq_19, by decide +kernel, by decide +kernel, by decide +kernel⟩
theorem zf_X_tear : zs_f zy_X_tear zb_X_tear 1 (some .boolean) 0 := ⟨zq_128, zq_18, by decide +kernel, by decide +kernel, by decide +kernel⟩
theorem zf_X_cut : zs_f zy_X_cut zb_X_cut 1 (some .boolean) 0 := ⟨zq_132, zq_18, by decide +kernel, by decide +kernel, by decide +kernel⟩
theorem zf_X_mount : zs_f zy_X_mount zb_X_mount 1 (some .boolean) 0 := ⟨zq_137, zq_18, by decide +kernel, by decide +kernel, by decide +kernel⟩
theorem zf_X_tidy : zs_f zy_X_tidy zb_X_tidy 1 (some .boolean) 0 := ⟨zq_141, zq_18, by decide +kernel, by decide +kernel, by decide +kernel⟩
theorem zf_X_isUp : zs_f zy_X_isUp zb_X_isUp 1 (some .boolean) 0 := ⟨zq_145, zq_18, by decide +kernel, by decide +kernel, by decide +kernel⟩
theorem zf_X_objects : zs_f zy_X_objects zb_X_objects 1 (some .int) 0 := ⟨zq_149, zq_18, by decide +kernel, by decide +kernel, by decide +kernel⟩
theorem zf_C_countObjects : zs_f zy_C_countObjects zb_C_countObjects 3 (some .int) 0 := ⟨zq_151, zq_19, by decide +kernel, by decide +kernel, by decide +kernel⟩
theorem zf_X_room : zs_f zy_X_room zb_X_room 1 (some .int) 0 := ⟨zq_155, zq_18, by decide +kernel, by decide +kernel, by decide +kernel⟩
theorem zf_X_object : zs_f zy_X_object zb_X_object 3 (some .int) 2 := ⟨zq_159, zq_18, by decide +kernel, by decide +kernel, by decide +kernel⟩
theorem zf_X_word : zs_f zy_X_word zb_X_word 3 (some .int) 2 := ⟨zq_163, zq_18, by decide +kernel, by decide +kernel, by decide +kernel⟩
theorem zf_X_find : zs_f zy_X_find zb_X_find 2 (some .int) 1 := ⟨zq_167, zq_18, by decide +kernel, by decide +kernel, by decide +kernel⟩
theorem zf_X_list : zs_f zy_X_list zb_X_list 2 (some .int) 1 := ⟨zq_171, zq_18, by decide +kernel, by decide +kernel, by decide +kernel⟩
theorem zf_C_numberAtRank : zs_f zy_C_numberAtRank zb_C_numberAtRank 3 (some .int) 1 := ⟨zq_173, zq_19, by decide +kernel, by decide +kernel, by decide +kernel⟩
theorem zf_C_countNamesBelow : zs_f zy_C_countNamesBelow zb_C_countNamesBelow 4 (some .int) 1 := ⟨zq_176, zq_19, by decide +kernel, by decide +kernel, by decide +kernel⟩
theorem zf_M_init : zs_f zy_M_init zb_M_init 1 none 0 := ⟨zq_181, zq_21, by decide +kernel, by decide +kernel, by decide +kernel⟩
theorem zf_M_create : zs_f zy_M_create zb_M_create 4 (some .int) 2 := ⟨zq_208, zq_21, by decide +kernel, by decide +kernel, by decide +kernel⟩
theorem zf_M_isName : zs_f zy_M_isName zb_M_isName 1 (some .boolean) 1 := ⟨zq_211, zq_21, by decide +kernel, by decide +kernel, by decide +kernel⟩
theorem zf_M_named : zs_f zy_M_named zb_M_named 4 (some .int) 1 := ⟨zq_214, zq_21, by decide +kernel, by decide +kernel, by decide +kernel⟩
theorem zf_M_is : zs_f zy_M_is zb_M_is 2 (some .boolean) 1 := ⟨zq_217, zq_21, by decide +kernel, by decide +kernel, by decide +kernel⟩
theorem zf_M_append : zs_f zy_M_append zb_M_append 3 (some .boolean) 2 := ⟨zq_221, zq_21, by decide +kernel, by decide +kernel, by decide +kernel⟩
theorem zf_M_appendRow : zs_f zy_M_appendRow zb_M_appendRow 5 (some .boolean) 3 := ⟨zq_225, zq_21, by decide +kernel, by decide +kernel, by decide +kernel⟩
theorem zf_M_left : zs_f zy_M_left zb_M_left 3 (some .int) 0 := ⟨zq_228, zq_21, by decide +kernel, by decide +kernel, by decide +kernel⟩
theorem zf_M_open : zs_f zy_M_open zb_M_open 3 (some .boolean) 2 := ⟨zq_233, zq_21, by decide +kernel, by decide +kernel, by decide +kernel⟩
theorem zf_M_remove : zs_f zy_M_remove zb_M_remove 2 (some .boolean) 1 := ⟨zq_237, zq_21, by decide +kernel, by decide +kernel, by decide +kernel⟩
theorem zf_M_rename : zs_f zy_M_rename zb_M_rename 3 (some .boolean) 2 := ⟨zq_241, zq_21, by decide +kernel, by decide +kernel, by decide +kernel⟩
theorem zf_M_sync : zs_f zy_M_sync zb_M_sync 2 (some .boolean) 0 := ⟨zq_245, zq_21, by decide +kernel, by decide +kernel, by decide +kernel⟩
theorem zf_M_tear : zs_f zy_M_tear zb_M_tear 1 (some .boolean) 0 := ⟨zq_249, zq_21, by decide +kernel, by decide +kernel, by decide +kernel⟩
theorem zf_M_cut : zs_f zy_M_cut zb_M_cut 2 (some .boolean) 0 := ⟨zq_253, zq_21, by decide +kernel, by decide +kernel, by decide +kernel⟩
theorem zf_M_mount : zs_f zy_M_mount zb_M_mount 2 (some .boolean) 0 := ⟨zq_258, zq_21, by decide +kernel, by decide +kernel, by decide +kernel⟩
theorem zf_M_tidy : zs_f zy_M_tidy zb_M_tidy 1 (some .boolean) 0 := ⟨zq_262, zq_21, by decide +kernel, by decide +kernel, by decide +kernel⟩
theorem zf_M_isUp : zs_f zy_M_isUp zb_M_isUp 1 (some .boolean) 0 := ⟨zq_266, zq_21, by decide +kernel, by decide +kernel, by decide +kernel⟩
theorem zf_M_objects : zs_f zy_M_objects zb_M_objects 3 (some .int) 0 := ⟨zq_270, zq_21, by decide +kernel, by decide +kernel, by decide +kernel⟩
theorem zf_M_room : zs_f zy_M_room zb_M_room 1 (some .int) 0 := ⟨zq_274, zq_21, by decide +kernel, by decide +kernel, by decide +kernel⟩
theorem zf_M_object : zs_f zy_M_object zb_M_object 3 (some .int) 2 := ⟨zq_278, zq_21, by decide +kernel, by decide +kernel, by decide +kernel⟩
theorem zf_M_word : zs_f zy_M_word zb_M_word 3 (some .int) 2 := ⟨zq_282, zq_21, by decide +kernel, by decide +kernel, by decide +kernel⟩
theorem zf_M_find : zs_f zy_M_find zb_M_find 2 (some .int) 1 := ⟨zq_286, zq_21, by decide +kernel, by decide +kernel, by decide +kernel⟩
theorem zf_M_list : zs_f zy_M_list zb_M_list 5 (some .int) 1 := ⟨zq_290, zq_21, by decide +kernel, by decide +kernel, by decide +kernel⟩
end
section
theorem zd_X_init_0 : decode zb_X_init 0 = .ok (.aload_n 0, 1) := by decide +kernel
theorem zd_X_init_1 : decode zb_X_init 1 = .ok (.invokespecial 1, 3) := by decide +kernel
theorem zd_X_init_4 : decode zb_X_init 4 = .ok (.aload_n 0, 1) := by decide +kernel
theorem zd_X_init_5 : decode zb_X_init 5 = .ok (.new 7, 3) := by decide +kernel
theorem zd_X_init_8 : decode zb_X_init 8 = .ok (.dup, 1) := by decide +kernel
theorem zd_X_init_9 : decode zb_X_init 9 = .ok (.invokespecial 9, 3) := by decide +kernel
theorem zd_X_init_12 : decode zb_X_init 12 = .ok (.putfield 10, 3) := by decide +kernel
theorem zd_X_init_15 : decode zb_X_init 15 = .ok (.aload_n 0, 1) := by decide +kernel
theorem zd_X_init_16 : decode zb_X_init 16 = .ok (.new 7, 3) := by decide +kernel
theorem zd_X_init_19 : decode zb_X_init 19 = .ok (.dup, 1) := by decide +kernel
theorem zd_X_init_20 : decode zb_X_init 20 = .ok (.invokespecial 9, 3) := by decide +kernel
theorem zd_X_init_23 : decode zb_X_init 23 = .ok (.putfield 16, 3) := by decide +kernel
theorem zd_X_init_26 : decode zb_X_init 26 = .ok (.aload_n 0, 1) := by decide +kernel
theorem zd_X_init_27 : decode zb_X_init 27 = .ok (.iconst 1, 1) := by decide +kernel
theorem zd_X_init_28 : decode zb_X_init 28 = .ok (.putfield 19, 3) := by decide +kernel
theorem zd_X_init_31 : decode zb_X_init 31 = .ok (.return_, 1) := by decide +kernel
theorem zd_X_create_0 : decode zb_X_create 0 = .ok (.aload_n 0, 1) := by decide +kernel
theorem zd_X_create_1 : decode zb_X_create 1 = .ok (.getfield 19, 3) := by decide +kernel
theorem zd_X_create_4 : decode zb_X_create 4 = .ok (.ifCond .eq 18, 3) := by decide +kernel
theorem zd_X_create_7 : decode zb_X_create 7 = .ok (.aload_n 0, 1) := by decide +kernel
theorem zd_X_create_8 : decode zb_X_create 8 = .ok (.iload_n 1, 1) := by decide +kernel
theorem zd_X_create_9 : decode zb_X_create 9 = .ok (.invokevirtual 23, 3) := by decide +kernel
theorem zd_X_create_12 : decode zb_X_create 12 = .ok (.ifCond .eq 10, 3) := by decide +kernel
theorem zd_X_create_15 : decode zb_X_create 15 = .ok (.iload_n 2, 1) := by decide +kernel
theorem zd_X_create_16 : decode zb_X_create 16 = .ok (.invokestatic 27, 3) := by decide +kernel
theorem zd_X_create_19 : decode zb_X_create 19 = .ok (.ifCond .ne 5, 3) := by decide +kernel
theorem zd_X_create_22 : decode zb_X_create 22 = .ok (.iconst (-1), 1) := by decide +kernel
theorem zd_X_create_23 : decode zb_X_create 23 = .ok (.ireturn, 1) := by decide +kernel
theorem zd_X_create_24 : decode zb_X_create 24 = .ok (.aload_n 0, 1) := by decide +kernel
theorem zd_X_create_25 : decode zb_X_create 25 = .ok (.getfield 10, 3) := by decide +kernel
theorem zd_X_create_28 : decode zb_X_create 28 = .ok (.invokevirtual 30, 3) := by decide +kernel
theorem zd_X_create_31 : decode zb_X_create 31 = .ok (.istore_n 3, 1) := by decide +kernel
theorem zd_X_create_32 : decode zb_X_create 32 = .ok (.iload_n 3, 1) := by decide +kernel
theorem zd_X_create_33 : decode zb_X_create 33 = .ok (.iconst (-1), 1) := by decide +kernel
theorem zd_X_create_34 : decode zb_X_create 34 = .ok (.if_icmp .eq 13, 3) := by decide +kernel
theorem zd_X_create_37 : decode zb_X_create 37 = .ok (.aload_n 0, 1) := by decide +kernel
theorem zd_X_create_38 : decode zb_X_create 38 = .ok (.getfield 10, 3) := by decide +kernel
theorem zd_X_create_41 : decode zb_X_create 41 = .ok (.iload_n 3, 1) := by decide +kernel
theorem zd_X_create_42 : decode zb_X_create 42 = .ok (.iload_n 1, 1) := by decide +kernel
theorem zd_X_create_43 : decode zb_X_create 43 = .ok (.iload_n 2, 1) := by decide +kernel
theorem zd_X_create_44 : decode zb_X_create 44 = .ok (.invokevirtual 34, 3) := by decide +kernel
theorem zd_X_create_47 : decode zb_X_create 47 = .ok (.iload_n 3, 1) := by decide +kernel
theorem zd_X_create_48 : decode zb_X_create 48 = .ok (.ireturn, 1) := by decide +kernel
theorem zd_X_append_0 : decode zb_X_append 0 = .ok (.aload_n 0, 1) := by decide +kernel
theorem zd_X_append_1 : decode zb_X_append 1 = .ok (.iload_n 1, 1) := by decide +kernel
theorem zd_X_append_2 : decode zb_X_append 2 = .ok (.iload_n 2, 1) := by decide +kernel
theorem zd_X_append_3 : decode zb_X_append 3 = .ok (.iconst 1, 1) := by decide +kernel
theorem zd_X_append_4 : decode zb_X_append 4 = .ok (.invokevirtual 38, 3) := by decide +kernel
theorem zd_X_append_7 : decode zb_X_append 7 = .ok (.ireturn, 1) := by decide +kernel
theorem zd_X_appendRow_0 : decode zb_X_appendRow 0 = .ok (.aload_n 0, 1) := by decide +kernel
theorem zd_X_appendRow_1 : decode zb_X_appendRow 1 = .ok (.iload_n 1, 1) := by decide +kernel
theorem zd_X_appendRow_2 : decode zb_X_appendRow 2 = .ok (.invokevirtual 42, 3) := by decide +kernel
theorem zd_X_appendRow_5 : decode zb_X_appendRow 5 = .ok (.ifCond .eq 29, 3) := by decide +kernel
theorem zd_X_appendRow_8 : decode zb_X_appendRow 8 = .ok (.aload_n 0, 1) := by decide +kernel
theorem zd_X_appendRow_9 : decode zb_X_appendRow 9 = .ok (.getfield 10, 3) := by decide +kernel
theorem zd_X_appendRow_12 : decode zb_X_appendRow 12 = .ok (.getfield 45, 3) := by decide +kernel
theorem zd_X_appendRow_15 : decode zb_X_appendRow 15 = .ok (.iload_n 1, 1) := by decide +kernel
theorem zd_X_appendRow_16 : decode zb_X_appendRow 16 = .ok (.baload, 1) := by decide +kernel
theorem zd_X_appendRow_17 : decode zb_X_appendRow 17 = .ok (.ifCond .eq 17, 3) := by decide +kernel
theorem zd_X_appendRow_20 : decode zb_X_appendRow 20 = .ok (.iload_n 3, 1) := by decide +kernel
theorem zd_X_appendRow_21 : decode zb_X_appendRow 21 = .ok (.iconst 1, 1) := by decide +kernel
theorem zd_X_appendRow_22 : decode zb_X_appendRow 22 = .ok (.if_icmp .lt 12, 3) := by decide +kernel
theorem zd_X_appendRow_25 : decode zb_X_appendRow 25 = .ok (.iload_n 3, 1) := by decide +kernel
theorem zd_X_appendRow_26 : decode zb_X_appendRow 26 = .ok (.aload_n 0, 1) := by decide +kernel
theorem zd_X_appendRow_27 : decode zb_X_appendRow 27 = .ok (.iload_n 1, 1) := by decide +kernel
theorem zd_X_appendRow_28 : decode zb_X_appendRow 28 = .ok (.invokevirtual 49, 3) := by decide +kernel
theorem zd_X_appendRow_31 : decode zb_X_appendRow 31 = .ok (.if_icmp .le 5, 3) := by decide +kernel
theorem zd_X_appendRow_34 : decode zb_X_appendRow 34 = .ok (.iconst 0, 1) := by decide +kernel
theorem zd_X_appendRow_35 : decode zb_X_appendRow 35 = .ok (.ireturn, 1) := by decide +kernel
theorem zd_X_appendRow_36 : decode zb_X_appendRow 36 = .ok (.aload_n 0, 1) := by decide +kernel
theorem zd_X_appendRow_37 : decode zb_X_appendRow 37 = .ok (.getfield 10, 3) := by decide +kernel
theorem zd_X_appendRow_40 : decode zb_X_appendRow 40 = .ok (.iload_n 1, 1) := by decide +kernel
theorem zd_X_appendRow_41 : decode zb_X_appendRow 41 = .ok (.iload_n 2, 1) := by decide +kernel
theorem zd_X_appendRow_42 : decode zb_X_appendRow 42 = .ok (.iload_n 3, 1) := by decide +kernel
theorem zd_X_appendRow_43 : decode zb_X_appendRow 43 = .ok (.invokevirtual 53, 3) := by decide +kernel
theorem zd_X_appendRow_46 : decode zb_X_appendRow 46 = .ok (.iconst 1, 1) := by decide +kernel
theorem zd_X_appendRow_47 : decode zb_X_appendRow 47 = .ok (.ireturn, 1) := by decide +kernel
theorem zd_X_open_0 : decode zb_X_open 0 = .ok (.aload_n 0, 1) := by decide +kernel
theorem zd_X_open_1 : decode zb_X_open 1 = .ok (.iload_n 1, 1) := by decide +kernel
theorem zd_X_open_2 : decode zb_X_open 2 = .ok (.invokevirtual 42, 3) := by decide +kernel
theorem zd_X_open_5 : decode zb_X_open 5 = .ok (.ifCond .ne 5, 3) := by decide +kernel
theorem zd_X_open_8 : decode zb_X_open 8 = .ok (.iconst 0, 1) := by decide +kernel
theorem zd_X_open_9 : decode zb_X_open 9 = .ok (.ireturn, 1) := by decide +kernel
theorem zd_X_open_10 : decode zb_X_open 10 = .ok (.aload_n 0, 1) := by decide +kernel
theorem zd_X_open_11 : decode zb_X_open 11 = .ok (.getfield 10, 3) := by decide +kernel
theorem zd_X_open_14 : decode zb_X_open 14 = .ok (.getfield 45, 3) := by decide +kernel
theorem zd_X_open_17 : decode zb_X_open 17 = .ok (.iload_n 1, 1) := by decide +kernel
theorem zd_X_open_18 : decode zb_X_open 18 = .ok (.iload_n 2, 1) := by decide +kernel
theorem zd_X_open_19 : decode zb_X_open 19 = .ok (.bastore, 1) := by decide +kernel
theorem zd_X_open_20 : decode zb_X_open 20 = .ok (.iconst 1, 1) := by decide +kernel
theorem zd_X_open_21 : decode zb_X_open 21 = .ok (.ireturn, 1) := by decide +kernel
theorem zd_X_remove_0 : decode zb_X_remove 0 = .ok (.aload_n 0, 1) := by decide +kernel
theorem zd_X_remove_1 : decode zb_X_remove 1 = .ok (.iload_n 1, 1) := by decide +kernel
theorem zd_X_remove_2 : decode zb_X_remove 2 = .ok (.invokevirtual 42, 3) := by decide +kernel
theorem zd_X_remove_5 : decode zb_X_remove 5 = .ok (.ifCond .ne 5, 3) := by decide +kernel
theorem zd_X_remove_8 : decode zb_X_remove 8 = .ok (.iconst 0, 1) := by decide +kernel
theorem zd_X_remove_9 : decode zb_X_remove 9 = .ok (.ireturn, 1) := by decide +kernel
theorem zd_X_remove_10 : decode zb_X_remove 10 = .ok (.aload_n 0, 1) := by decide +kernel
theorem zd_X_remove_11 : decode zb_X_remove 11 = .ok (.getfield 10, 3) := by decide +kernel
theorem zd_X_remove_14 : decode zb_X_remove 14 = .ok (.iload_n 1, 1) := by decide +kernel
theorem zd_X_remove_15 : decode zb_X_remove 15 = .ok (.invokevirtual 56, 3) := by decide +kernel
theorem zd_X_remove_18 : decode zb_X_remove 18 = .ok (.iconst 1, 1) := by decide +kernel
theorem zd_X_remove_19 : decode zb_X_remove 19 = .ok (.ireturn, 1) := by decide +kernel
theorem zd_X_rename_0 : decode zb_X_rename 0 = .ok (.aload_n 0, 1) := by decide +kernel
theorem zd_X_rename_1 : decode zb_X_rename 1 = .ok (.iload_n 1, 1) := by decide +kernel
theorem zd_X_rename_2 : decode zb_X_rename 2 = .ok (.invokevirtual 42, 3) := by decide +kernel
theorem zd_X_rename_5 : decode zb_X_rename 5 = .ok (.ifCond .eq 11, 3) := by decide +kernel
theorem zd_X_rename_8 : decode zb_X_rename 8 = .ok (.aload_n 0, 1) := by decide +kernel
theorem zd_X_rename_9 : decode zb_X_rename 9 = .ok (.iload_n 2, 1) := by decide +kernel
theorem zd_X_rename_10 : decode zb_X_rename 10 = .ok (.invokevirtual 23, 3) := by decide +kernel
theorem zd_X_rename_13 : decode zb_X_rename 13 = .ok (.ifCond .ne 5, 3) := by decide +kernel
theorem zd_X_rename_16 : decode zb_X_rename 16 = .ok (.iconst 0, 1) := by decide +kernel
theorem zd_X_rename_17 : decode zb_X_rename 17 = .ok (.ireturn, 1) := by decide +kernel
theorem zd_X_rename_18 : decode zb_X_rename 18 = .ok (.aload_n 0, 1) := by decide +kernel
theorem zd_X_rename_19 : decode zb_X_rename 19 = .ok (.getfield 10, 3) := by decide +kernel
theorem zd_X_rename_22 : decode zb_X_rename 22 = .ok (.getfield 60, 3) := by decide +kernel
theorem zd_X_rename_25 : decode zb_X_rename 25 = .ok (.iload_n 1, 1) := by decide +kernel
theorem zd_X_rename_26 : decode zb_X_rename 26 = .ok (.iload_n 2, 1) := by decide +kernel
theorem zd_X_rename_27 : decode zb_X_rename 27 = .ok (.iastore, 1) := by decide +kernel
theorem zd_X_rename_28 : decode zb_X_rename 28 = .ok (.iconst 1, 1) := by decide +kernel
theorem zd_X_rename_29 : decode zb_X_rename 29 = .ok (.ireturn, 1) := by decide +kernel
theorem zd_X_sync_0 : decode zb_X_sync 0 = .ok (.aload_n 0, 1) := by decide +kernel
theorem zd_X_sync_1 : decode zb_X_sync 1 = .ok (.getfield 19, 3) := by decide +kernel
theorem zd_X_sync_4 : decode zb_X_sync 4 = .ok (.ifCond .ne 5, 3) := by decide +kernel
theorem zd_X_sync_7 : decode zb_X_sync 7 = .ok (.iconst 0, 1) := by decide +kernel
theorem zd_X_sync_8 : decode zb_X_sync 8 = .ok (.ireturn, 1) := by decide +kernel
theorem zd_X_sync_9 : decode zb_X_sync 9 = .ok (.aload_n 0, 1) := by decide +kernel
theorem zd_X_sync_10 : decode zb_X_sync 10 = .ok (.getfield 16, 3) := by decide +kernel
theorem zd_X_sync_13 : decode zb_X_sync 13 = .ok (.aload_n 0, 1) := by decide +kernel
theorem zd_X_sync_14 : decode zb_X_sync 14 = .ok (.getfield 10, 3) := by decide +kernel
theorem zd_X_sync_17 : decode zb_X_sync 17 = .ok (.invokevirtual 64, 3) := by decide +kernel
theorem zd_X_sync_20 : decode zb_X_sync 20 = .ok (.iconst 1, 1) := by decide +kernel
theorem zd_X_sync_21 : decode zb_X_sync 21 = .ok (.ireturn, 1) := by decide +kernel
theorem zd_X_tear_0 : decode zb_X_tear 0 = .ok (.aload_n 0, 1) := by decide +kernel
theorem zd_X_tear_1 : decode zb_X_tear 1 = .ok (.invokevirtual 68, 3) := by decide +kernel
theorem zd_X_tear_4 : decode zb_X_tear 4 = .ok (.ireturn, 1) := by decide +kernel
theorem zd_X_cut_0 : decode zb_X_cut 0 = .ok (.aload_n 0, 1) := by decide +kernel
theorem zd_X_cut_1 : decode zb_X_cut 1 = .ok (.getfield 19, 3) := by decide +kernel
theorem zd_X_cut_4 : decode zb_X_cut 4 = .ok (.ifCond .ne 5, 3) := by decide +kernel
theorem zd_X_cut_7 : decode zb_X_cut 7 = .ok (.iconst 0, 1) := by decide +kernel
theorem zd_X_cut_8 : decode zb_X_cut 8 = .ok (.ireturn, 1) := by decide +kernel
theorem zd_X_cut_9 : decode zb_X_cut 9 = .ok (.aload_n 0, 1) := by decide +kernel
theorem zd_X_cut_10 : decode zb_X_cut 10 = .ok (.iconst 0, 1) := by decide +kernel
theorem zd_X_cut_11 : decode zb_X_cut 11 = .ok (.putfield 19, 3) := by decide +kernel
theorem zd_X_cut_14 : decode zb_X_cut 14 = .ok (.iconst 1, 1) := by decide +kernel
theorem zd_X_cut_15 : decode zb_X_cut 15 = .ok (.ireturn, 1) := by decide +kernel
theorem zd_X_mount_0 : decode zb_X_mount 0 = .ok (.aload_n 0, 1) := by decide +kernel
theorem zd_X_mount_1 : decode zb_X_mount 1 = .ok (.getfield 19, 3) := by decide +kernel
theorem zd_X_mount_4 : decode zb_X_mount 4 = .ok (.ifCond .eq 5, 3) := by decide +kernel
theorem zd_X_mount_7 : decode zb_X_mount 7 = .ok (.iconst 0, 1) := by decide +kernel
theorem zd_X_mount_8 : decode zb_X_mount 8 = .ok (.ireturn, 1) := by decide +kernel
theorem zd_X_mount_9 : decode zb_X_mount 9 = .ok (.aload_n 0, 1) := by decide +kernel
theorem zd_X_mount_10 : decode zb_X_mount 10 = .ok (.getfield 10, 3) := by decide +kernel
theorem zd_X_mount_13 : decode zb_X_mount 13 = .ok (.aload_n 0, 1) := by decide +kernel
theorem zd_X_mount_14 : decode zb_X_mount 14 = .ok (.getfield 16, 3) := by decide +kernel
theorem zd_X_mount_17 : decode zb_X_mount 17 = .ok (.invokevirtual 64, 3) := by decide +kernel
theorem zd_X_mount_20 : decode zb_X_mount 20 = .ok (.aload_n 0, 1) := by decide +kernel
theorem zd_X_mount_21 : decode zb_X_mount 21 = .ok (.iconst 1, 1) := by decide +kernel
theorem zd_X_mount_22 : decode zb_X_mount 22 = .ok (.putfield 19, 3) := by decide +kernel
theorem zd_X_mount_25 : decode zb_X_mount 25 = .ok (.iconst 1, 1) := by decide +kernel
theorem zd_X_mount_26 : decode zb_X_mount 26 = .ok (.ireturn, 1) := by decide +kernel
theorem zd_X_tidy_0 : decode zb_X_tidy 0 = .ok (.aload_n 0, 1) := by decide +kernel
theorem zd_X_tidy_1 : decode zb_X_tidy 1 = .ok (.getfield 19, 3) := by decide +kernel
theorem zd_X_tidy_4 : decode zb_X_tidy 4 = .ok (.ireturn, 1) := by decide +kernel
theorem zd_X_isUp_0 : decode zb_X_isUp 0 = .ok (.aload_n 0, 1) := by decide +kernel
theorem zd_X_isUp_1 : decode zb_X_isUp 1 = .ok (.getfield 19, 3) := by decide +kernel
theorem zd_X_isUp_4 : decode zb_X_isUp 4 = .ok (.ireturn, 1) := by decide +kernel
theorem zd_X_objects_0 : decode zb_X_objects 0 = .ok (.aload_n 0, 1) := by decide +kernel
theorem zd_X_objects_1 : decode zb_X_objects 1 = .ok (.getfield 19, 3) := by decide +kernel
theorem zd_X_objects_4 : decode zb_X_objects 4 = .ok (.ifCond .eq 13, 3) := by decide +kernel
theorem zd_X_objects_7 : decode zb_X_objects 7 = .ok (.aload_n 0, 1) := by decide +kernel
theorem zd_X_objects_8 : decode zb_X_objects 8 = .ok (.getfield 10, 3) := by decide +kernel
theorem zd_X_objects_11 : decode zb_X_objects 11 = .ok (.invokevirtual 72, 3) := by decide +kernel
theorem zd_X_objects_14 : decode zb_X_objects 14 = .ok (.goto 4, 3) := by decide +kernel
theorem zd_X_objects_17 : decode zb_X_objects 17 = .ok (.iconst 0, 1) := by decide +kernel
theorem zd_X_objects_18 : decode zb_X_objects 18 = .ok (.ireturn, 1) := by decide +kernel
theorem zd_X_room_0 : decode zb_X_room 0 = .ok (.aload_n 0, 1) := by decide +kernel
theorem zd_X_room_1 : decode zb_X_room 1 = .ok (.getfield 19, 3) := by decide +kernel
theorem zd_X_room_4 : decode zb_X_room 4 = .ok (.ifCond .eq 17, 3) := by decide +kernel
theorem zd_X_room_7 : decode zb_X_room 7 = .ok (.sipush 200, 3) := by decide +kernel
theorem zd_X_room_10 : decode zb_X_room 10 = .ok (.aload_n 0, 1) := by decide +kernel
theorem zd_X_room_11 : decode zb_X_room 11 = .ok (.getfield 10, 3) := by decide +kernel
theorem zd_X_room_14 : decode zb_X_room 14 = .ok (.invokevirtual 75, 3) := by decide +kernel
theorem zd_X_room_17 : decode zb_X_room 17 = .ok (.isub, 1) := by decide +kernel
theorem zd_X_room_18 : decode zb_X_room 18 = .ok (.goto 4, 3) := by decide +kernel
theorem zd_X_room_21 : decode zb_X_room 21 = .ok (.iconst 0, 1) := by decide +kernel
theorem zd_X_room_22 : decode zb_X_room 22 = .ok (.ireturn, 1) := by decide +kernel
theorem zd_X_object_0 : decode zb_X_object 0 = .ok (.aload_n 0, 1) := by decide +kernel
theorem zd_X_object_1 : decode zb_X_object 1 = .ok (.iload_n 1, 1) := by decide +kernel
theorem zd_X_object_2 : decode zb_X_object 2 = .ok (.invokevirtual 42, 3) := by decide +kernel
theorem zd_X_object_5 : decode zb_X_object 5 = .ok (.ifCond .ne 5, 3) := by decide +kernel
theorem zd_X_object_8 : decode zb_X_object 8 = .ok (.iconst (-1), 1) := by decide +kernel
theorem zd_X_object_9 : decode zb_X_object 9 = .ok (.ireturn, 1) := by decide +kernel
theorem zd_X_object_10 : decode zb_X_object 10 = .ok (.iload_n 2, 1) := by decide +kernel
theorem zd_X_object_11 : decode zb_X_object 11 = .ok (.tableswitch 77 0 3 #[29, 39, 49, 59], 29) := by decide +kernel
theorem zd_X_object_40 : decode zb_X_object 40 = .ok (.aload_n 0, 1) := by decide +kernel
theorem zd_X_object_41 : decode zb_X_object 41 = .ok (.getfield 10, 3) := by decide +kernel
theorem zd_X_object_44 : decode zb_X_object 44 = .ok (.getfield 60, 3) := by decide +kernel
theorem zd_X_object_47 : decode zb_X_object 47 = .ok (.iload_n 1, 1) := by decide +kernel
theorem zd_X_object_48 : decode zb_X_object 48 = .ok (.iaload, 1) := by decide +kernel
theorem zd_X_object_49 : decode zb_X_object 49 = .ok (.ireturn, 1) := by decide +kernel
theorem zd_X_object_50 : decode zb_X_object 50 = .ok (.aload_n 0, 1) := by decide +kernel
theorem zd_X_object_51 : decode zb_X_object 51 = .ok (.getfield 10, 3) := by decide +kernel
theorem zd_X_object_54 : decode zb_X_object 54 = .ok (.getfield 78, 3) := by decide +kernel
theorem zd_X_object_57 : decode zb_X_object 57 = .ok (.iload_n 1, 1) := by decide +kernel
theorem zd_X_object_58 : decode zb_X_object 58 = .ok (.iaload, 1) := by decide +kernel
theorem zd_X_object_59 : decode zb_X_object 59 = .ok (.ireturn, 1) := by decide +kernel
theorem zd_X_object_60 : decode zb_X_object 60 = .ok (.aload_n 0, 1) := by decide +kernel
theorem zd_X_object_61 : decode zb_X_object 61 = .ok (.getfield 10, 3) := by decide +kernel
theorem zd_X_object_64 : decode zb_X_object 64 = .ok (.getfield 81, 3) := by decide +kernel
theorem zd_X_object_67 : decode zb_X_object 67 = .ok (.iload_n 1, 1) := by decide +kernel
theorem zd_X_object_68 : decode zb_X_object 68 = .ok (.iaload, 1) := by decide +kernel
theorem zd_X_object_69 : decode zb_X_object 69 = .ok (.ireturn, 1) := by decide +kernel
theorem zd_X_object_70 : decode zb_X_object 70 = .ok (.aload_n 0, 1) := by decide +kernel
theorem zd_X_object_71 : decode zb_X_object 71 = .ok (.getfield 10, 3) := by decide +kernel
theorem zd_X_object_74 : decode zb_X_object 74 = .ok (.getfield 45, 3) := by decide +kernel
theorem zd_X_object_77 : decode zb_X_object 77 = .ok (.iload_n 1, 1) := by decide +kernel
theorem zd_X_object_78 : decode zb_X_object 78 = .ok (.baload, 1) := by decide +kernel
theorem zd_X_object_79 : decode zb_X_object 79 = .ok (.ifCond .eq 7, 3) := by decide +kernel
theorem zd_X_object_82 : decode zb_X_object 82 = .ok (.iconst 1, 1) := by decide +kernel
theorem zd_X_object_83 : decode zb_X_object 83 = .ok (.goto 4, 3) := by decide +kernel
theorem zd_X_object_86 : decode zb_X_object 86 = .ok (.iconst 0, 1) := by decide +kernel
theorem zd_X_object_87 : decode zb_X_object 87 = .ok (.ireturn, 1) := by decide +kernel
theorem zd_X_object_88 : decode zb_X_object 88 = .ok (.iconst (-1), 1) := by decide +kernel
theorem zd_X_object_89 : decode zb_X_object 89 = .ok (.ireturn, 1) := by decide +kernel
theorem zd_X_word_0 : decode zb_X_word 0 = .ok (.aload_n 0, 1) := by decide +kernel
theorem zd_X_word_1 : decode zb_X_word 1 = .ok (.iload_n 1, 1) := by decide +kernel
theorem zd_X_word_2 : decode zb_X_word 2 = .ok (.invokevirtual 42, 3) := by decide +kernel
theorem zd_X_word_5 : decode zb_X_word 5 = .ok (.ifCond .eq 20, 3) := by decide +kernel
theorem zd_X_word_8 : decode zb_X_word 8 = .ok (.iload_n 2, 1) := by decide +kernel
theorem zd_X_word_9 : decode zb_X_word 9 = .ok (.ifCond .lt 16, 3) := by decide +kernel
theorem zd_X_word_12 : decode zb_X_word 12 = .ok (.iload_n 2, 1) := by decide +kernel
theorem zd_X_word_13 : decode zb_X_word 13 = .ok (.aload_n 0, 1) := by decide +kernel
theorem zd_X_word_14 : decode zb_X_word 14 = .ok (.getfield 10, 3) := by decide +kernel
theorem zd_X_word_17 : decode zb_X_word 17 = .ok (.getfield 81, 3) := by decide +kernel
theorem zd_X_word_20 : decode zb_X_word 20 = .ok (.iload_n 1, 1) := by decide +kernel
theorem zd_X_word_21 : decode zb_X_word 21 = .ok (.iaload, 1) := by decide +kernel
theorem zd_X_word_22 : decode zb_X_word 22 = .ok (.if_icmp .lt 5, 3) := by decide +kernel
theorem zd_X_word_25 : decode zb_X_word 25 = .ok (.iconst 0, 1) := by decide +kernel
theorem zd_X_word_26 : decode zb_X_word 26 = .ok (.ireturn, 1) := by decide +kernel
theorem zd_X_word_27 : decode zb_X_word 27 = .ok (.aload_n 0, 1) := by decide +kernel
theorem zd_X_word_28 : decode zb_X_word 28 = .ok (.getfield 10, 3) := by decide +kernel
theorem zd_X_word_31 : decode zb_X_word 31 = .ok (.getfield 84, 3) := by decide +kernel
theorem zd_X_word_34 : decode zb_X_word 34 = .ok (.iload_n 1, 1) := by decide +kernel
theorem zd_X_word_35 : decode zb_X_word 35 = .ok (.bipush 64, 2) := by decide +kernel
theorem zd_X_word_37 : decode zb_X_word 37 = .ok (.imul, 1) := by decide +kernel
theorem zd_X_word_38 : decode zb_X_word 38 = .ok (.iload_n 2, 1) := by decide +kernel
theorem zd_X_word_39 : decode zb_X_word 39 = .ok (.iadd, 1) := by decide +kernel
theorem zd_X_word_40 : decode zb_X_word 40 = .ok (.iaload, 1) := by decide +kernel
theorem zd_X_word_41 : decode zb_X_word 41 = .ok (.ireturn, 1) := by decide +kernel
theorem zd_X_find_0 : decode zb_X_find 0 = .ok (.aload_n 0, 1) := by decide +kernel
theorem zd_X_find_1 : decode zb_X_find 1 = .ok (.getfield 19, 3) := by decide +kernel
theorem zd_X_find_4 : decode zb_X_find 4 = .ok (.ifCond .eq 21, 3) := by decide +kernel
theorem zd_X_find_7 : decode zb_X_find 7 = .ok (.iload_n 1, 1) := by decide +kernel
theorem zd_X_find_8 : decode zb_X_find 8 = .ok (.invokestatic 87, 3) := by decide +kernel
theorem zd_X_find_11 : decode zb_X_find 11 = .ok (.ifCond .eq 14, 3) := by decide +kernel
theorem zd_X_find_14 : decode zb_X_find 14 = .ok (.aload_n 0, 1) := by decide +kernel
theorem zd_X_find_15 : decode zb_X_find 15 = .ok (.getfield 10, 3) := by decide +kernel
theorem zd_X_find_18 : decode zb_X_find 18 = .ok (.iload_n 1, 1) := by decide +kernel
theorem zd_X_find_19 : decode zb_X_find 19 = .ok (.invokevirtual 90, 3) := by decide +kernel
theorem zd_X_find_22 : decode zb_X_find 22 = .ok (.goto 4, 3) := by decide +kernel
theorem zd_X_find_25 : decode zb_X_find 25 = .ok (.iconst (-1), 1) := by decide +kernel
theorem zd_X_find_26 : decode zb_X_find 26 = .ok (.ireturn, 1) := by decide +kernel
theorem zd_X_list_0 : decode zb_X_list 0 = .ok (.aload_n 0, 1) := by decide +kernel
theorem zd_X_list_1 : decode zb_X_list 1 = .ok (.getfield 19, 3) := by decide +kernel
theorem zd_X_list_4 : decode zb_X_list 4 = .ok (.ifCond .eq 14, 3) := by decide +kernel
theorem zd_X_list_7 : decode zb_X_list 7 = .ok (.aload_n 0, 1) := by decide +kernel
theorem zd_X_list_8 : decode zb_X_list 8 = .ok (.getfield 10, 3) := by decide +kernel
theorem zd_X_list_11 : decode zb_X_list 11 = .ok (.iload_n 1, 1) := by decide +kernel
theorem zd_X_list_12 : decode zb_X_list 12 = .ok (.invokevirtual 93, 3) := by decide +kernel
theorem zd_X_list_15 : decode zb_X_list 15 = .ok (.goto 4, 3) := by decide +kernel
theorem zd_X_list_18 : decode zb_X_list 18 = .ok (.iconst (-1), 1) := by decide +kernel
theorem zd_X_list_19 : decode zb_X_list 19 = .ok (.ireturn, 1) := by decide +kernel
theorem zd_X_isThere_0 : decode zb_X_isThere 0 = .ok (.aload_n 0, 1) := by decide +kernel
theorem zd_X_isThere_1 : decode zb_X_isThere 1 = .ok (.getfield 19, 3) := by decide +kernel
theorem zd_X_isThere_4 : decode zb_X_isThere 4 = .ok (.ifCond .eq 28, 3) := by decide +kernel
theorem zd_X_isThere_7 : decode zb_X_isThere 7 = .ok (.iload_n 1, 1) := by decide +kernel
theorem zd_X_isThere_8 : decode zb_X_isThere 8 = .ok (.ifCond .lt 24, 3) := by decide +kernel
theorem zd_X_isThere_11 : decode zb_X_isThere 11 = .ok (.iload_n 1, 1) := by decide +kernel
theorem zd_X_isThere_12 : decode zb_X_isThere 12 = .ok (.bipush 24, 2) := by decide +kernel
theorem zd_X_isThere_14 : decode zb_X_isThere 14 = .ok (.if_icmp .ge 18, 3) := by decide +kernel
theorem zd_X_isThere_17 : decode zb_X_isThere 17 = .ok (.aload_n 0, 1) := by decide +kernel
theorem zd_X_isThere_18 : decode zb_X_isThere 18 = .ok (.getfield 10, 3) := by decide +kernel
theorem zd_X_isThere_21 : decode zb_X_isThere 21 = .ok (.iload_n 1, 1) := by decide +kernel
theorem zd_X_isThere_22 : decode zb_X_isThere 22 = .ok (.invokevirtual 96, 3) := by decide +kernel
theorem zd_X_isThere_25 : decode zb_X_isThere 25 = .ok (.ifCond .eq 7, 3) := by decide +kernel
theorem zd_X_isThere_28 : decode zb_X_isThere 28 = .ok (.iconst 1, 1) := by decide +kernel
theorem zd_X_isThere_29 : decode zb_X_isThere 29 = .ok (.goto 4, 3) := by decide +kernel
theorem zd_X_isThere_32 : decode zb_X_isThere 32 = .ok (.iconst 0, 1) := by decide +kernel
theorem zd_X_isThere_33 : decode zb_X_isThere 33 = .ok (.ireturn, 1) := by decide +kernel
theorem zd_X_isFreeName_0 : decode zb_X_isFreeName 0 = .ok (.iload_n 1, 1) := by decide +kernel
theorem zd_X_isFreeName_1 : decode zb_X_isFreeName 1 = .ok (.invokestatic 87, 3) := by decide +kernel
theorem zd_X_isFreeName_4 : decode zb_X_isFreeName 4 = .ok (.ifCond .eq 19, 3) := by decide +kernel
theorem zd_X_isFreeName_7 : decode zb_X_isFreeName 7 = .ok (.aload_n 0, 1) := by decide +kernel
theorem zd_X_isFreeName_8 : decode zb_X_isFreeName 8 = .ok (.getfield 10, 3) := by decide +kernel
theorem zd_X_isFreeName_11 : decode zb_X_isFreeName 11 = .ok (.iload_n 1, 1) := by decide +kernel
theorem zd_X_isFreeName_12 : decode zb_X_isFreeName 12 = .ok (.invokevirtual 90, 3) := by decide +kernel
theorem zd_X_isFreeName_15 : decode zb_X_isFreeName 15 = .ok (.iconst (-1), 1) := by decide +kernel
theorem zd_X_isFreeName_16 : decode zb_X_isFreeName 16 = .ok (.if_icmp .ne 7, 3) := by decide +kernel
theorem zd_X_isFreeName_19 : decode zb_X_isFreeName 19 = .ok (.iconst 1, 1) := by decide +kernel
theorem zd_X_isFreeName_20 : decode zb_X_isFreeName 20 = .ok (.goto 4, 3) := by decide +kernel
theorem zd_X_isFreeName_23 : decode zb_X_isFreeName 23 = .ok (.iconst 0, 1) := by decide +kernel
theorem zd_X_isFreeName_24 : decode zb_X_isFreeName 24 = .ok (.ireturn, 1) := by decide +kernel
theorem zd_X_roomIn_0 : decode zb_X_roomIn 0 = .ok (.bipush 64, 2) := by decide +kernel
theorem zd_X_roomIn_2 : decode zb_X_roomIn 2 = .ok (.aload_n 0, 1) := by decide +kernel
theorem zd_X_roomIn_3 : decode zb_X_roomIn 3 = .ok (.getfield 10, 3) := by decide +kernel
theorem zd_X_roomIn_6 : decode zb_X_roomIn 6 = .ok (.getfield 81, 3) := by decide +kernel
theorem zd_X_roomIn_9 : decode zb_X_roomIn 9 = .ok (.iload_n 1, 1) := by decide +kernel
theorem zd_X_roomIn_10 : decode zb_X_roomIn 10 = .ok (.iaload, 1) := by decide +kernel
theorem zd_X_roomIn_11 : decode zb_X_roomIn 11 = .ok (.isub, 1) := by decide +kernel
theorem zd_X_roomIn_12 : decode zb_X_roomIn 12 = .ok (.sipush 200, 3) := by decide +kernel
theorem zd_X_roomIn_15 : decode zb_X_roomIn 15 = .ok (.aload_n 0, 1) := by decide +kernel
theorem zd_X_roomIn_16 : decode zb_X_roomIn 16 = .ok (.getfield 10, 3) := by decide +kernel
theorem zd_X_roomIn_19 : decode zb_X_roomIn 19 = .ok (.invokevirtual 75, 3) := by decide +kernel
theorem zd_X_roomIn_22 : decode zb_X_roomIn 22 = .ok (.isub, 1) := by decide +kernel
theorem zd_X_roomIn_23 : decode zb_X_roomIn 23 = .ok (.invokestatic 99, 3) := by decide +kernel
theorem zd_X_roomIn_26 : decode zb_X_roomIn 26 = .ok (.ireturn, 1) := by decide +kernel
theorem zd_X_isName_0 : decode zb_X_isName 0 = .ok (.iload_n 0, 1) := by decide +kernel
theorem zd_X_isName_1 : decode zb_X_isName 1 = .ok (.ifCond .lt 14, 3) := by decide +kernel
theorem zd_X_isName_4 : decode zb_X_isName 4 = .ok (.iload_n 0, 1) := by decide +kernel
theorem zd_X_isName_5 : decode zb_X_isName 5 = .ok (.sipush 9999, 3) := by decide +kernel
theorem zd_X_isName_8 : decode zb_X_isName 8 = .ok (.if_icmp .gt 7, 3) := by decide +kernel
theorem zd_X_isName_11 : decode zb_X_isName 11 = .ok (.iconst 1, 1) := by decide +kernel
theorem zd_X_isName_12 : decode zb_X_isName 12 = .ok (.goto 4, 3) := by decide +kernel
theorem zd_X_isName_15 : decode zb_X_isName 15 = .ok (.iconst 0, 1) := by decide +kernel
theorem zd_X_isName_16 : decode zb_X_isName 16 = .ok (.ireturn, 1) := by decide +kernel
theorem zd_X_isHint_0 : decode zb_X_isHint 0 = .ok (.iload_n 0, 1) := by decide +kernel
theorem zd_X_isHint_1 : decode zb_X_isHint 1 = .ok (.ifCond .lt 12, 3) := by decide +kernel
theorem zd_X_isHint_4 : decode zb_X_isHint 4 = .ok (.iload_n 0, 1) := by decide +kernel
theorem zd_X_isHint_5 : decode zb_X_isHint 5 = .ok (.iconst 3, 1) := by decide +kernel
theorem zd_X_isHint_6 : decode zb_X_isHint 6 = .ok (.if_icmp .gt 7, 3) := by decide +kernel
theorem zd_X_isHint_9 : decode zb_X_isHint 9 = .ok (.iconst 1, 1) := by decide +kernel
theorem zd_X_isHint_10 : decode zb_X_isHint 10 = .ok (.goto 4, 3) := by decide +kernel
theorem zd_X_isHint_13 : decode zb_X_isHint 13 = .ok (.iconst 0, 1) := by decide +kernel
theorem zd_X_isHint_14 : decode zb_X_isHint 14 = .ok (.ireturn, 1) := by decide +kernel
theorem zd_C_init_0 : decode zb_C_init 0 = .ok (.aload_n 0, 1) := by decide +kernel
theorem zd_C_init_1 : decode zb_C_init 1 = .ok (.invokespecial 3, 3) := by decide +kernel
theorem zd_C_init_4 : decode zb_C_init 4 = .ok (.aload_n 0, 1) := by decide +kernel
theorem zd_C_init_5 : decode zb_C_init 5 = .ok (.bipush 24, 2) := by decide +kernel
theorem zd_C_init_7 : decode zb_C_init 7 = .ok (.newarray .int, 2) := by decide +kernel
theorem zd_C_init_9 : decode zb_C_init 9 = .ok (.putfield 9, 3) := by decide +kernel
theorem zd_C_init_12 : decode zb_C_init 12 = .ok (.aload_n 0, 1) := by decide +kernel
theorem zd_C_init_13 : decode zb_C_init 13 = .ok (.bipush 24, 2) := by decide +kernel
theorem zd_C_init_15 : decode zb_C_init 15 = .ok (.newarray .int, 2) := by decide +kernel
theorem zd_C_init_17 : decode zb_C_init 17 = .ok (.putfield 15, 3) := by decide +kernel
theorem zd_C_init_20 : decode zb_C_init 20 = .ok (.aload_n 0, 1) := by decide +kernel
theorem zd_C_init_21 : decode zb_C_init 21 = .ok (.bipush 24, 2) := by decide +kernel
theorem zd_C_init_23 : decode zb_C_init 23 = .ok (.newarray .int, 2) := by decide +kernel
theorem zd_C_init_25 : decode zb_C_init 25 = .ok (.putfield 18, 3) := by decide +kernel
theorem zd_C_init_28 : decode zb_C_init 28 = .ok (.aload_n 0, 1) := by decide +kernel
theorem zd_C_init_29 : decode zb_C_init 29 = .ok (.bipush 24, 2) := by decide +kernel
theorem zd_C_init_31 : decode zb_C_init 31 = .ok (.newarray .boolean, 2) := by decide +kernel
theorem zd_C_init_33 : decode zb_C_init 33 = .ok (.putfield 21, 3) := by decide +kernel
theorem zd_C_init_36 : decode zb_C_init 36 = .ok (.aload_n 0, 1) := by decide +kernel
theorem zd_C_init_37 : decode zb_C_init 37 = .ok (.sipush 1536, 3) := by decide +kernel
theorem zd_C_init_40 : decode zb_C_init 40 = .ok (.newarray .int, 2) := by decide +kernel
theorem zd_C_init_42 : decode zb_C_init 42 = .ok (.putfield 25, 3) := by decide +kernel
theorem zd_C_init_45 : decode zb_C_init 45 = .ok (.aload_n 0, 1) := by decide +kernel
theorem zd_C_init_46 : decode zb_C_init 46 = .ok (.getfield 9, 3) := by decide +kernel
theorem zd_C_init_49 : decode zb_C_init 49 = .ok (.iconst (-1), 1) := by decide +kernel
theorem zd_C_init_50 : decode zb_C_init 50 = .ok (.invokestatic 28, 3) := by decide +kernel
theorem zd_C_init_53 : decode zb_C_init 53 = .ok (.return_, 1) := by decide +kernel
theorem zd_C_isTaken_0 : decode zb_C_isTaken 0 = .ok (.aload_n 0, 1) := by decide +kernel
theorem zd_C_isTaken_1 : decode zb_C_isTaken 1 = .ok (.getfield 9, 3) := by decide +kernel
theorem zd_C_isTaken_4 : decode zb_C_isTaken 4 = .ok (.iload_n 1, 1) := by decide +kernel
theorem zd_C_isTaken_5 : decode zb_C_isTaken 5 = .ok (.iaload, 1) := by decide +kernel
theorem zd_C_isTaken_6 : decode zb_C_isTaken 6 = .ok (.iconst (-1), 1) := by decide +kernel
theorem zd_C_isTaken_7 : decode zb_C_isTaken 7 = .ok (.if_icmp .eq 7, 3) := by decide +kernel
theorem zd_C_isTaken_10 : decode zb_C_isTaken 10 = .ok (.iconst 1, 1) := by decide +kernel
theorem zd_C_isTaken_11 : decode zb_C_isTaken 11 = .ok (.goto 4, 3) := by decide +kernel
theorem zd_C_isTaken_14 : decode zb_C_isTaken 14 = .ok (.iconst 0, 1) := by decide +kernel
theorem zd_C_isTaken_15 : decode zb_C_isTaken 15 = .ok (.ireturn, 1) := by decide +kernel
theorem zd_C_leastFreeNumber_0 : decode zb_C_leastFreeNumber 0 = .ok (.iconst 0, 1) := by decide +kernel
theorem zd_C_leastFreeNumber_1 : decode zb_C_leastFreeNumber 1 = .ok (.istore_n 1, 1) := by decide +kernel
theorem zd_C_leastFreeNumber_2 : decode zb_C_leastFreeNumber 2 = .ok (.iload_n 1, 1) := by decide +kernel
theorem zd_C_leastFreeNumber_3 : decode zb_C_leastFreeNumber 3 = .ok (.bipush 24, 2) := by decide +kernel
theorem zd_C_leastFreeNumber_5 : decode zb_C_leastFreeNumber 5 = .ok (.if_icmp .ge 19, 3) := by decide +kernel
theorem zd_C_leastFreeNumber_8 : decode zb_C_leastFreeNumber 8 = .ok (.aload_n 0, 1) := by decide +kernel
theorem zd_C_leastFreeNumber_9 : decode zb_C_leastFreeNumber 9 = .ok (.iload_n 1, 1) := by decide +kernel
theorem zd_C_leastFreeNumber_10 : decode zb_C_leastFreeNumber 10 = .ok (.invokevirtual 34, 3) := by decide +kernel
theorem zd_C_leastFreeNumber_13 : decode zb_C_leastFreeNumber 13 = .ok (.ifCond .ne 5, 3) := by decide +kernel
theorem zd_C_leastFreeNumber_16 : decode zb_C_leastFreeNumber 16 = .ok (.iload_n 1, 1) := by decide +kernel
theorem zd_C_leastFreeNumber_17 : decode zb_C_leastFreeNumber 17 = .ok (.ireturn, 1) := by decide +kernel
theorem zd_C_leastFreeNumber_18 : decode zb_C_leastFreeNumber 18 = .ok (.iinc 1 1, 3) := by decide +kernel
theorem zd_C_leastFreeNumber_21 : decode zb_C_leastFreeNumber 21 = .ok (.goto (-19), 3) := by decide +kernel
theorem zd_C_leastFreeNumber_24 : decode zb_C_leastFreeNumber 24 = .ok (.iconst (-1), 1) := by decide +kernel
theorem zd_C_leastFreeNumber_25 : decode zb_C_leastFreeNumber 25 = .ok (.ireturn, 1) := by decide +kernel
theorem zd_C_numberOf_0 : decode zb_C_numberOf 0 = .ok (.iconst 0, 1) := by decide +kernel
theorem zd_C_numberOf_1 : decode zb_C_numberOf 1 = .ok (.istore_n 2, 1) := by decide +kernel
theorem zd_C_numberOf_2 : decode zb_C_numberOf 2 = .ok (.iload_n 2, 1) := by decide +kernel
theorem zd_C_numberOf_3 : decode zb_C_numberOf 3 = .ok (.bipush 24, 2) := by decide +kernel
theorem zd_C_numberOf_5 : decode zb_C_numberOf 5 = .ok (.if_icmp .ge 21, 3) := by decide +kernel
theorem zd_C_numberOf_8 : decode zb_C_numberOf 8 = .ok (.aload_n 0, 1) := by decide +kernel
theorem zd_C_numberOf_9 : decode zb_C_numberOf 9 = .ok (.getfield 9, 3) := by decide +kernel
theorem zd_C_numberOf_12 : decode zb_C_numberOf 12 = .ok (.iload_n 2, 1) := by decide +kernel
theorem zd_C_numberOf_13 : decode zb_C_numberOf 13 = .ok (.iaload, 1) := by decide +kernel
theorem zd_C_numberOf_14 : decode zb_C_numberOf 14 = .ok (.iload_n 1, 1) := by decide +kernel
theorem zd_C_numberOf_15 : decode zb_C_numberOf 15 = .ok (.if_icmp .ne 5, 3) := by decide +kernel
theorem zd_C_numberOf_18 : decode zb_C_numberOf 18 = .ok (.iload_n 2, 1) := by decide +kernel
theorem zd_C_numberOf_19 : decode zb_C_numberOf 19 = .ok (.ireturn, 1) := by decide +kernel
theorem zd_C_numberOf_20 : decode zb_C_numberOf 20 = .ok (.iinc 2 1, 3) := by decide +kernel
theorem zd_C_numberOf_23 : decode zb_C_numberOf 23 = .ok (.goto (-21), 3) := by decide +kernel
theorem zd_C_numberOf_26 : decode zb_C_numberOf 26 = .ok (.iconst (-1), 1) := by decide +kernel
theorem zd_C_numberOf_27 : decode zb_C_numberOf 27 = .ok (.ireturn, 1) := by decide +kernel
theorem zd_C_numberAtRank_0 : decode zb_C_numberAtRank 0 = .ok (.iconst 0, 1) := by decide +kernel
theorem zd_C_numberAtRank_1 : decode zb_C_numberAtRank 1 = .ok (.istore_n 2, 1) := by decide +kernel
theorem zd_C_numberAtRank_2 : decode zb_C_numberAtRank 2 = .ok (.iload_n 2, 1) := by decide +kernel
theorem zd_C_numberAtRank_3 : decode zb_C_numberAtRank 3 = .ok (.bipush 24, 2) := by decide +kernel
theorem zd_C_numberAtRank_5 : decode zb_C_numberAtRank 5 = .ok (.if_icmp .ge 33, 3) := by decide +kernel
theorem zd_C_numberAtRank_8 : decode zb_C_numberAtRank 8 = .ok (.aload_n 0, 1) := by decide +kernel
theorem zd_C_numberAtRank_9 : decode zb_C_numberAtRank 9 = .ok (.iload_n 2, 1) := by decide +kernel
theorem zd_C_numberAtRank_10 : decode zb_C_numberAtRank 10 = .ok (.invokevirtual 34, 3) := by decide +kernel
theorem zd_C_numberAtRank_13 : decode zb_C_numberAtRank 13 = .ok (.ifCond .eq 19, 3) := by decide +kernel
theorem zd_C_numberAtRank_16 : decode zb_C_numberAtRank 16 = .ok (.aload_n 0, 1) := by decide +kernel
theorem zd_C_numberAtRank_17 : decode zb_C_numberAtRank 17 = .ok (.aload_n 0, 1) := by decide +kernel
theorem zd_C_numberAtRank_18 : decode zb_C_numberAtRank 18 = .ok (.getfield 9, 3) := by decide +kernel
theorem zd_C_numberAtRank_21 : decode zb_C_numberAtRank 21 = .ok (.iload_n 2, 1) := by decide +kernel
theorem zd_C_numberAtRank_22 : decode zb_C_numberAtRank 22 = .ok (.iaload, 1) := by decide +kernel
theorem zd_C_numberAtRank_23 : decode zb_C_numberAtRank 23 = .ok (.invokevirtual 38, 3) := by decide +kernel
theorem zd_C_numberAtRank_26 : decode zb_C_numberAtRank 26 = .ok (.iload_n 1, 1) := by decide +kernel
theorem zd_C_numberAtRank_27 : decode zb_C_numberAtRank 27 = .ok (.if_icmp .ne 5, 3) := by decide +kernel
theorem zd_C_numberAtRank_30 : decode zb_C_numberAtRank 30 = .ok (.iload_n 2, 1) := by decide +kernel
theorem zd_C_numberAtRank_31 : decode zb_C_numberAtRank 31 = .ok (.ireturn, 1) := by decide +kernel
theorem zd_C_numberAtRank_32 : decode zb_C_numberAtRank 32 = .ok (.iinc 2 1, 3) := by decide +kernel
theorem zd_C_numberAtRank_35 : decode zb_C_numberAtRank 35 = .ok (.goto (-33), 3) := by decide +kernel
theorem zd_C_numberAtRank_38 : decode zb_C_numberAtRank 38 = .ok (.iconst (-1), 1) := by decide +kernel
theorem zd_C_numberAtRank_39 : decode zb_C_numberAtRank 39 = .ok (.ireturn, 1) := by decide +kernel
theorem zd_C_countNamesBelow_0 : decode zb_C_countNamesBelow 0 = .ok (.iconst 0, 1) := by decide +kernel
theorem zd_C_countNamesBelow_1 : decode zb_C_countNamesBelow 1 = .ok (.istore_n 2, 1) := by decide +kernel
theorem zd_C_countNamesBelow_2 : decode zb_C_countNamesBelow 2 = .ok (.iconst 0, 1) := by decide +kernel
theorem zd_C_countNamesBelow_3 : decode zb_C_countNamesBelow 3 = .ok (.istore_n 3, 1) := by decide +kernel
theorem zd_C_countNamesBelow_4 : decode zb_C_countNamesBelow 4 = .ok (.iload_n 3, 1) := by decide +kernel
theorem zd_C_countNamesBelow_5 : decode zb_C_countNamesBelow 5 = .ok (.bipush 24, 2) := by decide +kernel
theorem zd_C_countNamesBelow_7 : decode zb_C_countNamesBelow 7 = .ok (.if_icmp .ge 30, 3) := by decide +kernel
theorem zd_C_countNamesBelow_10 : decode zb_C_countNamesBelow 10 = .ok (.aload_n 0, 1) := by decide +kernel
theorem zd_C_countNamesBelow_11 : decode zb_C_countNamesBelow 11 = .ok (.iload_n 3, 1) := by decide +kernel
theorem zd_C_countNamesBelow_12 : decode zb_C_countNamesBelow 12 = .ok (.invokevirtual 34, 3) := by decide +kernel
theorem zd_C_countNamesBelow_15 : decode zb_C_countNamesBelow 15 = .ok (.ifCond .eq 16, 3) := by decide +kernel
theorem zd_C_countNamesBelow_18 : decode zb_C_countNamesBelow 18 = .ok (.aload_n 0, 1) := by decide +kernel
theorem zd_C_countNamesBelow_19 : decode zb_C_countNamesBelow 19 = .ok (.getfield 9, 3) := by decide +kernel
theorem zd_C_countNamesBelow_22 : decode zb_C_countNamesBelow 22 = .ok (.iload_n 3, 1) := by decide +kernel
theorem zd_C_countNamesBelow_23 : decode zb_C_countNamesBelow 23 = .ok (.iaload, 1) := by decide +kernel
theorem zd_C_countNamesBelow_24 : decode zb_C_countNamesBelow 24 = .ok (.iload_n 1, 1) := by decide +kernel
theorem zd_C_countNamesBelow_25 : decode zb_C_countNamesBelow 25 = .ok (.if_icmp .ge 6, 3) := by decide +kernel
theorem zd_C_countNamesBelow_28 : decode zb_C_countNamesBelow 28 = .ok (.iinc 2 1, 3) := by decide +kernel
theorem zd_C_countNamesBelow_31 : decode zb_C_countNamesBelow 31 = .ok (.iinc 3 1, 3) := by decide +kernel
theorem zd_C_countNamesBelow_34 : decode zb_C_countNamesBelow 34 = .ok (.goto (-30), 3) := by decide +kernel
theorem zd_C_countNamesBelow_37 : decode zb_C_countNamesBelow 37 = .ok (.iload_n 2, 1) := by decide +kernel
theorem zd_C_countNamesBelow_38 : decode zb_C_countNamesBelow 38 = .ok (.ireturn, 1) := by decide +kernel
theorem zd_C_countObjects_0 : decode zb_C_countObjects 0 = .ok (.iconst 0, 1) := by decide +kernel
theorem zd_C_countObjects_1 : decode zb_C_countObjects 1 = .ok (.istore_n 1, 1) := by decide +kernel
theorem zd_C_countObjects_2 : decode zb_C_countObjects 2 = .ok (.iconst 0, 1) := by decide +kernel
theorem zd_C_countObjects_3 : decode zb_C_countObjects 3 = .ok (.istore_n 2, 1) := by decide +kernel
theorem zd_C_countObjects_4 : decode zb_C_countObjects 4 = .ok (.iload_n 2, 1) := by decide +kernel
theorem zd_C_countObjects_5 : decode zb_C_countObjects 5 = .ok (.bipush 24, 2) := by decide +kernel
theorem zd_C_countObjects_7 : decode zb_C_countObjects 7 = .ok (.if_icmp .ge 20, 3) := by decide +kernel
theorem zd_C_countObjects_10 : decode zb_C_countObjects 10 = .ok (.aload_n 0, 1) := by decide +kernel
theorem zd_C_countObjects_11 : decode zb_C_countObjects 11 = .ok (.iload_n 2, 1) := by decide +kernel
theorem zd_C_countObjects_12 : decode zb_C_countObjects 12 = .ok (.invokevirtual 34, 3) := by decide +kernel
theorem zd_C_countObjects_15 : decode zb_C_countObjects 15 = .ok (.ifCond .eq 6, 3) := by decide +kernel
theorem zd_C_countObjects_18 : decode zb_C_countObjects 18 = .ok (.iinc 1 1, 3) := by decide +kernel
theorem zd_C_countObjects_21 : decode zb_C_countObjects 21 = .ok (.iinc 2 1, 3) := by decide +kernel
theorem zd_C_countObjects_24 : decode zb_C_countObjects 24 = .ok (.goto (-20), 3) := by decide +kernel
theorem zd_C_countObjects_27 : decode zb_C_countObjects 27 = .ok (.iload_n 1, 1) := by decide +kernel
theorem zd_C_countObjects_28 : decode zb_C_countObjects 28 = .ok (.ireturn, 1) := by decide +kernel
theorem zd_C_countWords_0 : decode zb_C_countWords 0 = .ok (.iconst 0, 1) := by decide +kernel
theorem zd_C_countWords_1 : decode zb_C_countWords 1 = .ok (.istore_n 1, 1) := by decide +kernel
theorem zd_C_countWords_2 : decode zb_C_countWords 2 = .ok (.iconst 0, 1) := by decide +kernel
theorem zd_C_countWords_3 : decode zb_C_countWords 3 = .ok (.istore_n 2, 1) := by decide +kernel
theorem zd_C_countWords_4 : decode zb_C_countWords 4 = .ok (.iload_n 2, 1) := by decide +kernel
theorem zd_C_countWords_5 : decode zb_C_countWords 5 = .ok (.bipush 24, 2) := by decide +kernel
theorem zd_C_countWords_7 : decode zb_C_countWords 7 = .ok (.if_icmp .ge 18, 3) := by decide +kernel
theorem zd_C_countWords_10 : decode zb_C_countWords 10 = .ok (.iload_n 1, 1) := by decide +kernel
theorem zd_C_countWords_11 : decode zb_C_countWords 11 = .ok (.aload_n 0, 1) := by decide +kernel
theorem zd_C_countWords_12 : decode zb_C_countWords 12 = .ok (.getfield 18, 3) := by decide +kernel
theorem zd_C_countWords_15 : decode zb_C_countWords 15 = .ok (.iload_n 2, 1) := by decide +kernel
theorem zd_C_countWords_16 : decode zb_C_countWords 16 = .ok (.iaload, 1) := by decide +kernel
theorem zd_C_countWords_17 : decode zb_C_countWords 17 = .ok (.iadd, 1) := by decide +kernel
theorem zd_C_countWords_18 : decode zb_C_countWords 18 = .ok (.istore_n 1, 1) := by decide +kernel
theorem zd_C_countWords_19 : decode zb_C_countWords 19 = .ok (.iinc 2 1, 3) := by decide +kernel
theorem zd_C_countWords_22 : decode zb_C_countWords 22 = .ok (.goto (-18), 3) := by decide +kernel
theorem zd_C_countWords_25 : decode zb_C_countWords 25 = .ok (.iload_n 1, 1) := by decide +kernel
theorem zd_C_countWords_26 : decode zb_C_countWords 26 = .ok (.ireturn, 1) := by decide +kernel
theorem zd_C_place_0 : decode zb_C_place 0 = .ok (.aload_n 0, 1) := by decide +kernel
theorem zd_C_place_1 : decode zb_C_place 1 = .ok (.getfield 9, 3) := by decide +kernel
theorem zd_C_place_4 : decode zb_C_place 4 = .ok (.iload_n 1, 1) := by decide +kernel
theorem zd_C_place_5 : decode zb_C_place 5 = .ok (.iload_n 2, 1) := by decide +kernel
theorem zd_C_place_6 : decode zb_C_place 6 = .ok (.iastore, 1) := by decide +kernel
theorem zd_C_place_7 : decode zb_C_place 7 = .ok (.aload_n 0, 1) := by decide +kernel
theorem zd_C_place_8 : decode zb_C_place 8 = .ok (.getfield 15, 3) := by decide +kernel
theorem zd_C_place_11 : decode zb_C_place 11 = .ok (.iload_n 1, 1) := by decide +kernel
theorem zd_C_place_12 : decode zb_C_place 12 = .ok (.iload_n 3, 1) := by decide +kernel
theorem zd_C_place_13 : decode zb_C_place 13 = .ok (.iastore, 1) := by decide +kernel
theorem zd_C_place_14 : decode zb_C_place 14 = .ok (.aload_n 0, 1) := by decide +kernel
theorem zd_C_place_15 : decode zb_C_place 15 = .ok (.getfield 21, 3) := by decide +kernel
theorem zd_C_place_18 : decode zb_C_place 18 = .ok (.iload_n 1, 1) := by decide +kernel
theorem zd_C_place_19 : decode zb_C_place 19 = .ok (.iconst 1, 1) := by decide +kernel
theorem zd_C_place_20 : decode zb_C_place 20 = .ok (.bastore, 1) := by decide +kernel
theorem zd_C_place_21 : decode zb_C_place 21 = .ok (.return_, 1) := by decide +kernel
theorem zd_C_takeAway_0 : decode zb_C_takeAway 0 = .ok (.aload_n 0, 1) := by decide +kernel
theorem zd_C_takeAway_1 : decode zb_C_takeAway 1 = .ok (.getfield 9, 3) := by decide +kernel
theorem zd_C_takeAway_4 : decode zb_C_takeAway 4 = .ok (.iload_n 1, 1) := by decide +kernel
theorem zd_C_takeAway_5 : decode zb_C_takeAway 5 = .ok (.iconst (-1), 1) := by decide +kernel
theorem zd_C_takeAway_6 : decode zb_C_takeAway 6 = .ok (.iastore, 1) := by decide +kernel
theorem zd_C_takeAway_7 : decode zb_C_takeAway 7 = .ok (.aload_n 0, 1) := by decide +kernel
theorem zd_C_takeAway_8 : decode zb_C_takeAway 8 = .ok (.getfield 18, 3) := by decide +kernel
theorem zd_C_takeAway_11 : decode zb_C_takeAway 11 = .ok (.iload_n 1, 1) := by decide +kernel
theorem zd_C_takeAway_12 : decode zb_C_takeAway 12 = .ok (.iconst 0, 1) := by decide +kernel
theorem zd_C_takeAway_13 : decode zb_C_takeAway 13 = .ok (.iastore, 1) := by decide +kernel
theorem zd_C_takeAway_14 : decode zb_C_takeAway 14 = .ok (.return_, 1) := by decide +kernel
theorem zd_C_addRow_0 : decode zb_C_addRow 0 = .ok (.iload_n 1, 1) := by decide +kernel
theorem zd_C_addRow_1 : decode zb_C_addRow 1 = .ok (.bipush 64, 2) := by decide +kernel
theorem zd_C_addRow_3 : decode zb_C_addRow 3 = .ok (.imul, 1) := by decide +kernel
theorem zd_C_addRow_4 : decode zb_C_addRow 4 = .ok (.aload_n 0, 1) := by decide +kernel
theorem zd_C_addRow_5 : decode zb_C_addRow 5 = .ok (.getfield 18, 3) := by decide +kernel
theorem zd_C_addRow_8 : decode zb_C_addRow 8 = .ok (.iload_n 1, 1) := by decide +kernel
theorem zd_C_addRow_9 : decode zb_C_addRow 9 = .ok (.iaload, 1) := by decide +kernel
theorem zd_C_addRow_10 : decode zb_C_addRow 10 = .ok (.iadd, 1) := by decide +kernel
theorem zd_C_addRow_11 : decode zb_C_addRow 11 = .ok (.istore 4, 2) := by decide +kernel
theorem zd_C_addRow_13 : decode zb_C_addRow 13 = .ok (.iconst 0, 1) := by decide +kernel
theorem zd_C_addRow_14 : decode zb_C_addRow 14 = .ok (.istore 5, 2) := by decide +kernel
theorem zd_C_addRow_16 : decode zb_C_addRow 16 = .ok (.iload 5, 2) := by decide +kernel
theorem zd_C_addRow_18 : decode zb_C_addRow 18 = .ok (.iload_n 3, 1) := by decide +kernel
theorem zd_C_addRow_19 : decode zb_C_addRow 19 = .ok (.if_icmp .ge 23, 3) := by decide +kernel
theorem zd_C_addRow_22 : decode zb_C_addRow 22 = .ok (.aload_n 0, 1) := by decide +kernel
theorem zd_C_addRow_23 : decode zb_C_addRow 23 = .ok (.getfield 25, 3) := by decide +kernel
theorem zd_C_addRow_26 : decode zb_C_addRow 26 = .ok (.iload 4, 2) := by decide +kernel
theorem zd_C_addRow_28 : decode zb_C_addRow 28 = .ok (.iload 5, 2) := by decide +kernel
theorem zd_C_addRow_30 : decode zb_C_addRow 30 = .ok (.iadd, 1) := by decide +kernel
theorem zd_C_addRow_31 : decode zb_C_addRow 31 = .ok (.iload_n 2, 1) := by decide +kernel
theorem zd_C_addRow_32 : decode zb_C_addRow 32 = .ok (.iload 5, 2) := by decide +kernel
theorem zd_C_addRow_34 : decode zb_C_addRow 34 = .ok (.iadd, 1) := by decide +kernel
theorem zd_C_addRow_35 : decode zb_C_addRow 35 = .ok (.iastore, 1) := by decide +kernel
theorem zd_C_addRow_36 : decode zb_C_addRow 36 = .ok (.iinc 5 1, 3) := by decide +kernel
theorem zd_C_addRow_39 : decode zb_C_addRow 39 = .ok (.goto (-23), 3) := by decide +kernel
theorem zd_C_addRow_42 : decode zb_C_addRow 42 = .ok (.aload_n 0, 1) := by decide +kernel
theorem zd_C_addRow_43 : decode zb_C_addRow 43 = .ok (.getfield 18, 3) := by decide +kernel
theorem zd_C_addRow_46 : decode zb_C_addRow 46 = .ok (.iload_n 1, 1) := by decide +kernel
theorem zd_C_addRow_47 : decode zb_C_addRow 47 = .ok (.dup2, 1) := by decide +kernel
theorem zd_C_addRow_48 : decode zb_C_addRow 48 = .ok (.iaload, 1) := by decide +kernel
theorem zd_C_addRow_49 : decode zb_C_addRow 49 = .ok (.iload_n 3, 1) := by decide +kernel
theorem zd_C_addRow_50 : decode zb_C_addRow 50 = .ok (.iadd, 1) := by decide +kernel
theorem zd_C_addRow_51 : decode zb_C_addRow 51 = .ok (.iastore, 1) := by decide +kernel
theorem zd_C_addRow_52 : decode zb_C_addRow 52 = .ok (.return_, 1) := by decide +kernel
theorem zd_C_copyFrom_0 : decode zb_C_copyFrom 0 = .ok (.iconst 0, 1) := by decide +kernel
theorem zd_C_copyFrom_1 : decode zb_C_copyFrom 1 = .ok (.istore_n 2, 1) := by decide +kernel
theorem zd_C_copyFrom_2 : decode zb_C_copyFrom 2 = .ok (.iload_n 2, 1) := by decide +kernel
theorem zd_C_copyFrom_3 : decode zb_C_copyFrom 3 = .ok (.bipush 24, 2) := by decide +kernel
theorem zd_C_copyFrom_5 : decode zb_C_copyFrom 5 = .ok (.if_icmp .ge 57, 3) := by decide +kernel
theorem zd_C_copyFrom_8 : decode zb_C_copyFrom 8 = .ok (.aload_n 0, 1) := by decide +kernel
theorem zd_C_copyFrom_9 : decode zb_C_copyFrom 9 = .ok (.getfield 9, 3) := by decide +kernel
theorem zd_C_copyFrom_12 : decode zb_C_copyFrom 12 = .ok (.iload_n 2, 1) := by decide +kernel
theorem zd_C_copyFrom_13 : decode zb_C_copyFrom 13 = .ok (.aload_n 1, 1) := by decide +kernel
theorem zd_C_copyFrom_14 : decode zb_C_copyFrom 14 = .ok (.getfield 9, 3) := by decide +kernel
theorem zd_C_copyFrom_17 : decode zb_C_copyFrom 17 = .ok (.iload_n 2, 1) := by decide +kernel
theorem zd_C_copyFrom_18 : decode zb_C_copyFrom 18 = .ok (.iaload, 1) := by decide +kernel
theorem zd_C_copyFrom_19 : decode zb_C_copyFrom 19 = .ok (.iastore, 1) := by decide +kernel
theorem zd_C_copyFrom_20 : decode zb_C_copyFrom 20 = .ok (.aload_n 0, 1) := by decide +kernel
theorem zd_C_copyFrom_21 : decode zb_C_copyFrom 21 = .ok (.getfield 15, 3) := by decide +kernel
theorem zd_C_copyFrom_24 : decode zb_C_copyFrom 24 = .ok (.iload_n 2, 1) := by decide +kernel
theorem zd_C_copyFrom_25 : decode zb_C_copyFrom 25 = .ok (.aload_n 1, 1) := by decide +kernel
theorem zd_C_copyFrom_26 : decode zb_C_copyFrom 26 = .ok (.getfield 15, 3) := by decide +kernel
theorem zd_C_copyFrom_29 : decode zb_C_copyFrom 29 = .ok (.iload_n 2, 1) := by decide +kernel
theorem zd_C_copyFrom_30 : decode zb_C_copyFrom 30 = .ok (.iaload, 1) := by decide +kernel
theorem zd_C_copyFrom_31 : decode zb_C_copyFrom 31 = .ok (.iastore, 1) := by decide +kernel
theorem zd_C_copyFrom_32 : decode zb_C_copyFrom 32 = .ok (.aload_n 0, 1) := by decide +kernel
theorem zd_C_copyFrom_33 : decode zb_C_copyFrom 33 = .ok (.getfield 18, 3) := by decide +kernel
theorem zd_C_copyFrom_36 : decode zb_C_copyFrom 36 = .ok (.iload_n 2, 1) := by decide +kernel
theorem zd_C_copyFrom_37 : decode zb_C_copyFrom 37 = .ok (.aload_n 1, 1) := by decide +kernel
theorem zd_C_copyFrom_38 : decode zb_C_copyFrom 38 = .ok (.getfield 18, 3) := by decide +kernel
theorem zd_C_copyFrom_41 : decode zb_C_copyFrom 41 = .ok (.iload_n 2, 1) := by decide +kernel
theorem zd_C_copyFrom_42 : decode zb_C_copyFrom 42 = .ok (.iaload, 1) := by decide +kernel
theorem zd_C_copyFrom_43 : decode zb_C_copyFrom 43 = .ok (.iastore, 1) := by decide +kernel
theorem zd_C_copyFrom_44 : decode zb_C_copyFrom 44 = .ok (.aload_n 0, 1) := by decide +kernel
theorem zd_C_copyFrom_45 : decode zb_C_copyFrom 45 = .ok (.getfield 21, 3) := by decide +kernel
theorem zd_C_copyFrom_48 : decode zb_C_copyFrom 48 = .ok (.iload_n 2, 1) := by decide +kernel
theorem zd_C_copyFrom_49 : decode zb_C_copyFrom 49 = .ok (.aload_n 1, 1) := by decide +kernel
theorem zd_C_copyFrom_50 : decode zb_C_copyFrom 50 = .ok (.getfield 21, 3) := by decide +kernel
theorem zd_C_copyFrom_53 : decode zb_C_copyFrom 53 = .ok (.iload_n 2, 1) := by decide +kernel
theorem zd_C_copyFrom_54 : decode zb_C_copyFrom 54 = .ok (.baload, 1) := by decide +kernel
theorem zd_C_copyFrom_55 : decode zb_C_copyFrom 55 = .ok (.bastore, 1) := by decide +kernel
theorem zd_C_copyFrom_56 : decode zb_C_copyFrom 56 = .ok (.iinc 2 1, 3) := by decide +kernel
theorem zd_C_copyFrom_59 : decode zb_C_copyFrom 59 = .ok (.goto (-57), 3) := by decide +kernel
theorem zd_C_copyFrom_62 : decode zb_C_copyFrom 62 = .ok (.aload_n 1, 1) := by decide +kernel
theorem zd_C_copyFrom_63 : decode zb_C_copyFrom 63 = .ok (.getfield 25, 3) := by decide +kernel
theorem zd_C_copyFrom_66 : decode zb_C_copyFrom 66 = .ok (.iconst 0, 1) := by decide +kernel
theorem zd_C_copyFrom_67 : decode zb_C_copyFrom 67 = .ok (.aload_n 0, 1) := by decide +kernel
theorem zd_C_copyFrom_68 : decode zb_C_copyFrom 68 = .ok (.getfield 25, 3) := by decide +kernel
theorem zd_C_copyFrom_71 : decode zb_C_copyFrom 71 = .ok (.iconst 0, 1) := by decide +kernel
theorem zd_C_copyFrom_72 : decode zb_C_copyFrom 72 = .ok (.aload_n 0, 1) := by decide +kernel
theorem zd_C_copyFrom_73 : decode zb_C_copyFrom 73 = .ok (.getfield 25, 3) := by decide +kernel
theorem zd_C_copyFrom_76 : decode zb_C_copyFrom 76 = .ok (.arraylength, 1) := by decide +kernel
theorem zd_C_copyFrom_77 : decode zb_C_copyFrom 77 = .ok (.invokestatic 42, 3) := by decide +kernel
theorem zd_C_copyFrom_80 : decode zb_C_copyFrom 80 = .ok (.return_, 1) := by decide +kernel
theorem zd_J_fill_0 : decode zb_J_fill 0 = .ok (.iconst 0, 1) := by decide +kernel
theorem zd_J_fill_1 : decode zb_J_fill 1 = .ok (.istore_n 2, 1) := by decide +kernel
theorem zd_J_fill_2 : decode zb_J_fill 2 = .ok (.aload_n 0, 1) := by decide +kernel
theorem zd_J_fill_3 : decode zb_J_fill 3 = .ok (.arraylength, 1) := by decide +kernel
theorem zd_J_fill_4 : decode zb_J_fill 4 = .ok (.istore_n 3, 1) := by decide +kernel
theorem zd_J_fill_5 : decode zb_J_fill 5 = .ok (.iload_n 2, 1) := by decide +kernel
theorem zd_J_fill_6 : decode zb_J_fill 6 = .ok (.iload_n 3, 1) := by decide +kernel
theorem zd_J_fill_7 : decode zb_J_fill 7 = .ok (.if_icmp .ge 13, 3) := by decide +kernel
theorem zd_J_fill_10 : decode zb_J_fill 10 = .ok (.aload_n 0, 1) := by decide +kernel
theorem zd_J_fill_11 : decode zb_J_fill 11 = .ok (.iload_n 2, 1) := by decide +kernel
theorem zd_J_fill_12 : decode zb_J_fill 12 = .ok (.iload_n 1, 1) := by decide +kernel
theorem zd_J_fill_13 : decode zb_J_fill 13 = .ok (.iastore, 1) := by decide +kernel
theorem zd_J_fill_14 : decode zb_J_fill 14 = .ok (.iinc 2 1, 3) := by decide +kernel
theorem zd_J_fill_17 : decode zb_J_fill 17 = .ok (.goto (-12), 3) := by decide +kernel
theorem zd_J_fill_20 : decode zb_J_fill 20 = .ok (.return_, 1) := by decide +kernel
end
section
theorem zd_M_init_0 : decode zb_M_init 0 = .ok (.aload_n 0, 1) := by decide +kernel
theorem zd_M_init_1 : decode zb_M_init 1 = .ok (.invokespecial 1, 3) := by decide +kernel
theorem zd_M_init_4 : decode zb_M_init 4 = .ok (.aload_n 0, 1) := by decide +kernel
theorem zd_M_init_5 : decode zb_M_init 5 = .ok (.iconst 1, 1) := by decide +kernel
theorem zd_M_init_6 : decode zb_M_init 6 = .ok (.putfield 7, 3) := by decide +kernel
theorem zd_M_init_9 : decode zb_M_init 9 = .ok (.aload_n 0, 1) := by decide +kernel
theorem zd_M_init_10 : decode zb_M_init 10 = .ok (.bipush 24, 2) := by decide +kernel
theorem zd_M_init_12 : decode zb_M_init 12 = .ok (.newarray .int, 2) := by decide +kernel
theorem zd_M_init_14 : decode zb_M_init 14 = .ok (.putfield 13, 3) := by decide +kernel
theorem zd_M_init_17 : decode zb_M_init 17 = .ok (.aload_n 0, 1) := by decide +kernel
theorem zd_M_init_18 : decode zb_M_init 18 = .ok (.bipush 24, 2) := by decide +kernel
theorem zd_M_init_20 : decode zb_M_init 20 = .ok (.newarray .int, 2) := by decide +kernel
theorem zd_M_init_22 : decode zb_M_init 22 = .ok (.putfield 17, 3) := by decide +kernel
theorem zd_M_init_25 : decode zb_M_init 25 = .ok (.aload_n 0, 1) := by decide +kernel
theorem zd_M_init_26 : decode zb_M_init 26 = .ok (.bipush 24, 2) := by decide +kernel
theorem zd_M_init_28 : decode zb_M_init 28 = .ok (.newarray .int, 2) := by decide +kernel
theorem zd_M_init_30 : decode zb_M_init 30 = .ok (.putfield 20, 3) := by decide +kernel
theorem zd_M_init_33 : decode zb_M_init 33 = .ok (.aload_n 0, 1) := by decide +kernel
theorem zd_M_init_34 : decode zb_M_init 34 = .ok (.bipush 24, 2) := by decide +kernel
theorem zd_M_init_36 : decode zb_M_init 36 = .ok (.newarray .boolean, 2) := by decide +kernel
theorem zd_M_init_38 : decode zb_M_init 38 = .ok (.putfield 23, 3) := by decide +kernel
theorem zd_M_init_41 : decode zb_M_init 41 = .ok (.aload_n 0, 1) := by decide +kernel
theorem zd_M_init_42 : decode zb_M_init 42 = .ok (.sipush 1536, 3) := by decide +kernel
theorem zd_M_init_45 : decode zb_M_init 45 = .ok (.newarray .int, 2) := by decide +kernel
theorem zd_M_init_47 : decode zb_M_init 47 = .ok (.putfield 27, 3) := by decide +kernel
theorem zd_M_init_50 : decode zb_M_init 50 = .ok (.aload_n 0, 1) := by decide +kernel
theorem zd_M_init_51 : decode zb_M_init 51 = .ok (.bipush 24, 2) := by decide +kernel
theorem zd_M_init_53 : decode zb_M_init 53 = .ok (.newarray .int, 2) := by decide +kernel
theorem zd_M_init_55 : decode zb_M_init 55 = .ok (.putfield 30, 3) := by decide +kernel
theorem zd_M_init_58 : decode zb_M_init 58 = .ok (.aload_n 0, 1) := by decide +kernel
theorem zd_M_init_59 : decode zb_M_init 59 = .ok (.bipush 24, 2) := by decide +kernel
theorem zd_M_init_61 : decode zb_M_init 61 = .ok (.newarray .int, 2) := by decide +kernel
theorem zd_M_init_63 : decode zb_M_init 63 = .ok (.putfield 33, 3) := by decide +kernel
theorem zd_M_init_66 : decode zb_M_init 66 = .ok (.aload_n 0, 1) := by decide +kernel
theorem zd_M_init_67 : decode zb_M_init 67 = .ok (.bipush 24, 2) := by decide +kernel
theorem zd_M_init_69 : decode zb_M_init 69 = .ok (.newarray .int, 2) := by decide +kernel
theorem zd_M_init_71 : decode zb_M_init 71 = .ok (.putfield 36, 3) := by decide +kernel
theorem zd_M_init_74 : decode zb_M_init 74 = .ok (.aload_n 0, 1) := by decide +kernel
theorem zd_M_init_75 : decode zb_M_init 75 = .ok (.bipush 24, 2) := by decide +kernel
theorem zd_M_init_77 : decode zb_M_init 77 = .ok (.newarray .boolean, 2) := by decide +kernel
theorem zd_M_init_79 : decode zb_M_init 79 = .ok (.putfield 39, 3) := by decide +kernel
theorem zd_M_init_82 : decode zb_M_init 82 = .ok (.aload_n 0, 1) := by decide +kernel
theorem zd_M_init_83 : decode zb_M_init 83 = .ok (.sipush 1536, 3) := by decide +kernel
theorem zd_M_init_86 : decode zb_M_init 86 = .ok (.newarray .int, 2) := by decide +kernel
theorem zd_M_init_88 : decode zb_M_init 88 = .ok (.putfield 42, 3) := by decide +kernel
theorem zd_M_init_91 : decode zb_M_init 91 = .ok (.return_, 1) := by decide +kernel
theorem zd_M_is_0 : decode zb_M_is 0 = .ok (.aload_n 0, 1) := by decide +kernel
theorem zd_M_is_1 : decode zb_M_is 1 = .ok (.getfield 7, 3) := by decide +kernel
theorem zd_M_is_4 : decode zb_M_is 4 = .ok (.ifCond .eq 26, 3) := by decide +kernel
theorem zd_M_is_7 : decode zb_M_is 7 = .ok (.iload_n 1, 1) := by decide +kernel
theorem zd_M_is_8 : decode zb_M_is 8 = .ok (.ifCond .lt 22, 3) := by decide +kernel
theorem zd_M_is_11 : decode zb_M_is 11 = .ok (.iload_n 1, 1) := by decide +kernel
theorem zd_M_is_12 : decode zb_M_is 12 = .ok (.bipush 24, 2) := by decide +kernel
theorem zd_M_is_14 : decode zb_M_is 14 = .ok (.if_icmp .ge 16, 3) := by decide +kernel
theorem zd_M_is_17 : decode zb_M_is 17 = .ok (.aload_n 0, 1) := by decide +kernel
theorem zd_M_is_18 : decode zb_M_is 18 = .ok (.getfield 13, 3) := by decide +kernel
theorem zd_M_is_21 : decode zb_M_is 21 = .ok (.iload_n 1, 1) := by decide +kernel
theorem zd_M_is_22 : decode zb_M_is 22 = .ok (.iaload, 1) := by decide +kernel
theorem zd_M_is_23 : decode zb_M_is 23 = .ok (.ifCond .le 7, 3) := by decide +kernel
theorem zd_M_is_26 : decode zb_M_is 26 = .ok (.iconst 1, 1) := by decide +kernel
theorem zd_M_is_27 : decode zb_M_is 27 = .ok (.goto 4, 3) := by decide +kernel
theorem zd_M_is_30 : decode zb_M_is 30 = .ok (.iconst 0, 1) := by decide +kernel
theorem zd_M_is_31 : decode zb_M_is 31 = .ok (.ireturn, 1) := by decide +kernel
theorem zd_M_isName_0 : decode zb_M_isName 0 = .ok (.iload_n 0, 1) := by decide +kernel
theorem zd_M_isName_1 : decode zb_M_isName 1 = .ok (.ifCond .lt 14, 3) := by decide +kernel
theorem zd_M_isName_4 : decode zb_M_isName 4 = .ok (.iload_n 0, 1) := by decide +kernel
theorem zd_M_isName_5 : decode zb_M_isName 5 = .ok (.sipush 9999, 3) := by decide +kernel
theorem zd_M_isName_8 : decode zb_M_isName 8 = .ok (.if_icmp .gt 7, 3) := by decide +kernel
theorem zd_M_isName_11 : decode zb_M_isName 11 = .ok (.iconst 1, 1) := by decide +kernel
theorem zd_M_isName_12 : decode zb_M_isName 12 = .ok (.goto 4, 3) := by decide +kernel
theorem zd_M_isName_15 : decode zb_M_isName 15 = .ok (.iconst 0, 1) := by decide +kernel
theorem zd_M_isName_16 : decode zb_M_isName 16 = .ok (.ireturn, 1) := by decide +kernel
theorem zd_M_named_0 : decode zb_M_named 0 = .ok (.iconst (-1), 1) := by decide +kernel
theorem zd_M_named_1 : decode zb_M_named 1 = .ok (.istore_n 2, 1) := by decide +kernel
theorem zd_M_named_2 : decode zb_M_named 2 = .ok (.iconst 0, 1) := by decide +kernel
theorem zd_M_named_3 : decode zb_M_named 3 = .ok (.istore_n 3, 1) := by decide +kernel
theorem zd_M_named_4 : decode zb_M_named 4 = .ok (.iload_n 3, 1) := by decide +kernel
theorem zd_M_named_5 : decode zb_M_named 5 = .ok (.bipush 24, 2) := by decide +kernel
theorem zd_M_named_7 : decode zb_M_named 7 = .ok (.if_icmp .ge 42, 3) := by decide +kernel
theorem zd_M_named_10 : decode zb_M_named 10 = .ok (.iload_n 1, 1) := by decide +kernel
theorem zd_M_named_11 : decode zb_M_named 11 = .ok (.invokestatic 45, 3) := by decide +kernel
theorem zd_M_named_14 : decode zb_M_named 14 = .ok (.ifCond .eq 27, 3) := by decide +kernel
theorem zd_M_named_17 : decode zb_M_named 17 = .ok (.aload_n 0, 1) := by decide +kernel
theorem zd_M_named_18 : decode zb_M_named 18 = .ok (.iload_n 3, 1) := by decide +kernel
theorem zd_M_named_19 : decode zb_M_named 19 = .ok (.invokevirtual 49, 3) := by decide +kernel
theorem zd_M_named_22 : decode zb_M_named 22 = .ok (.ifCond .eq 19, 3) := by decide +kernel
theorem zd_M_named_25 : decode zb_M_named 25 = .ok (.aload_n 0, 1) := by decide +kernel
theorem zd_M_named_26 : decode zb_M_named 26 = .ok (.getfield 13, 3) := by decide +kernel
theorem zd_M_named_29 : decode zb_M_named 29 = .ok (.iload_n 3, 1) := by decide +kernel
theorem zd_M_named_30 : decode zb_M_named 30 = .ok (.iaload, 1) := by decide +kernel
theorem zd_M_named_31 : decode zb_M_named 31 = .ok (.iload_n 1, 1) := by decide +kernel
theorem zd_M_named_32 : decode zb_M_named 32 = .ok (.iconst 1, 1) := by decide +kernel
theorem zd_M_named_33 : decode zb_M_named 33 = .ok (.iadd, 1) := by decide +kernel
theorem zd_M_named_34 : decode zb_M_named 34 = .ok (.if_icmp .ne 7, 3) := by decide +kernel
theorem zd_M_named_37 : decode zb_M_named 37 = .ok (.iload_n 3, 1) := by decide +kernel
theorem zd_M_named_38 : decode zb_M_named 38 = .ok (.goto 4, 3) := by decide +kernel
theorem zd_M_named_41 : decode zb_M_named 41 = .ok (.iload_n 2, 1) := by decide +kernel
theorem zd_M_named_42 : decode zb_M_named 42 = .ok (.istore_n 2, 1) := by decide +kernel
theorem zd_M_named_43 : decode zb_M_named 43 = .ok (.iinc 3 1, 3) := by decide +kernel
theorem zd_M_named_46 : decode zb_M_named 46 = .ok (.goto (-42), 3) := by decide +kernel
theorem zd_M_named_49 : decode zb_M_named 49 = .ok (.iload_n 2, 1) := by decide +kernel
theorem zd_M_named_50 : decode zb_M_named 50 = .ok (.ireturn, 1) := by decide +kernel
theorem zd_M_left_0 : decode zb_M_left 0 = .ok (.sipush 200, 3) := by decide +kernel
theorem zd_M_left_3 : decode zb_M_left 3 = .ok (.istore_n 1, 1) := by decide +kernel
theorem zd_M_left_4 : decode zb_M_left 4 = .ok (.iconst 0, 1) := by decide +kernel
theorem zd_M_left_5 : decode zb_M_left 5 = .ok (.istore_n 2, 1) := by decide +kernel
theorem zd_M_left_6 : decode zb_M_left 6 = .ok (.iload_n 2, 1) := by decide +kernel
theorem zd_M_left_7 : decode zb_M_left 7 = .ok (.bipush 24, 2) := by decide +kernel
theorem zd_M_left_9 : decode zb_M_left 9 = .ok (.if_icmp .ge 31, 3) := by decide +kernel
theorem zd_M_left_12 : decode zb_M_left 12 = .ok (.iload_n 1, 1) := by decide +kernel
theorem zd_M_left_13 : decode zb_M_left 13 = .ok (.aload_n 0, 1) := by decide +kernel
theorem zd_M_left_14 : decode zb_M_left 14 = .ok (.getfield 13, 3) := by decide +kernel
theorem zd_M_left_17 : decode zb_M_left 17 = .ok (.iload_n 2, 1) := by decide +kernel
theorem zd_M_left_18 : decode zb_M_left 18 = .ok (.iaload, 1) := by decide +kernel
theorem zd_M_left_19 : decode zb_M_left 19 = .ok (.ifCond .le 12, 3) := by decide +kernel
theorem zd_M_left_22 : decode zb_M_left 22 = .ok (.aload_n 0, 1) := by decide +kernel
theorem zd_M_left_23 : decode zb_M_left 23 = .ok (.getfield 20, 3) := by decide +kernel
theorem zd_M_left_26 : decode zb_M_left 26 = .ok (.iload_n 2, 1) := by decide +kernel
theorem zd_M_left_27 : decode zb_M_left 27 = .ok (.iaload, 1) := by decide +kernel
theorem zd_M_left_28 : decode zb_M_left 28 = .ok (.goto 4, 3) := by decide +kernel
theorem zd_M_left_31 : decode zb_M_left 31 = .ok (.iconst 0, 1) := by decide +kernel
theorem zd_M_left_32 : decode zb_M_left 32 = .ok (.isub, 1) := by decide +kernel
theorem zd_M_left_33 : decode zb_M_left 33 = .ok (.istore_n 1, 1) := by decide +kernel
theorem zd_M_left_34 : decode zb_M_left 34 = .ok (.iinc 2 1, 3) := by decide +kernel
theorem zd_M_left_37 : decode zb_M_left 37 = .ok (.goto (-31), 3) := by decide +kernel
theorem zd_M_left_40 : decode zb_M_left 40 = .ok (.iload_n 1, 1) := by decide +kernel
theorem zd_M_left_41 : decode zb_M_left 41 = .ok (.ireturn, 1) := by decide +kernel
theorem zd_M_create_0 : decode zb_M_create 0 = .ok (.aload_n 0, 1) := by decide +kernel
theorem zd_M_create_1 : decode zb_M_create 1 = .ok (.getfield 7, 3) := by decide +kernel
theorem zd_M_create_4 : decode zb_M_create 4 = .ok (.ifCond .eq 28, 3) := by decide +kernel
theorem zd_M_create_7 : decode zb_M_create 7 = .ok (.iload_n 1, 1) := by decide +kernel
theorem zd_M_create_8 : decode zb_M_create 8 = .ok (.invokestatic 45, 3) := by decide +kernel
theorem zd_M_create_11 : decode zb_M_create 11 = .ok (.ifCond .eq 21, 3) := by decide +kernel
theorem zd_M_create_14 : decode zb_M_create 14 = .ok (.iload_n 2, 1) := by decide +kernel
theorem zd_M_create_15 : decode zb_M_create 15 = .ok (.ifCond .lt 17, 3) := by decide +kernel
theorem zd_M_create_18 : decode zb_M_create 18 = .ok (.iload_n 2, 1) := by decide +kernel
theorem zd_M_create_19 : decode zb_M_create 19 = .ok (.iconst 3, 1) := by decide +kernel
theorem zd_M_create_20 : decode zb_M_create 20 = .ok (.if_icmp .gt 12, 3) := by decide +kernel
theorem zd_M_create_23 : decode zb_M_create 23 = .ok (.aload_n 0, 1) := by decide +kernel
theorem zd_M_create_24 : decode zb_M_create 24 = .ok (.iload_n 1, 1) := by decide +kernel
theorem zd_M_create_25 : decode zb_M_create 25 = .ok (.invokevirtual 52, 3) := by decide +kernel
theorem zd_M_create_28 : decode zb_M_create 28 = .ok (.iconst (-1), 1) := by decide +kernel
theorem zd_M_create_29 : decode zb_M_create 29 = .ok (.if_icmp .eq 5, 3) := by decide +kernel
theorem zd_M_create_32 : decode zb_M_create 32 = .ok (.iconst (-1), 1) := by decide +kernel
theorem zd_M_create_33 : decode zb_M_create 33 = .ok (.ireturn, 1) := by decide +kernel
theorem zd_M_create_34 : decode zb_M_create 34 = .ok (.iconst 0, 1) := by decide +kernel
theorem zd_M_create_35 : decode zb_M_create 35 = .ok (.istore_n 3, 1) := by decide +kernel
theorem zd_M_create_36 : decode zb_M_create 36 = .ok (.iload_n 3, 1) := by decide +kernel
theorem zd_M_create_37 : decode zb_M_create 37 = .ok (.bipush 24, 2) := by decide +kernel
theorem zd_M_create_39 : decode zb_M_create 39 = .ok (.if_icmp .ge 18, 3) := by decide +kernel
theorem zd_M_create_42 : decode zb_M_create 42 = .ok (.aload_n 0, 1) := by decide +kernel
theorem zd_M_create_43 : decode zb_M_create 43 = .ok (.getfield 13, 3) := by decide +kernel
theorem zd_M_create_46 : decode zb_M_create 46 = .ok (.iload_n 3, 1) := by decide +kernel
theorem zd_M_create_47 : decode zb_M_create 47 = .ok (.iaload, 1) := by decide +kernel
theorem zd_M_create_48 : decode zb_M_create 48 = .ok (.ifCond .le 9, 3) := by decide +kernel
theorem zd_M_create_51 : decode zb_M_create 51 = .ok (.iinc 3 1, 3) := by decide +kernel
theorem zd_M_create_54 : decode zb_M_create 54 = .ok (.goto (-18), 3) := by decide +kernel
theorem zd_M_create_57 : decode zb_M_create 57 = .ok (.iload_n 3, 1) := by decide +kernel
theorem zd_M_create_58 : decode zb_M_create 58 = .ok (.bipush 24, 2) := by decide +kernel
theorem zd_M_create_60 : decode zb_M_create 60 = .ok (.if_icmp .ne 5, 3) := by decide +kernel
theorem zd_M_create_63 : decode zb_M_create 63 = .ok (.iconst (-1), 1) := by decide +kernel
theorem zd_M_create_64 : decode zb_M_create 64 = .ok (.ireturn, 1) := by decide +kernel
theorem zd_M_create_65 : decode zb_M_create 65 = .ok (.aload_n 0, 1) := by decide +kernel
theorem zd_M_create_66 : decode zb_M_create 66 = .ok (.getfield 13, 3) := by decide +kernel
theorem zd_M_create_69 : decode zb_M_create 69 = .ok (.iload_n 3, 1) := by decide +kernel
theorem zd_M_create_70 : decode zb_M_create 70 = .ok (.iload_n 1, 1) := by decide +kernel
theorem zd_M_create_71 : decode zb_M_create 71 = .ok (.iconst 1, 1) := by decide +kernel
theorem zd_M_create_72 : decode zb_M_create 72 = .ok (.iadd, 1) := by decide +kernel
theorem zd_M_create_73 : decode zb_M_create 73 = .ok (.iastore, 1) := by decide +kernel
theorem zd_M_create_74 : decode zb_M_create 74 = .ok (.aload_n 0, 1) := by decide +kernel
theorem zd_M_create_75 : decode zb_M_create 75 = .ok (.getfield 17, 3) := by decide +kernel
theorem zd_M_create_78 : decode zb_M_create 78 = .ok (.iload_n 3, 1) := by decide +kernel
theorem zd_M_create_79 : decode zb_M_create 79 = .ok (.iload_n 2, 1) := by decide +kernel
theorem zd_M_create_80 : decode zb_M_create 80 = .ok (.iastore, 1) := by decide +kernel
theorem zd_M_create_81 : decode zb_M_create 81 = .ok (.aload_n 0, 1) := by decide +kernel
theorem zd_M_create_82 : decode zb_M_create 82 = .ok (.getfield 20, 3) := by decide +kernel
theorem zd_M_create_85 : decode zb_M_create 85 = .ok (.iload_n 3, 1) := by decide +kernel
theorem zd_M_create_86 : decode zb_M_create 86 = .ok (.iconst 0, 1) := by decide +kernel
theorem zd_M_create_87 : decode zb_M_create 87 = .ok (.iastore, 1) := by decide +kernel
theorem zd_M_create_88 : decode zb_M_create 88 = .ok (.aload_n 0, 1) := by decide +kernel
theorem zd_M_create_89 : decode zb_M_create 89 = .ok (.getfield 23, 3) := by decide +kernel
theorem zd_M_create_92 : decode zb_M_create 92 = .ok (.iload_n 3, 1) := by decide +kernel
theorem zd_M_create_93 : decode zb_M_create 93 = .ok (.iconst 1, 1) := by decide +kernel
theorem zd_M_create_94 : decode zb_M_create 94 = .ok (.bastore, 1) := by decide +kernel
theorem zd_M_create_95 : decode zb_M_create 95 = .ok (.iload_n 3, 1) := by decide +kernel
theorem zd_M_create_96 : decode zb_M_create 96 = .ok (.ireturn, 1) := by decide +kernel
theorem zd_M_append_0 : decode zb_M_append 0 = .ok (.aload_n 0, 1) := by decide +kernel
theorem zd_M_append_1 : decode zb_M_append 1 = .ok (.iload_n 1, 1) := by decide +kernel
theorem zd_M_append_2 : decode zb_M_append 2 = .ok (.iload_n 2, 1) := by decide +kernel
theorem zd_M_append_3 : decode zb_M_append 3 = .ok (.iconst 1, 1) := by decide +kernel
theorem zd_M_append_4 : decode zb_M_append 4 = .ok (.invokevirtual 56, 3) := by decide +kernel
theorem zd_M_append_7 : decode zb_M_append 7 = .ok (.ireturn, 1) := by decide +kernel
theorem zd_M_appendRow_0 : decode zb_M_appendRow 0 = .ok (.aload_n 0, 1) := by decide +kernel
theorem zd_M_appendRow_1 : decode zb_M_appendRow 1 = .ok (.iload_n 1, 1) := by decide +kernel
theorem zd_M_appendRow_2 : decode zb_M_appendRow 2 = .ok (.invokevirtual 49, 3) := by decide +kernel
theorem zd_M_appendRow_5 : decode zb_M_appendRow 5 = .ok (.ifCond .eq 38, 3) := by decide +kernel
theorem zd_M_appendRow_8 : decode zb_M_appendRow 8 = .ok (.aload_n 0, 1) := by decide +kernel
theorem zd_M_appendRow_9 : decode zb_M_appendRow 9 = .ok (.getfield 23, 3) := by decide +kernel
theorem zd_M_appendRow_12 : decode zb_M_appendRow 12 = .ok (.iload_n 1, 1) := by decide +kernel
theorem zd_M_appendRow_13 : decode zb_M_appendRow 13 = .ok (.baload, 1) := by decide +kernel
theorem zd_M_appendRow_14 : decode zb_M_appendRow 14 = .ok (.ifCond .eq 29, 3) := by decide +kernel
theorem zd_M_appendRow_17 : decode zb_M_appendRow 17 = .ok (.iload_n 3, 1) := by decide +kernel
theorem zd_M_appendRow_18 : decode zb_M_appendRow 18 = .ok (.iconst 1, 1) := by decide +kernel
theorem zd_M_appendRow_19 : decode zb_M_appendRow 19 = .ok (.if_icmp .lt 24, 3) := by decide +kernel
theorem zd_M_appendRow_22 : decode zb_M_appendRow 22 = .ok (.iload_n 3, 1) := by decide +kernel
theorem zd_M_appendRow_23 : decode zb_M_appendRow 23 = .ok (.bipush 64, 2) := by decide +kernel
theorem zd_M_appendRow_25 : decode zb_M_appendRow 25 = .ok (.aload_n 0, 1) := by decide +kernel
theorem zd_M_appendRow_26 : decode zb_M_appendRow 26 = .ok (.getfield 20, 3) := by decide +kernel
theorem zd_M_appendRow_29 : decode zb_M_appendRow 29 = .ok (.iload_n 1, 1) := by decide +kernel
theorem zd_M_appendRow_30 : decode zb_M_appendRow 30 = .ok (.iaload, 1) := by decide +kernel
theorem zd_M_appendRow_31 : decode zb_M_appendRow 31 = .ok (.isub, 1) := by decide +kernel
theorem zd_M_appendRow_32 : decode zb_M_appendRow 32 = .ok (.if_icmp .gt 11, 3) := by decide +kernel
theorem zd_M_appendRow_35 : decode zb_M_appendRow 35 = .ok (.iload_n 3, 1) := by decide +kernel
theorem zd_M_appendRow_36 : decode zb_M_appendRow 36 = .ok (.aload_n 0, 1) := by decide +kernel
theorem zd_M_appendRow_37 : decode zb_M_appendRow 37 = .ok (.invokevirtual 60, 3) := by decide +kernel
theorem zd_M_appendRow_40 : decode zb_M_appendRow 40 = .ok (.if_icmp .le 5, 3) := by decide +kernel
theorem zd_M_appendRow_43 : decode zb_M_appendRow 43 = .ok (.iconst 0, 1) := by decide +kernel
theorem zd_M_appendRow_44 : decode zb_M_appendRow 44 = .ok (.ireturn, 1) := by decide +kernel
theorem zd_M_appendRow_45 : decode zb_M_appendRow 45 = .ok (.iconst 0, 1) := by decide +kernel
theorem zd_M_appendRow_46 : decode zb_M_appendRow 46 = .ok (.istore 4, 2) := by decide +kernel
theorem zd_M_appendRow_48 : decode zb_M_appendRow 48 = .ok (.iload 4, 2) := by decide +kernel
theorem zd_M_appendRow_50 : decode zb_M_appendRow 50 = .ok (.iload_n 3, 1) := by decide +kernel
theorem zd_M_appendRow_51 : decode zb_M_appendRow 51 = .ok (.if_icmp .ge 39, 3) := by decide +kernel
theorem zd_M_appendRow_54 : decode zb_M_appendRow 54 = .ok (.aload_n 0, 1) := by decide +kernel
theorem zd_M_appendRow_55 : decode zb_M_appendRow 55 = .ok (.getfield 27, 3) := by decide +kernel
theorem zd_M_appendRow_58 : decode zb_M_appendRow 58 = .ok (.bipush 64, 2) := by decide +kernel
theorem zd_M_appendRow_60 : decode zb_M_appendRow 60 = .ok (.iload_n 1, 1) := by decide +kernel
theorem zd_M_appendRow_61 : decode zb_M_appendRow 61 = .ok (.imul, 1) := by decide +kernel
theorem zd_M_appendRow_62 : decode zb_M_appendRow 62 = .ok (.aload_n 0, 1) := by decide +kernel
theorem zd_M_appendRow_63 : decode zb_M_appendRow 63 = .ok (.getfield 20, 3) := by decide +kernel
theorem zd_M_appendRow_66 : decode zb_M_appendRow 66 = .ok (.iload_n 1, 1) := by decide +kernel
theorem zd_M_appendRow_67 : decode zb_M_appendRow 67 = .ok (.iaload, 1) := by decide +kernel
theorem zd_M_appendRow_68 : decode zb_M_appendRow 68 = .ok (.iadd, 1) := by decide +kernel
theorem zd_M_appendRow_69 : decode zb_M_appendRow 69 = .ok (.iload_n 2, 1) := by decide +kernel
theorem zd_M_appendRow_70 : decode zb_M_appendRow 70 = .ok (.iload 4, 2) := by decide +kernel
theorem zd_M_appendRow_72 : decode zb_M_appendRow 72 = .ok (.iadd, 1) := by decide +kernel
theorem zd_M_appendRow_73 : decode zb_M_appendRow 73 = .ok (.iastore, 1) := by decide +kernel
theorem zd_M_appendRow_74 : decode zb_M_appendRow 74 = .ok (.aload_n 0, 1) := by decide +kernel
theorem zd_M_appendRow_75 : decode zb_M_appendRow 75 = .ok (.getfield 20, 3) := by decide +kernel
theorem zd_M_appendRow_78 : decode zb_M_appendRow 78 = .ok (.iload_n 1, 1) := by decide +kernel
theorem zd_M_appendRow_79 : decode zb_M_appendRow 79 = .ok (.dup2, 1) := by decide +kernel
theorem zd_M_appendRow_80 : decode zb_M_appendRow 80 = .ok (.iaload, 1) := by decide +kernel
theorem zd_M_appendRow_81 : decode zb_M_appendRow 81 = .ok (.iconst 1, 1) := by decide +kernel
theorem zd_M_appendRow_82 : decode zb_M_appendRow 82 = .ok (.iadd, 1) := by decide +kernel
theorem zd_M_appendRow_83 : decode zb_M_appendRow 83 = .ok (.iastore, 1) := by decide +kernel
theorem zd_M_appendRow_84 : decode zb_M_appendRow 84 = .ok (.iinc 4 1, 3) := by decide +kernel
theorem zd_M_appendRow_87 : decode zb_M_appendRow 87 = .ok (.goto (-39), 3) := by decide +kernel
theorem zd_M_appendRow_90 : decode zb_M_appendRow 90 = .ok (.iconst 1, 1) := by decide +kernel
theorem zd_M_appendRow_91 : decode zb_M_appendRow 91 = .ok (.ireturn, 1) := by decide +kernel
theorem zd_M_open_0 : decode zb_M_open 0 = .ok (.aload_n 0, 1) := by decide +kernel
theorem zd_M_open_1 : decode zb_M_open 1 = .ok (.iload_n 1, 1) := by decide +kernel
theorem zd_M_open_2 : decode zb_M_open 2 = .ok (.invokevirtual 49, 3) := by decide +kernel
theorem zd_M_open_5 : decode zb_M_open 5 = .ok (.ifCond .ne 5, 3) := by decide +kernel
theorem zd_M_open_8 : decode zb_M_open 8 = .ok (.iconst 0, 1) := by decide +kernel
theorem zd_M_open_9 : decode zb_M_open 9 = .ok (.ireturn, 1) := by decide +kernel
theorem zd_M_open_10 : decode zb_M_open 10 = .ok (.aload_n 0, 1) := by decide +kernel
theorem zd_M_open_11 : decode zb_M_open 11 = .ok (.getfield 23, 3) := by decide +kernel
theorem zd_M_open_14 : decode zb_M_open 14 = .ok (.iload_n 1, 1) := by decide +kernel
theorem zd_M_open_15 : decode zb_M_open 15 = .ok (.iload_n 2, 1) := by decide +kernel
theorem zd_M_open_16 : decode zb_M_open 16 = .ok (.bastore, 1) := by decide +kernel
theorem zd_M_open_17 : decode zb_M_open 17 = .ok (.iconst 1, 1) := by decide +kernel
theorem zd_M_open_18 : decode zb_M_open 18 = .ok (.ireturn, 1) := by decide +kernel
theorem zd_M_remove_0 : decode zb_M_remove 0 = .ok (.aload_n 0, 1) := by decide +kernel
theorem zd_M_remove_1 : decode zb_M_remove 1 = .ok (.iload_n 1, 1) := by decide +kernel
theorem zd_M_remove_2 : decode zb_M_remove 2 = .ok (.invokevirtual 49, 3) := by decide +kernel
theorem zd_M_remove_5 : decode zb_M_remove 5 = .ok (.ifCond .ne 5, 3) := by decide +kernel
theorem zd_M_remove_8 : decode zb_M_remove 8 = .ok (.iconst 0, 1) := by decide +kernel
theorem zd_M_remove_9 : decode zb_M_remove 9 = .ok (.ireturn, 1) := by decide +kernel
theorem zd_M_remove_10 : decode zb_M_remove 10 = .ok (.aload_n 0, 1) := by decide +kernel
theorem zd_M_remove_11 : decode zb_M_remove 11 = .ok (.getfield 13, 3) := by decide +kernel
theorem zd_M_remove_14 : decode zb_M_remove 14 = .ok (.iload_n 1, 1) := by decide +kernel
theorem zd_M_remove_15 : decode zb_M_remove 15 = .ok (.iconst 0, 1) := by decide +kernel
theorem zd_M_remove_16 : decode zb_M_remove 16 = .ok (.iastore, 1) := by decide +kernel
theorem zd_M_remove_17 : decode zb_M_remove 17 = .ok (.iconst 1, 1) := by decide +kernel
theorem zd_M_remove_18 : decode zb_M_remove 18 = .ok (.ireturn, 1) := by decide +kernel
theorem zd_M_rename_0 : decode zb_M_rename 0 = .ok (.aload_n 0, 1) := by decide +kernel
theorem zd_M_rename_1 : decode zb_M_rename 1 = .ok (.iload_n 1, 1) := by decide +kernel
theorem zd_M_rename_2 : decode zb_M_rename 2 = .ok (.invokevirtual 49, 3) := by decide +kernel
theorem zd_M_rename_5 : decode zb_M_rename 5 = .ok (.ifCond .eq 19, 3) := by decide +kernel
theorem zd_M_rename_8 : decode zb_M_rename 8 = .ok (.iload_n 2, 1) := by decide +kernel
theorem zd_M_rename_9 : decode zb_M_rename 9 = .ok (.invokestatic 45, 3) := by decide +kernel
theorem zd_M_rename_12 : decode zb_M_rename 12 = .ok (.ifCond .eq 12, 3) := by decide +kernel
theorem zd_M_rename_15 : decode zb_M_rename 15 = .ok (.aload_n 0, 1) := by decide +kernel
theorem zd_M_rename_16 : decode zb_M_rename 16 = .ok (.iload_n 2, 1) := by decide +kernel
theorem zd_M_rename_17 : decode zb_M_rename 17 = .ok (.invokevirtual 52, 3) := by decide +kernel
theorem zd_M_rename_20 : decode zb_M_rename 20 = .ok (.iconst (-1), 1) := by decide +kernel
theorem zd_M_rename_21 : decode zb_M_rename 21 = .ok (.if_icmp .eq 5, 3) := by decide +kernel
theorem zd_M_rename_24 : decode zb_M_rename 24 = .ok (.iconst 0, 1) := by decide +kernel
theorem zd_M_rename_25 : decode zb_M_rename 25 = .ok (.ireturn, 1) := by decide +kernel
theorem zd_M_rename_26 : decode zb_M_rename 26 = .ok (.aload_n 0, 1) := by decide +kernel
theorem zd_M_rename_27 : decode zb_M_rename 27 = .ok (.getfield 13, 3) := by decide +kernel
theorem zd_M_rename_30 : decode zb_M_rename 30 = .ok (.iload_n 1, 1) := by decide +kernel
theorem zd_M_rename_31 : decode zb_M_rename 31 = .ok (.iload_n 2, 1) := by decide +kernel
theorem zd_M_rename_32 : decode zb_M_rename 32 = .ok (.iconst 1, 1) := by decide +kernel
theorem zd_M_rename_33 : decode zb_M_rename 33 = .ok (.iadd, 1) := by decide +kernel
theorem zd_M_rename_34 : decode zb_M_rename 34 = .ok (.iastore, 1) := by decide +kernel
theorem zd_M_rename_35 : decode zb_M_rename 35 = .ok (.iconst 1, 1) := by decide +kernel
theorem zd_M_rename_36 : decode zb_M_rename 36 = .ok (.ireturn, 1) := by decide +kernel
theorem zd_M_sync_0 : decode zb_M_sync 0 = .ok (.aload_n 0, 1) := by decide +kernel
theorem zd_M_sync_1 : decode zb_M_sync 1 = .ok (.getfield 7, 3) := by decide +kernel
theorem zd_M_sync_4 : decode zb_M_sync 4 = .ok (.ifCond .ne 5, 3) := by decide +kernel
theorem zd_M_sync_7 : decode zb_M_sync 7 = .ok (.iconst 0, 1) := by decide +kernel
theorem zd_M_sync_8 : decode zb_M_sync 8 = .ok (.ireturn, 1) := by decide +kernel
theorem zd_M_sync_9 : decode zb_M_sync 9 = .ok (.iconst 0, 1) := by decide +kernel
theorem zd_M_sync_10 : decode zb_M_sync 10 = .ok (.istore_n 1, 1) := by decide +kernel
theorem zd_M_sync_11 : decode zb_M_sync 11 = .ok (.iload_n 1, 1) := by decide +kernel
theorem zd_M_sync_12 : decode zb_M_sync 12 = .ok (.bipush 24, 2) := by decide +kernel
theorem zd_M_sync_14 : decode zb_M_sync 14 = .ok (.if_icmp .ge 57, 3) := by decide +kernel
theorem zd_M_sync_17 : decode zb_M_sync 17 = .ok (.aload_n 0, 1) := by decide +kernel
theorem zd_M_sync_18 : decode zb_M_sync 18 = .ok (.getfield 30, 3) := by decide +kernel
theorem zd_M_sync_21 : decode zb_M_sync 21 = .ok (.iload_n 1, 1) := by decide +kernel
theorem zd_M_sync_22 : decode zb_M_sync 22 = .ok (.aload_n 0, 1) := by decide +kernel
theorem zd_M_sync_23 : decode zb_M_sync 23 = .ok (.getfield 13, 3) := by decide +kernel
theorem zd_M_sync_26 : decode zb_M_sync 26 = .ok (.iload_n 1, 1) := by decide +kernel
theorem zd_M_sync_27 : decode zb_M_sync 27 = .ok (.iaload, 1) := by decide +kernel
theorem zd_M_sync_28 : decode zb_M_sync 28 = .ok (.iastore, 1) := by decide +kernel
theorem zd_M_sync_29 : decode zb_M_sync 29 = .ok (.aload_n 0, 1) := by decide +kernel
theorem zd_M_sync_30 : decode zb_M_sync 30 = .ok (.getfield 33, 3) := by decide +kernel
theorem zd_M_sync_33 : decode zb_M_sync 33 = .ok (.iload_n 1, 1) := by decide +kernel
theorem zd_M_sync_34 : decode zb_M_sync 34 = .ok (.aload_n 0, 1) := by decide +kernel
theorem zd_M_sync_35 : decode zb_M_sync 35 = .ok (.getfield 17, 3) := by decide +kernel
theorem zd_M_sync_38 : decode zb_M_sync 38 = .ok (.iload_n 1, 1) := by decide +kernel
theorem zd_M_sync_39 : decode zb_M_sync 39 = .ok (.iaload, 1) := by decide +kernel
theorem zd_M_sync_40 : decode zb_M_sync 40 = .ok (.iastore, 1) := by decide +kernel
theorem zd_M_sync_41 : decode zb_M_sync 41 = .ok (.aload_n 0, 1) := by decide +kernel
theorem zd_M_sync_42 : decode zb_M_sync 42 = .ok (.getfield 36, 3) := by decide +kernel
theorem zd_M_sync_45 : decode zb_M_sync 45 = .ok (.iload_n 1, 1) := by decide +kernel
theorem zd_M_sync_46 : decode zb_M_sync 46 = .ok (.aload_n 0, 1) := by decide +kernel
theorem zd_M_sync_47 : decode zb_M_sync 47 = .ok (.getfield 20, 3) := by decide +kernel
theorem zd_M_sync_50 : decode zb_M_sync 50 = .ok (.iload_n 1, 1) := by decide +kernel
theorem zd_M_sync_51 : decode zb_M_sync 51 = .ok (.iaload, 1) := by decide +kernel
theorem zd_M_sync_52 : decode zb_M_sync 52 = .ok (.iastore, 1) := by decide +kernel
theorem zd_M_sync_53 : decode zb_M_sync 53 = .ok (.aload_n 0, 1) := by decide +kernel
theorem zd_M_sync_54 : decode zb_M_sync 54 = .ok (.getfield 39, 3) := by decide +kernel
theorem zd_M_sync_57 : decode zb_M_sync 57 = .ok (.iload_n 1, 1) := by decide +kernel
theorem zd_M_sync_58 : decode zb_M_sync 58 = .ok (.aload_n 0, 1) := by decide +kernel
theorem zd_M_sync_59 : decode zb_M_sync 59 = .ok (.getfield 23, 3) := by decide +kernel
theorem zd_M_sync_62 : decode zb_M_sync 62 = .ok (.iload_n 1, 1) := by decide +kernel
theorem zd_M_sync_63 : decode zb_M_sync 63 = .ok (.baload, 1) := by decide +kernel
theorem zd_M_sync_64 : decode zb_M_sync 64 = .ok (.bastore, 1) := by decide +kernel
theorem zd_M_sync_65 : decode zb_M_sync 65 = .ok (.iinc 1 1, 3) := by decide +kernel
theorem zd_M_sync_68 : decode zb_M_sync 68 = .ok (.goto (-57), 3) := by decide +kernel
theorem zd_M_sync_71 : decode zb_M_sync 71 = .ok (.iconst 0, 1) := by decide +kernel
theorem zd_M_sync_72 : decode zb_M_sync 72 = .ok (.istore_n 1, 1) := by decide +kernel
theorem zd_M_sync_73 : decode zb_M_sync 73 = .ok (.iload_n 1, 1) := by decide +kernel
theorem zd_M_sync_74 : decode zb_M_sync 74 = .ok (.sipush 1536, 3) := by decide +kernel
theorem zd_M_sync_77 : decode zb_M_sync 77 = .ok (.if_icmp .ge 21, 3) := by decide +kernel
theorem zd_M_sync_80 : decode zb_M_sync 80 = .ok (.aload_n 0, 1) := by decide +kernel
theorem zd_M_sync_81 : decode zb_M_sync 81 = .ok (.getfield 42, 3) := by decide +kernel
theorem zd_M_sync_84 : decode zb_M_sync 84 = .ok (.iload_n 1, 1) := by decide +kernel
theorem zd_M_sync_85 : decode zb_M_sync 85 = .ok (.aload_n 0, 1) := by decide +kernel
theorem zd_M_sync_86 : decode zb_M_sync 86 = .ok (.getfield 27, 3) := by decide +kernel
theorem zd_M_sync_89 : decode zb_M_sync 89 = .ok (.iload_n 1, 1) := by decide +kernel
theorem zd_M_sync_90 : decode zb_M_sync 90 = .ok (.iaload, 1) := by decide +kernel
theorem zd_M_sync_91 : decode zb_M_sync 91 = .ok (.iastore, 1) := by decide +kernel
theorem zd_M_sync_92 : decode zb_M_sync 92 = .ok (.iinc 1 1, 3) := by decide +kernel
theorem zd_M_sync_95 : decode zb_M_sync 95 = .ok (.goto (-22), 3) := by decide +kernel
theorem zd_M_sync_98 : decode zb_M_sync 98 = .ok (.iconst 1, 1) := by decide +kernel
theorem zd_M_sync_99 : decode zb_M_sync 99 = .ok (.ireturn, 1) := by decide +kernel
theorem zd_M_tear_0 : decode zb_M_tear 0 = .ok (.aload_n 0, 1) := by decide +kernel
theorem zd_M_tear_1 : decode zb_M_tear 1 = .ok (.invokevirtual 64, 3) := by decide +kernel
theorem zd_M_tear_4 : decode zb_M_tear 4 = .ok (.ireturn, 1) := by decide +kernel
theorem zd_M_cut_0 : decode zb_M_cut 0 = .ok (.aload_n 0, 1) := by decide +kernel
theorem zd_M_cut_1 : decode zb_M_cut 1 = .ok (.getfield 7, 3) := by decide +kernel
theorem zd_M_cut_4 : decode zb_M_cut 4 = .ok (.istore_n 1, 1) := by decide +kernel
theorem zd_M_cut_5 : decode zb_M_cut 5 = .ok (.aload_n 0, 1) := by decide +kernel
theorem zd_M_cut_6 : decode zb_M_cut 6 = .ok (.iconst 0, 1) := by decide +kernel
theorem zd_M_cut_7 : decode zb_M_cut 7 = .ok (.putfield 7, 3) := by decide +kernel
theorem zd_M_cut_10 : decode zb_M_cut 10 = .ok (.iload_n 1, 1) := by decide +kernel
theorem zd_M_cut_11 : decode zb_M_cut 11 = .ok (.ireturn, 1) := by decide +kernel
theorem zd_M_mount_0 : decode zb_M_mount 0 = .ok (.aload_n 0, 1) := by decide +kernel
theorem zd_M_mount_1 : decode zb_M_mount 1 = .ok (.getfield 7, 3) := by decide +kernel
theorem zd_M_mount_4 : decode zb_M_mount 4 = .ok (.ifCond .eq 5, 3) := by decide +kernel
theorem zd_M_mount_7 : decode zb_M_mount 7 = .ok (.iconst 0, 1) := by decide +kernel
theorem zd_M_mount_8 : decode zb_M_mount 8 = .ok (.ireturn, 1) := by decide +kernel
theorem zd_M_mount_9 : decode zb_M_mount 9 = .ok (.iconst 0, 1) := by decide +kernel
theorem zd_M_mount_10 : decode zb_M_mount 10 = .ok (.istore_n 1, 1) := by decide +kernel
theorem zd_M_mount_11 : decode zb_M_mount 11 = .ok (.iload_n 1, 1) := by decide +kernel
theorem zd_M_mount_12 : decode zb_M_mount 12 = .ok (.bipush 24, 2) := by decide +kernel
theorem zd_M_mount_14 : decode zb_M_mount 14 = .ok (.if_icmp .ge 57, 3) := by decide +kernel
theorem zd_M_mount_17 : decode zb_M_mount 17 = .ok (.aload_n 0, 1) := by decide +kernel
theorem zd_M_mount_18 : decode zb_M_mount 18 = .ok (.getfield 13, 3) := by decide +kernel
theorem zd_M_mount_21 : decode zb_M_mount 21 = .ok (.iload_n 1, 1) := by decide +kernel
theorem zd_M_mount_22 : decode zb_M_mount 22 = .ok (.aload_n 0, 1) := by decide +kernel
theorem zd_M_mount_23 : decode zb_M_mount 23 = .ok (.getfield 30, 3) := by decide +kernel
theorem zd_M_mount_26 : decode zb_M_mount 26 = .ok (.iload_n 1, 1) := by decide +kernel
theorem zd_M_mount_27 : decode zb_M_mount 27 = .ok (.iaload, 1) := by decide +kernel
theorem zd_M_mount_28 : decode zb_M_mount 28 = .ok (.iastore, 1) := by decide +kernel
theorem zd_M_mount_29 : decode zb_M_mount 29 = .ok (.aload_n 0, 1) := by decide +kernel
theorem zd_M_mount_30 : decode zb_M_mount 30 = .ok (.getfield 17, 3) := by decide +kernel
theorem zd_M_mount_33 : decode zb_M_mount 33 = .ok (.iload_n 1, 1) := by decide +kernel
theorem zd_M_mount_34 : decode zb_M_mount 34 = .ok (.aload_n 0, 1) := by decide +kernel
theorem zd_M_mount_35 : decode zb_M_mount 35 = .ok (.getfield 33, 3) := by decide +kernel
theorem zd_M_mount_38 : decode zb_M_mount 38 = .ok (.iload_n 1, 1) := by decide +kernel
theorem zd_M_mount_39 : decode zb_M_mount 39 = .ok (.iaload, 1) := by decide +kernel
theorem zd_M_mount_40 : decode zb_M_mount 40 = .ok (.iastore, 1) := by decide +kernel
theorem zd_M_mount_41 : decode zb_M_mount 41 = .ok (.aload_n 0, 1) := by decide +kernel
theorem zd_M_mount_42 : decode zb_M_mount 42 = .ok (.getfield 20, 3) := by decide +kernel
theorem zd_M_mount_45 : decode zb_M_mount 45 = .ok (.iload_n 1, 1) := by decide +kernel
theorem zd_M_mount_46 : decode zb_M_mount 46 = .ok (.aload_n 0, 1) := by decide +kernel
theorem zd_M_mount_47 : decode zb_M_mount 47 = .ok (.getfield 36, 3) := by decide +kernel
theorem zd_M_mount_50 : decode zb_M_mount 50 = .ok (.iload_n 1, 1) := by decide +kernel
theorem zd_M_mount_51 : decode zb_M_mount 51 = .ok (.iaload, 1) := by decide +kernel
theorem zd_M_mount_52 : decode zb_M_mount 52 = .ok (.iastore, 1) := by decide +kernel
theorem zd_M_mount_53 : decode zb_M_mount 53 = .ok (.aload_n 0, 1) := by decide +kernel
theorem zd_M_mount_54 : decode zb_M_mount 54 = .ok (.getfield 23, 3) := by decide +kernel
theorem zd_M_mount_57 : decode zb_M_mount 57 = .ok (.iload_n 1, 1) := by decide +kernel
theorem zd_M_mount_58 : decode zb_M_mount 58 = .ok (.aload_n 0, 1) := by decide +kernel
theorem zd_M_mount_59 : decode zb_M_mount 59 = .ok (.getfield 39, 3) := by decide +kernel
theorem zd_M_mount_62 : decode zb_M_mount 62 = .ok (.iload_n 1, 1) := by decide +kernel
theorem zd_M_mount_63 : decode zb_M_mount 63 = .ok (.baload, 1) := by decide +kernel
theorem zd_M_mount_64 : decode zb_M_mount 64 = .ok (.bastore, 1) := by decide +kernel
theorem zd_M_mount_65 : decode zb_M_mount 65 = .ok (.iinc 1 1, 3) := by decide +kernel
theorem zd_M_mount_68 : decode zb_M_mount 68 = .ok (.goto (-57), 3) := by decide +kernel
theorem zd_M_mount_71 : decode zb_M_mount 71 = .ok (.iconst 0, 1) := by decide +kernel
theorem zd_M_mount_72 : decode zb_M_mount 72 = .ok (.istore_n 1, 1) := by decide +kernel
theorem zd_M_mount_73 : decode zb_M_mount 73 = .ok (.iload_n 1, 1) := by decide +kernel
theorem zd_M_mount_74 : decode zb_M_mount 74 = .ok (.sipush 1536, 3) := by decide +kernel
theorem zd_M_mount_77 : decode zb_M_mount 77 = .ok (.if_icmp .ge 21, 3) := by decide +kernel
theorem zd_M_mount_80 : decode zb_M_mount 80 = .ok (.aload_n 0, 1) := by decide +kernel
theorem zd_M_mount_81 : decode zb_M_mount 81 = .ok (.getfield 27, 3) := by decide +kernel
theorem zd_M_mount_84 : decode zb_M_mount 84 = .ok (.iload_n 1, 1) := by decide +kernel
theorem zd_M_mount_85 : decode zb_M_mount 85 = .ok (.aload_n 0, 1) := by decide +kernel
theorem zd_M_mount_86 : decode zb_M_mount 86 = .ok (.getfield 42, 3) := by decide +kernel
theorem zd_M_mount_89 : decode zb_M_mount 89 = .ok (.iload_n 1, 1) := by decide +kernel
theorem zd_M_mount_90 : decode zb_M_mount 90 = .ok (.iaload, 1) := by decide +kernel
theorem zd_M_mount_91 : decode zb_M_mount 91 = .ok (.iastore, 1) := by decide +kernel
theorem zd_M_mount_92 : decode zb_M_mount 92 = .ok (.iinc 1 1, 3) := by decide +kernel
theorem zd_M_mount_95 : decode zb_M_mount 95 = .ok (.goto (-22), 3) := by decide +kernel
theorem zd_M_mount_98 : decode zb_M_mount 98 = .ok (.aload_n 0, 1) := by decide +kernel
theorem zd_M_mount_99 : decode zb_M_mount 99 = .ok (.iconst 1, 1) := by decide +kernel
theorem zd_M_mount_100 : decode zb_M_mount 100 = .ok (.putfield 7, 3) := by decide +kernel
theorem zd_M_mount_103 : decode zb_M_mount 103 = .ok (.iconst 1, 1) := by decide +kernel
theorem zd_M_mount_104 : decode zb_M_mount 104 = .ok (.ireturn, 1) := by decide +kernel
theorem zd_M_tidy_0 : decode zb_M_tidy 0 = .ok (.aload_n 0, 1) := by decide +kernel
theorem zd_M_tidy_1 : decode zb_M_tidy 1 = .ok (.getfield 7, 3) := by decide +kernel
theorem zd_M_tidy_4 : decode zb_M_tidy 4 = .ok (.ireturn, 1) := by decide +kernel
theorem zd_M_isUp_0 : decode zb_M_isUp 0 = .ok (.aload_n 0, 1) := by decide +kernel
theorem zd_M_isUp_1 : decode zb_M_isUp 1 = .ok (.getfield 7, 3) := by decide +kernel
theorem zd_M_isUp_4 : decode zb_M_isUp 4 = .ok (.ireturn, 1) := by decide +kernel
theorem zd_M_objects_0 : decode zb_M_objects 0 = .ok (.iconst 0, 1) := by decide +kernel
theorem zd_M_objects_1 : decode zb_M_objects 1 = .ok (.istore_n 1, 1) := by decide +kernel
theorem zd_M_objects_2 : decode zb_M_objects 2 = .ok (.iconst 0, 1) := by decide +kernel
theorem zd_M_objects_3 : decode zb_M_objects 3 = .ok (.istore_n 2, 1) := by decide +kernel
theorem zd_M_objects_4 : decode zb_M_objects 4 = .ok (.iload_n 2, 1) := by decide +kernel
theorem zd_M_objects_5 : decode zb_M_objects 5 = .ok (.bipush 24, 2) := by decide +kernel
theorem zd_M_objects_7 : decode zb_M_objects 7 = .ok (.if_icmp .ge 25, 3) := by decide +kernel
theorem zd_M_objects_10 : decode zb_M_objects 10 = .ok (.iload_n 1, 1) := by decide +kernel
theorem zd_M_objects_11 : decode zb_M_objects 11 = .ok (.aload_n 0, 1) := by decide +kernel
theorem zd_M_objects_12 : decode zb_M_objects 12 = .ok (.iload_n 2, 1) := by decide +kernel
theorem zd_M_objects_13 : decode zb_M_objects 13 = .ok (.invokevirtual 49, 3) := by decide +kernel
theorem zd_M_objects_16 : decode zb_M_objects 16 = .ok (.ifCond .eq 7, 3) := by decide +kernel
theorem zd_M_objects_19 : decode zb_M_objects 19 = .ok (.iconst 1, 1) := by decide +kernel
theorem zd_M_objects_20 : decode zb_M_objects 20 = .ok (.goto 4, 3) := by decide +kernel
theorem zd_M_objects_23 : decode zb_M_objects 23 = .ok (.iconst 0, 1) := by decide +kernel
theorem zd_M_objects_24 : decode zb_M_objects 24 = .ok (.iadd, 1) := by decide +kernel
theorem zd_M_objects_25 : decode zb_M_objects 25 = .ok (.istore_n 1, 1) := by decide +kernel
theorem zd_M_objects_26 : decode zb_M_objects 26 = .ok (.iinc 2 1, 3) := by decide +kernel
theorem zd_M_objects_29 : decode zb_M_objects 29 = .ok (.goto (-25), 3) := by decide +kernel
theorem zd_M_objects_32 : decode zb_M_objects 32 = .ok (.iload_n 1, 1) := by decide +kernel
theorem zd_M_objects_33 : decode zb_M_objects 33 = .ok (.ireturn, 1) := by decide +kernel
theorem zd_M_room_0 : decode zb_M_room 0 = .ok (.aload_n 0, 1) := by decide +kernel
theorem zd_M_room_1 : decode zb_M_room 1 = .ok (.getfield 7, 3) := by decide +kernel
theorem zd_M_room_4 : decode zb_M_room 4 = .ok (.ifCond .eq 10, 3) := by decide +kernel
theorem zd_M_room_7 : decode zb_M_room 7 = .ok (.aload_n 0, 1) := by decide +kernel
theorem zd_M_room_8 : decode zb_M_room 8 = .ok (.invokevirtual 60, 3) := by decide +kernel
theorem zd_M_room_11 : decode zb_M_room 11 = .ok (.goto 4, 3) := by decide +kernel
theorem zd_M_room_14 : decode zb_M_room 14 = .ok (.iconst 0, 1) := by decide +kernel
theorem zd_M_room_15 : decode zb_M_room 15 = .ok (.ireturn, 1) := by decide +kernel
theorem zd_M_object_0 : decode zb_M_object 0 = .ok (.aload_n 0, 1) := by decide +kernel
theorem zd_M_object_1 : decode zb_M_object 1 = .ok (.iload_n 1, 1) := by decide +kernel
theorem zd_M_object_2 : decode zb_M_object 2 = .ok (.invokevirtual 49, 3) := by decide +kernel
theorem zd_M_object_5 : decode zb_M_object 5 = .ok (.ifCond .ne 5, 3) := by decide +kernel
theorem zd_M_object_8 : decode zb_M_object 8 = .ok (.iconst (-1), 1) := by decide +kernel
theorem zd_M_object_9 : decode zb_M_object 9 = .ok (.ireturn, 1) := by decide +kernel
theorem zd_M_object_10 : decode zb_M_object 10 = .ok (.iload_n 2, 1) := by decide +kernel
theorem zd_M_object_11 : decode zb_M_object 11 = .ok (.tableswitch 67 0 3 #[29, 38, 45, 52], 29) := by decide +kernel
theorem zd_M_object_40 : decode zb_M_object 40 = .ok (.aload_n 0, 1) := by decide +kernel
theorem zd_M_object_41 : decode zb_M_object 41 = .ok (.getfield 13, 3) := by decide +kernel
theorem zd_M_object_44 : decode zb_M_object 44 = .ok (.iload_n 1, 1) := by decide +kernel
theorem zd_M_object_45 : decode zb_M_object 45 = .ok (.iaload, 1) := by decide +kernel
theorem zd_M_object_46 : decode zb_M_object 46 = .ok (.iconst 1, 1) := by decide +kernel
theorem zd_M_object_47 : decode zb_M_object 47 = .ok (.isub, 1) := by decide +kernel
theorem zd_M_object_48 : decode zb_M_object 48 = .ok (.ireturn, 1) := by decide +kernel
theorem zd_M_object_49 : decode zb_M_object 49 = .ok (.aload_n 0, 1) := by decide +kernel
theorem zd_M_object_50 : decode zb_M_object 50 = .ok (.getfield 17, 3) := by decide +kernel
theorem zd_M_object_53 : decode zb_M_object 53 = .ok (.iload_n 1, 1) := by decide +kernel
theorem zd_M_object_54 : decode zb_M_object 54 = .ok (.iaload, 1) := by decide +kernel
theorem zd_M_object_55 : decode zb_M_object 55 = .ok (.ireturn, 1) := by decide +kernel
theorem zd_M_object_56 : decode zb_M_object 56 = .ok (.aload_n 0, 1) := by decide +kernel
theorem zd_M_object_57 : decode zb_M_object 57 = .ok (.getfield 20, 3) := by decide +kernel
theorem zd_M_object_60 : decode zb_M_object 60 = .ok (.iload_n 1, 1) := by decide +kernel
theorem zd_M_object_61 : decode zb_M_object 61 = .ok (.iaload, 1) := by decide +kernel
theorem zd_M_object_62 : decode zb_M_object 62 = .ok (.ireturn, 1) := by decide +kernel
theorem zd_M_object_63 : decode zb_M_object 63 = .ok (.aload_n 0, 1) := by decide +kernel
theorem zd_M_object_64 : decode zb_M_object 64 = .ok (.getfield 23, 3) := by decide +kernel
theorem zd_M_object_67 : decode zb_M_object 67 = .ok (.iload_n 1, 1) := by decide +kernel
theorem zd_M_object_68 : decode zb_M_object 68 = .ok (.baload, 1) := by decide +kernel
theorem zd_M_object_69 : decode zb_M_object 69 = .ok (.ifCond .eq 7, 3) := by decide +kernel
theorem zd_M_object_72 : decode zb_M_object 72 = .ok (.iconst 1, 1) := by decide +kernel
theorem zd_M_object_73 : decode zb_M_object 73 = .ok (.goto 4, 3) := by decide +kernel
theorem zd_M_object_76 : decode zb_M_object 76 = .ok (.iconst 0, 1) := by decide +kernel
theorem zd_M_object_77 : decode zb_M_object 77 = .ok (.ireturn, 1) := by decide +kernel
theorem zd_M_object_78 : decode zb_M_object 78 = .ok (.iconst (-1), 1) := by decide +kernel
theorem zd_M_object_79 : decode zb_M_object 79 = .ok (.ireturn, 1) := by decide +kernel
theorem zd_M_word_0 : decode zb_M_word 0 = .ok (.aload_n 0, 1) := by decide +kernel
theorem zd_M_word_1 : decode zb_M_word 1 = .ok (.iload_n 1, 1) := by decide +kernel
theorem zd_M_word_2 : decode zb_M_word 2 = .ok (.invokevirtual 49, 3) := by decide +kernel
theorem zd_M_word_5 : decode zb_M_word 5 = .ok (.ifCond .eq 31, 3) := by decide +kernel
theorem zd_M_word_8 : decode zb_M_word 8 = .ok (.iload_n 2, 1) := by decide +kernel
theorem zd_M_word_9 : decode zb_M_word 9 = .ok (.ifCond .lt 27, 3) := by decide +kernel
theorem zd_M_word_12 : decode zb_M_word 12 = .ok (.iload_n 2, 1) := by decide +kernel
theorem zd_M_word_13 : decode zb_M_word 13 = .ok (.aload_n 0, 1) := by decide +kernel
theorem zd_M_word_14 : decode zb_M_word 14 = .ok (.getfield 20, 3) := by decide +kernel
theorem zd_M_word_17 : decode zb_M_word 17 = .ok (.iload_n 1, 1) := by decide +kernel
theorem zd_M_word_18 : decode zb_M_word 18 = .ok (.iaload, 1) := by decide +kernel
theorem zd_M_word_19 : decode zb_M_word 19 = .ok (.if_icmp .ge 17, 3) := by decide +kernel
theorem zd_M_word_22 : decode zb_M_word 22 = .ok (.aload_n 0, 1) := by decide +kernel
theorem zd_M_word_23 : decode zb_M_word 23 = .ok (.getfield 27, 3) := by decide +kernel
theorem zd_M_word_26 : decode zb_M_word 26 = .ok (.bipush 64, 2) := by decide +kernel
theorem zd_M_word_28 : decode zb_M_word 28 = .ok (.iload_n 1, 1) := by decide +kernel
theorem zd_M_word_29 : decode zb_M_word 29 = .ok (.imul, 1) := by decide +kernel
theorem zd_M_word_30 : decode zb_M_word 30 = .ok (.iload_n 2, 1) := by decide +kernel
theorem zd_M_word_31 : decode zb_M_word 31 = .ok (.iadd, 1) := by decide +kernel
theorem zd_M_word_32 : decode zb_M_word 32 = .ok (.iaload, 1) := by decide +kernel
theorem zd_M_word_33 : decode zb_M_word 33 = .ok (.goto 4, 3) := by decide +kernel
theorem zd_M_word_36 : decode zb_M_word 36 = .ok (.iconst 0, 1) := by decide +kernel
theorem zd_M_word_37 : decode zb_M_word 37 = .ok (.ireturn, 1) := by decide +kernel
theorem zd_M_find_0 : decode zb_M_find 0 = .ok (.aload_n 0, 1) := by decide +kernel
theorem zd_M_find_1 : decode zb_M_find 1 = .ok (.iload_n 1, 1) := by decide +kernel
theorem zd_M_find_2 : decode zb_M_find 2 = .ok (.invokevirtual 52, 3) := by decide +kernel
theorem zd_M_find_5 : decode zb_M_find 5 = .ok (.ireturn, 1) := by decide +kernel
theorem zd_M_list_0 : decode zb_M_list 0 = .ok (.iconst 0, 1) := by decide +kernel
theorem zd_M_list_1 : decode zb_M_list 1 = .ok (.istore_n 2, 1) := by decide +kernel
theorem zd_M_list_2 : decode zb_M_list 2 = .ok (.iload_n 2, 1) := by decide +kernel
theorem zd_M_list_3 : decode zb_M_list 3 = .ok (.bipush 24, 2) := by decide +kernel
theorem zd_M_list_5 : decode zb_M_list 5 = .ok (.if_icmp .ge 75, 3) := by decide +kernel
theorem zd_M_list_8 : decode zb_M_list 8 = .ok (.iconst 0, 1) := by decide +kernel
theorem zd_M_list_9 : decode zb_M_list 9 = .ok (.istore_n 3, 1) := by decide +kernel
theorem zd_M_list_10 : decode zb_M_list 10 = .ok (.iconst 0, 1) := by decide +kernel
theorem zd_M_list_11 : decode zb_M_list 11 = .ok (.istore 4, 2) := by decide +kernel
theorem zd_M_list_13 : decode zb_M_list 13 = .ok (.iload 4, 2) := by decide +kernel
theorem zd_M_list_15 : decode zb_M_list 15 = .ok (.bipush 24, 2) := by decide +kernel
theorem zd_M_list_17 : decode zb_M_list 17 = .ok (.if_icmp .ge 42, 3) := by decide +kernel
theorem zd_M_list_20 : decode zb_M_list 20 = .ok (.iload_n 3, 1) := by decide +kernel
theorem zd_M_list_21 : decode zb_M_list 21 = .ok (.aload_n 0, 1) := by decide +kernel
theorem zd_M_list_22 : decode zb_M_list 22 = .ok (.iload 4, 2) := by decide +kernel
theorem zd_M_list_24 : decode zb_M_list 24 = .ok (.invokevirtual 49, 3) := by decide +kernel
theorem zd_M_list_27 : decode zb_M_list 27 = .ok (.ifCond .eq 23, 3) := by decide +kernel
theorem zd_M_list_30 : decode zb_M_list 30 = .ok (.aload_n 0, 1) := by decide +kernel
theorem zd_M_list_31 : decode zb_M_list 31 = .ok (.getfield 13, 3) := by decide +kernel
theorem zd_M_list_34 : decode zb_M_list 34 = .ok (.iload 4, 2) := by decide +kernel
theorem zd_M_list_36 : decode zb_M_list 36 = .ok (.iaload, 1) := by decide +kernel
theorem zd_M_list_37 : decode zb_M_list 37 = .ok (.aload_n 0, 1) := by decide +kernel
theorem zd_M_list_38 : decode zb_M_list 38 = .ok (.getfield 13, 3) := by decide +kernel
theorem zd_M_list_41 : decode zb_M_list 41 = .ok (.iload_n 2, 1) := by decide +kernel
theorem zd_M_list_42 : decode zb_M_list 42 = .ok (.iaload, 1) := by decide +kernel
theorem zd_M_list_43 : decode zb_M_list 43 = .ok (.if_icmp .ge 7, 3) := by decide +kernel
theorem zd_M_list_46 : decode zb_M_list 46 = .ok (.iconst 1, 1) := by decide +kernel
theorem zd_M_list_47 : decode zb_M_list 47 = .ok (.goto 4, 3) := by decide +kernel
theorem zd_M_list_50 : decode zb_M_list 50 = .ok (.iconst 0, 1) := by decide +kernel
theorem zd_M_list_51 : decode zb_M_list 51 = .ok (.iadd, 1) := by decide +kernel
theorem zd_M_list_52 : decode zb_M_list 52 = .ok (.istore_n 3, 1) := by decide +kernel
theorem zd_M_list_53 : decode zb_M_list 53 = .ok (.iinc 4 1, 3) := by decide +kernel
theorem zd_M_list_56 : decode zb_M_list 56 = .ok (.goto (-43), 3) := by decide +kernel
theorem zd_M_list_59 : decode zb_M_list 59 = .ok (.aload_n 0, 1) := by decide +kernel
theorem zd_M_list_60 : decode zb_M_list 60 = .ok (.iload_n 2, 1) := by decide +kernel
theorem zd_M_list_61 : decode zb_M_list 61 = .ok (.invokevirtual 49, 3) := by decide +kernel
theorem zd_M_list_64 : decode zb_M_list 64 = .ok (.ifCond .eq 10, 3) := by decide +kernel
theorem zd_M_list_67 : decode zb_M_list 67 = .ok (.iload_n 3, 1) := by decide +kernel
theorem zd_M_list_68 : decode zb_M_list 68 = .ok (.iload_n 1, 1) := by decide +kernel
theorem zd_M_list_69 : decode zb_M_list 69 = .ok (.if_icmp .ne 5, 3) := by decide +kernel
theorem zd_M_list_72 : decode zb_M_list 72 = .ok (.iload_n 2, 1) := by decide +kernel
theorem zd_M_list_73 : decode zb_M_list 73 = .ok (.ireturn, 1) := by decide +kernel
theorem zd_M_list_74 : decode zb_M_list 74 = .ok (.iinc 2 1, 3) := by decide +kernel
theorem zd_M_list_77 : decode zb_M_list 77 = .ok (.goto (-75), 3) := by decide +kernel
theorem zd_M_list_80 : decode zb_M_list 80 = .ok (.iconst (-1), 1) := by decide +kernel
theorem zd_M_list_81 : decode zb_M_list 81 = .ok (.ireturn, 1) := by decide +kernel
end
section
theorem zd_L_law_0 : decode code 0 = .ok (.new 7, 3) := by decide +kernel
theorem zd_L_law_3 : decode code 3 = .ok (.dup, 1) := by decide +kernel
theorem zd_L_law_4 : decode code 4 = .ok (.invokespecial 9, 3) := by decide +kernel
theorem zd_L_law_7 : decode code 7 = .ok (.astore_n 1, 1) := by decide +kernel
theorem zd_L_law_8 : decode code 8 = .ok (.new 10, 3) := by decide +kernel
theorem zd_L_law_11 : decode code 11 = .ok (.dup, 1) := by decide +kernel
theorem zd_L_law_12 : decode code 12 = .ok (.invokespecial 12, 3) := by decide +kernel
theorem zd_L_law_15 : decode code 15 = .ok (.astore_n 2, 1) := by decide +kernel
theorem zd_L_law_16 : decode code 16 = .ok (.iconst 0, 1) := by decide +kernel
theorem zd_L_law_17 : decode code 17 = .ok (.istore_n 3, 1) := by decide +kernel
theorem zd_L_law_18 : decode code 18 = .ok (.iload_n 3, 1) := by decide +kernel
theorem zd_L_law_19 : decode code 19 = .ok (.aload_n 0, 1) := by decide +kernel
theorem zd_L_law_20 : decode code 20 = .ok (.arraylength, 1) := by decide +kernel
theorem zd_L_law_21 : decode code 21 = .ok (.iconst 4, 1) := by decide +kernel
theorem zd_L_law_22 : decode code 22 = .ok (.isub, 1) := by decide +kernel
theorem zd_L_law_23 : decode code 23 = .ok (.if_icmp .gt 533, 3) := by decide +kernel
theorem zd_L_law_26 : decode code 26 = .ok (.aload_n 0, 1) := by decide +kernel
theorem zd_L_law_27 : decode code 27 = .ok (.iload_n 3, 1) := by decide +kernel
theorem zd_L_law_28 : decode code 28 = .ok (.iaload, 1) := by decide +kernel
theorem zd_L_law_29 : decode code 29 = .ok (.bipush 31, 2) := by decide +kernel
theorem zd_L_law_31 : decode code 31 = .ok (.iand, 1) := by decide +kernel
theorem zd_L_law_32 : decode code 32 = .ok (.tableswitch 518 0 17 #[88, 121, 154, 197, 246, 269, 302, 315, 328, 341, 354, 367, 380, 393, 406, 439, 472, 495], 88) := by decide +kernel
theorem zd_L_law_120 : decode code 120 = .ok (.aload_n 1, 1) := by decide +kernel
theorem zd_L_law_121 : decode code 121 = .ok (.aload_n 0, 1) := by decide +kernel
theorem zd_L_law_122 : decode code 122 = .ok (.iload_n 3, 1) := by decide +kernel
theorem zd_L_law_123 : decode code 123 = .ok (.iconst 1, 1) := by decide +kernel
theorem zd_L_law_124 : decode code 124 = .ok (.iadd, 1) := by decide +kernel
theorem zd_L_law_125 : decode code 125 = .ok (.iaload, 1) := by decide +kernel
theorem zd_L_law_126 : decode code 126 = .ok (.aload_n 0, 1) := by decide +kernel
theorem zd_L_law_127 : decode code 127 = .ok (.iload_n 3, 1) := by decide +kernel
theorem zd_L_law_128 : decode code 128 = .ok (.iconst 2, 1) := by decide +kernel
theorem zd_L_law_129 : decode code 129 = .ok (.iadd, 1) := by decide +kernel
theorem zd_L_law_130 : decode code 130 = .ok (.iaload, 1) := by decide +kernel
theorem zd_L_law_131 : decode code 131 = .ok (.invokevirtual 13, 3) := by decide +kernel
theorem zd_L_law_134 : decode code 134 = .ok (.aload_n 2, 1) := by decide +kernel
theorem zd_L_law_135 : decode code 135 = .ok (.aload_n 0, 1) := by decide +kernel
theorem zd_L_law_136 : decode code 136 = .ok (.iload_n 3, 1) := by decide +kernel
theorem zd_L_law_137 : decode code 137 = .ok (.iconst 1, 1) := by decide +kernel
theorem zd_L_law_138 : decode code 138 = .ok (.iadd, 1) := by decide +kernel
theorem zd_L_law_139 : decode code 139 = .ok (.iaload, 1) := by decide +kernel
theorem zd_L_law_140 : decode code 140 = .ok (.aload_n 0, 1) := by decide +kernel
theorem zd_L_law_141 : decode code 141 = .ok (.iload_n 3, 1) := by decide +kernel
theorem zd_L_law_142 : decode code 142 = .ok (.iconst 2, 1) := by decide +kernel
theorem zd_L_law_143 : decode code 143 = .ok (.iadd, 1) := by decide +kernel
theorem zd_L_law_144 : decode code 144 = .ok (.iaload, 1) := by decide +kernel
theorem zd_L_law_145 : decode code 145 = .ok (.invokevirtual 17, 3) := by decide +kernel
theorem zd_L_law_148 : decode code 148 = .ok (.if_icmp .eq 402, 3) := by decide +kernel
theorem zd_L_law_151 : decode code 151 = .ok (.iconst 0, 1) := by decide +kernel
theorem zd_L_law_152 : decode code 152 = .ok (.ireturn, 1) := by decide +kernel
theorem zd_L_law_153 : decode code 153 = .ok (.aload_n 1, 1) := by decide +kernel
theorem zd_L_law_154 : decode code 154 = .ok (.aload_n 0, 1) := by decide +kernel
theorem zd_L_law_155 : decode code 155 = .ok (.iload_n 3, 1) := by decide +kernel
theorem zd_L_law_156 : decode code 156 = .ok (.iconst 1, 1) := by decide +kernel
theorem zd_L_law_157 : decode code 157 = .ok (.iadd, 1) := by decide +kernel
theorem zd_L_law_158 : decode code 158 = .ok (.iaload, 1) := by decide +kernel
theorem zd_L_law_159 : decode code 159 = .ok (.aload_n 0, 1) := by decide +kernel
theorem zd_L_law_160 : decode code 160 = .ok (.iload_n 3, 1) := by decide +kernel
theorem zd_L_law_161 : decode code 161 = .ok (.iconst 2, 1) := by decide +kernel
theorem zd_L_law_162 : decode code 162 = .ok (.iadd, 1) := by decide +kernel
theorem zd_L_law_163 : decode code 163 = .ok (.iaload, 1) := by decide +kernel
theorem zd_L_law_164 : decode code 164 = .ok (.invokevirtual 18, 3) := by decide +kernel
theorem zd_L_law_167 : decode code 167 = .ok (.aload_n 2, 1) := by decide +kernel
theorem zd_L_law_168 : decode code 168 = .ok (.aload_n 0, 1) := by decide +kernel
theorem zd_L_law_169 : decode code 169 = .ok (.iload_n 3, 1) := by decide +kernel
theorem zd_L_law_170 : decode code 170 = .ok (.iconst 1, 1) := by decide +kernel
theorem zd_L_law_171 : decode code 171 = .ok (.iadd, 1) := by decide +kernel
theorem zd_L_law_172 : decode code 172 = .ok (.iaload, 1) := by decide +kernel
theorem zd_L_law_173 : decode code 173 = .ok (.aload_n 0, 1) := by decide +kernel
theorem zd_L_law_174 : decode code 174 = .ok (.iload_n 3, 1) := by decide +kernel
theorem zd_L_law_175 : decode code 175 = .ok (.iconst 2, 1) := by decide +kernel
theorem zd_L_law_176 : decode code 176 = .ok (.iadd, 1) := by decide +kernel
theorem zd_L_law_177 : decode code 177 = .ok (.iaload, 1) := by decide +kernel
theorem zd_L_law_178 : decode code 178 = .ok (.invokevirtual 22, 3) := by decide +kernel
theorem zd_L_law_181 : decode code 181 = .ok (.if_icmp .eq 369, 3) := by decide +kernel
theorem zd_L_law_184 : decode code 184 = .ok (.iconst 0, 1) := by decide +kernel
theorem zd_L_law_185 : decode code 185 = .ok (.ireturn, 1) := by decide +kernel
theorem zd_L_law_186 : decode code 186 = .ok (.aload_n 1, 1) := by decide +kernel
theorem zd_L_law_187 : decode code 187 = .ok (.aload_n 0, 1) := by decide +kernel
theorem zd_L_law_188 : decode code 188 = .ok (.iload_n 3, 1) := by decide +kernel
theorem zd_L_law_189 : decode code 189 = .ok (.iconst 1, 1) := by decide +kernel
theorem zd_L_law_190 : decode code 190 = .ok (.iadd, 1) := by decide +kernel
theorem zd_L_law_191 : decode code 191 = .ok (.iaload, 1) := by decide +kernel
theorem zd_L_law_192 : decode code 192 = .ok (.aload_n 0, 1) := by decide +kernel
theorem zd_L_law_193 : decode code 193 = .ok (.iload_n 3, 1) := by decide +kernel
theorem zd_L_law_194 : decode code 194 = .ok (.iconst 2, 1) := by decide +kernel
theorem zd_L_law_195 : decode code 195 = .ok (.iadd, 1) := by decide +kernel
theorem zd_L_law_196 : decode code 196 = .ok (.iaload, 1) := by decide +kernel
theorem zd_L_law_197 : decode code 197 = .ok (.aload_n 0, 1) := by decide +kernel
theorem zd_L_law_198 : decode code 198 = .ok (.iload_n 3, 1) := by decide +kernel
theorem zd_L_law_199 : decode code 199 = .ok (.iconst 3, 1) := by decide +kernel
end
section
theorem zd_L_law_200 : decode code 200 = .ok (.iadd, 1) := by decide +kernel
theorem zd_L_law_201 : decode code 201 = .ok (.iaload, 1) := by decide +kernel
theorem zd_L_law_202 : decode code 202 = .ok (.invokevirtual 23, 3) := by decide +kernel
theorem zd_L_law_205 : decode code 205 = .ok (.aload_n 2, 1) := by decide +kernel
theorem zd_L_law_206 : decode code 206 = .ok (.aload_n 0, 1) := by decide +kernel
theorem zd_L_law_207 : decode code 207 = .ok (.iload_n 3, 1) := by decide +kernel
theorem zd_L_law_208 : decode code 208 = .ok (.iconst 1, 1) := by decide +kernel
theorem zd_L_law_209 : decode code 209 = .ok (.iadd, 1) := by decide +kernel
theorem zd_L_law_210 : decode code 210 = .ok (.iaload, 1) := by decide +kernel
theorem zd_L_law_211 : decode code 211 = .ok (.aload_n 0, 1) := by decide +kernel
theorem zd_L_law_212 : decode code 212 = .ok (.iload_n 3, 1) := by decide +kernel
theorem zd_L_law_213 : decode code 213 = .ok (.iconst 2, 1) := by decide +kernel
theorem zd_L_law_214 : decode code 214 = .ok (.iadd, 1) := by decide +kernel
theorem zd_L_law_215 : decode code 215 = .ok (.iaload, 1) := by decide +kernel
theorem zd_L_law_216 : decode code 216 = .ok (.aload_n 0, 1) := by decide +kernel
theorem zd_L_law_217 : decode code 217 = .ok (.iload_n 3, 1) := by decide +kernel
theorem zd_L_law_218 : decode code 218 = .ok (.iconst 3, 1) := by decide +kernel
theorem zd_L_law_219 : decode code 219 = .ok (.iadd, 1) := by decide +kernel
theorem zd_L_law_220 : decode code 220 = .ok (.iaload, 1) := by decide +kernel
theorem zd_L_law_221 : decode code 221 = .ok (.invokevirtual 27, 3) := by decide +kernel
theorem zd_L_law_224 : decode code 224 = .ok (.if_icmp .eq 326, 3) := by decide +kernel
theorem zd_L_law_227 : decode code 227 = .ok (.iconst 0, 1) := by decide +kernel
theorem zd_L_law_228 : decode code 228 = .ok (.ireturn, 1) := by decide +kernel
theorem zd_L_law_229 : decode code 229 = .ok (.aload_n 1, 1) := by decide +kernel
theorem zd_L_law_230 : decode code 230 = .ok (.aload_n 0, 1) := by decide +kernel
theorem zd_L_law_231 : decode code 231 = .ok (.iload_n 3, 1) := by decide +kernel
theorem zd_L_law_232 : decode code 232 = .ok (.iconst 1, 1) := by decide +kernel
theorem zd_L_law_233 : decode code 233 = .ok (.iadd, 1) := by decide +kernel
theorem zd_L_law_234 : decode code 234 = .ok (.iaload, 1) := by decide +kernel
theorem zd_L_law_235 : decode code 235 = .ok (.aload_n 0, 1) := by decide +kernel
theorem zd_L_law_236 : decode code 236 = .ok (.iload_n 3, 1) := by decide +kernel
theorem zd_L_law_237 : decode code 237 = .ok (.iconst 2, 1) := by decide +kernel
theorem zd_L_law_238 : decode code 238 = .ok (.iadd, 1) := by decide +kernel
theorem zd_L_law_239 : decode code 239 = .ok (.iaload, 1) := by decide +kernel
theorem zd_L_law_240 : decode code 240 = .ok (.ifCond .eq 7, 3) := by decide +kernel
theorem zd_L_law_243 : decode code 243 = .ok (.iconst 1, 1) := by decide +kernel
theorem zd_L_law_244 : decode code 244 = .ok (.goto 4, 3) := by decide +kernel
theorem zd_L_law_247 : decode code 247 = .ok (.iconst 0, 1) := by decide +kernel
theorem zd_L_law_248 : decode code 248 = .ok (.invokevirtual 28, 3) := by decide +kernel
theorem zd_L_law_251 : decode code 251 = .ok (.aload_n 2, 1) := by decide +kernel
theorem zd_L_law_252 : decode code 252 = .ok (.aload_n 0, 1) := by decide +kernel
theorem zd_L_law_253 : decode code 253 = .ok (.iload_n 3, 1) := by decide +kernel
theorem zd_L_law_254 : decode code 254 = .ok (.iconst 1, 1) := by decide +kernel
theorem zd_L_law_255 : decode code 255 = .ok (.iadd, 1) := by decide +kernel
theorem zd_L_law_256 : decode code 256 = .ok (.iaload, 1) := by decide +kernel
theorem zd_L_law_257 : decode code 257 = .ok (.aload_n 0, 1) := by decide +kernel
theorem zd_L_law_258 : decode code 258 = .ok (.iload_n 3, 1) := by decide +kernel
theorem zd_L_law_259 : decode code 259 = .ok (.iconst 2, 1) := by decide +kernel
theorem zd_L_law_260 : decode code 260 = .ok (.iadd, 1) := by decide +kernel
theorem zd_L_law_261 : decode code 261 = .ok (.iaload, 1) := by decide +kernel
theorem zd_L_law_262 : decode code 262 = .ok (.ifCond .eq 7, 3) := by decide +kernel
theorem zd_L_law_265 : decode code 265 = .ok (.iconst 1, 1) := by decide +kernel
theorem zd_L_law_266 : decode code 266 = .ok (.goto 4, 3) := by decide +kernel
theorem zd_L_law_269 : decode code 269 = .ok (.iconst 0, 1) := by decide +kernel
theorem zd_L_law_270 : decode code 270 = .ok (.invokevirtual 32, 3) := by decide +kernel
theorem zd_L_law_273 : decode code 273 = .ok (.if_icmp .eq 277, 3) := by decide +kernel
theorem zd_L_law_276 : decode code 276 = .ok (.iconst 0, 1) := by decide +kernel
theorem zd_L_law_277 : decode code 277 = .ok (.ireturn, 1) := by decide +kernel
theorem zd_L_law_278 : decode code 278 = .ok (.aload_n 1, 1) := by decide +kernel
theorem zd_L_law_279 : decode code 279 = .ok (.aload_n 0, 1) := by decide +kernel
theorem zd_L_law_280 : decode code 280 = .ok (.iload_n 3, 1) := by decide +kernel
theorem zd_L_law_281 : decode code 281 = .ok (.iconst 1, 1) := by decide +kernel
theorem zd_L_law_282 : decode code 282 = .ok (.iadd, 1) := by decide +kernel
theorem zd_L_law_283 : decode code 283 = .ok (.iaload, 1) := by decide +kernel
theorem zd_L_law_284 : decode code 284 = .ok (.invokevirtual 33, 3) := by decide +kernel
theorem zd_L_law_287 : decode code 287 = .ok (.aload_n 2, 1) := by decide +kernel
theorem zd_L_law_288 : decode code 288 = .ok (.aload_n 0, 1) := by decide +kernel
theorem zd_L_law_289 : decode code 289 = .ok (.iload_n 3, 1) := by decide +kernel
theorem zd_L_law_290 : decode code 290 = .ok (.iconst 1, 1) := by decide +kernel
theorem zd_L_law_291 : decode code 291 = .ok (.iadd, 1) := by decide +kernel
theorem zd_L_law_292 : decode code 292 = .ok (.iaload, 1) := by decide +kernel
theorem zd_L_law_293 : decode code 293 = .ok (.invokevirtual 37, 3) := by decide +kernel
theorem zd_L_law_296 : decode code 296 = .ok (.if_icmp .eq 254, 3) := by decide +kernel
theorem zd_L_law_299 : decode code 299 = .ok (.iconst 0, 1) := by decide +kernel
theorem zd_L_law_300 : decode code 300 = .ok (.ireturn, 1) := by decide +kernel
theorem zd_L_law_301 : decode code 301 = .ok (.aload_n 1, 1) := by decide +kernel
theorem zd_L_law_302 : decode code 302 = .ok (.aload_n 0, 1) := by decide +kernel
theorem zd_L_law_303 : decode code 303 = .ok (.iload_n 3, 1) := by decide +kernel
theorem zd_L_law_304 : decode code 304 = .ok (.iconst 1, 1) := by decide +kernel
theorem zd_L_law_305 : decode code 305 = .ok (.iadd, 1) := by decide +kernel
theorem zd_L_law_306 : decode code 306 = .ok (.iaload, 1) := by decide +kernel
theorem zd_L_law_307 : decode code 307 = .ok (.aload_n 0, 1) := by decide +kernel
theorem zd_L_law_308 : decode code 308 = .ok (.iload_n 3, 1) := by decide +kernel
theorem zd_L_law_309 : decode code 309 = .ok (.iconst 2, 1) := by decide +kernel
theorem zd_L_law_310 : decode code 310 = .ok (.iadd, 1) := by decide +kernel
theorem zd_L_law_311 : decode code 311 = .ok (.iaload, 1) := by decide +kernel
theorem zd_L_law_312 : decode code 312 = .ok (.invokevirtual 38, 3) := by decide +kernel
theorem zd_L_law_315 : decode code 315 = .ok (.aload_n 2, 1) := by decide +kernel
theorem zd_L_law_316 : decode code 316 = .ok (.aload_n 0, 1) := by decide +kernel
theorem zd_L_law_317 : decode code 317 = .ok (.iload_n 3, 1) := by decide +kernel
end
section
theorem zd_L_law_318 : decode code 318 = .ok (.iconst 1, 1) := by decide +kernel
theorem zd_L_law_319 : decode code 319 = .ok (.iadd, 1) := by decide +kernel
theorem zd_L_law_320 : decode code 320 = .ok (.iaload, 1) := by decide +kernel
theorem zd_L_law_321 : decode code 321 = .ok (.aload_n 0, 1) := by decide +kernel
theorem zd_L_law_322 : decode code 322 = .ok (.iload_n 3, 1) := by decide +kernel
theorem zd_L_law_323 : decode code 323 = .ok (.iconst 2, 1) := by decide +kernel
theorem zd_L_law_324 : decode code 324 = .ok (.iadd, 1) := by decide +kernel
theorem zd_L_law_325 : decode code 325 = .ok (.iaload, 1) := by decide +kernel
theorem zd_L_law_326 : decode code 326 = .ok (.invokevirtual 41, 3) := by decide +kernel
theorem zd_L_law_329 : decode code 329 = .ok (.if_icmp .eq 221, 3) := by decide +kernel
theorem zd_L_law_332 : decode code 332 = .ok (.iconst 0, 1) := by decide +kernel
theorem zd_L_law_333 : decode code 333 = .ok (.ireturn, 1) := by decide +kernel
theorem zd_L_law_334 : decode code 334 = .ok (.aload_n 1, 1) := by decide +kernel
theorem zd_L_law_335 : decode code 335 = .ok (.invokevirtual 42, 3) := by decide +kernel
theorem zd_L_law_338 : decode code 338 = .ok (.aload_n 2, 1) := by decide +kernel
theorem zd_L_law_339 : decode code 339 = .ok (.invokevirtual 46, 3) := by decide +kernel
theorem zd_L_law_342 : decode code 342 = .ok (.if_icmp .eq 208, 3) := by decide +kernel
theorem zd_L_law_345 : decode code 345 = .ok (.iconst 0, 1) := by decide +kernel
theorem zd_L_law_346 : decode code 346 = .ok (.ireturn, 1) := by decide +kernel
theorem zd_L_law_347 : decode code 347 = .ok (.aload_n 1, 1) := by decide +kernel
theorem zd_L_law_348 : decode code 348 = .ok (.invokevirtual 47, 3) := by decide +kernel
theorem zd_L_law_351 : decode code 351 = .ok (.aload_n 2, 1) := by decide +kernel
theorem zd_L_law_352 : decode code 352 = .ok (.invokevirtual 50, 3) := by decide +kernel
theorem zd_L_law_355 : decode code 355 = .ok (.if_icmp .eq 195, 3) := by decide +kernel
theorem zd_L_law_358 : decode code 358 = .ok (.iconst 0, 1) := by decide +kernel
theorem zd_L_law_359 : decode code 359 = .ok (.ireturn, 1) := by decide +kernel
theorem zd_L_law_360 : decode code 360 = .ok (.aload_n 1, 1) := by decide +kernel
theorem zd_L_law_361 : decode code 361 = .ok (.invokevirtual 51, 3) := by decide +kernel
theorem zd_L_law_364 : decode code 364 = .ok (.aload_n 2, 1) := by decide +kernel
theorem zd_L_law_365 : decode code 365 = .ok (.invokevirtual 54, 3) := by decide +kernel
theorem zd_L_law_368 : decode code 368 = .ok (.if_icmp .eq 182, 3) := by decide +kernel
theorem zd_L_law_371 : decode code 371 = .ok (.iconst 0, 1) := by decide +kernel
theorem zd_L_law_372 : decode code 372 = .ok (.ireturn, 1) := by decide +kernel
theorem zd_L_law_373 : decode code 373 = .ok (.aload_n 1, 1) := by decide +kernel
theorem zd_L_law_374 : decode code 374 = .ok (.invokevirtual 55, 3) := by decide +kernel
theorem zd_L_law_377 : decode code 377 = .ok (.aload_n 2, 1) := by decide +kernel
theorem zd_L_law_378 : decode code 378 = .ok (.invokevirtual 58, 3) := by decide +kernel
theorem zd_L_law_381 : decode code 381 = .ok (.if_icmp .eq 169, 3) := by decide +kernel
theorem zd_L_law_384 : decode code 384 = .ok (.iconst 0, 1) := by decide +kernel
theorem zd_L_law_385 : decode code 385 = .ok (.ireturn, 1) := by decide +kernel
theorem zd_L_law_386 : decode code 386 = .ok (.aload_n 1, 1) := by decide +kernel
theorem zd_L_law_387 : decode code 387 = .ok (.invokevirtual 59, 3) := by decide +kernel
theorem zd_L_law_390 : decode code 390 = .ok (.aload_n 2, 1) := by decide +kernel
theorem zd_L_law_391 : decode code 391 = .ok (.invokevirtual 62, 3) := by decide +kernel
theorem zd_L_law_394 : decode code 394 = .ok (.if_icmp .eq 156, 3) := by decide +kernel
theorem zd_L_law_397 : decode code 397 = .ok (.iconst 0, 1) := by decide +kernel
theorem zd_L_law_398 : decode code 398 = .ok (.ireturn, 1) := by decide +kernel
theorem zd_L_law_399 : decode code 399 = .ok (.aload_n 1, 1) := by decide +kernel
theorem zd_L_law_400 : decode code 400 = .ok (.invokevirtual 63, 3) := by decide +kernel
theorem zd_L_law_403 : decode code 403 = .ok (.aload_n 2, 1) := by decide +kernel
theorem zd_L_law_404 : decode code 404 = .ok (.invokevirtual 66, 3) := by decide +kernel
theorem zd_L_law_407 : decode code 407 = .ok (.if_icmp .eq 143, 3) := by decide +kernel
theorem zd_L_law_410 : decode code 410 = .ok (.iconst 0, 1) := by decide +kernel
theorem zd_L_law_411 : decode code 411 = .ok (.ireturn, 1) := by decide +kernel
theorem zd_L_law_412 : decode code 412 = .ok (.aload_n 1, 1) := by decide +kernel
theorem zd_L_law_413 : decode code 413 = .ok (.invokevirtual 67, 3) := by decide +kernel
theorem zd_L_law_416 : decode code 416 = .ok (.aload_n 2, 1) := by decide +kernel
theorem zd_L_law_417 : decode code 417 = .ok (.invokevirtual 71, 3) := by decide +kernel
theorem zd_L_law_420 : decode code 420 = .ok (.if_icmp .eq 130, 3) := by decide +kernel
theorem zd_L_law_423 : decode code 423 = .ok (.iconst 0, 1) := by decide +kernel
theorem zd_L_law_424 : decode code 424 = .ok (.ireturn, 1) := by decide +kernel
theorem zd_L_law_425 : decode code 425 = .ok (.aload_n 1, 1) := by decide +kernel
theorem zd_L_law_426 : decode code 426 = .ok (.invokevirtual 72, 3) := by decide +kernel
theorem zd_L_law_429 : decode code 429 = .ok (.aload_n 2, 1) := by decide +kernel
theorem zd_L_law_430 : decode code 430 = .ok (.invokevirtual 75, 3) := by decide +kernel
theorem zd_L_law_433 : decode code 433 = .ok (.if_icmp .eq 117, 3) := by decide +kernel
theorem zd_L_law_436 : decode code 436 = .ok (.iconst 0, 1) := by decide +kernel
theorem zd_L_law_437 : decode code 437 = .ok (.ireturn, 1) := by decide +kernel
theorem zd_L_law_438 : decode code 438 = .ok (.aload_n 1, 1) := by decide +kernel
theorem zd_L_law_439 : decode code 439 = .ok (.aload_n 0, 1) := by decide +kernel
theorem zd_L_law_440 : decode code 440 = .ok (.iload_n 3, 1) := by decide +kernel
theorem zd_L_law_441 : decode code 441 = .ok (.iconst 1, 1) := by decide +kernel
theorem zd_L_law_442 : decode code 442 = .ok (.iadd, 1) := by decide +kernel
theorem zd_L_law_443 : decode code 443 = .ok (.iaload, 1) := by decide +kernel
theorem zd_L_law_444 : decode code 444 = .ok (.aload_n 0, 1) := by decide +kernel
theorem zd_L_law_445 : decode code 445 = .ok (.iload_n 3, 1) := by decide +kernel
theorem zd_L_law_446 : decode code 446 = .ok (.iconst 2, 1) := by decide +kernel
theorem zd_L_law_447 : decode code 447 = .ok (.iadd, 1) := by decide +kernel
theorem zd_L_law_448 : decode code 448 = .ok (.iaload, 1) := by decide +kernel
theorem zd_L_law_449 : decode code 449 = .ok (.invokevirtual 76, 3) := by decide +kernel
theorem zd_L_law_452 : decode code 452 = .ok (.aload_n 2, 1) := by decide +kernel
theorem zd_L_law_453 : decode code 453 = .ok (.aload_n 0, 1) := by decide +kernel
theorem zd_L_law_454 : decode code 454 = .ok (.iload_n 3, 1) := by decide +kernel
theorem zd_L_law_455 : decode code 455 = .ok (.iconst 1, 1) := by decide +kernel
theorem zd_L_law_456 : decode code 456 = .ok (.iadd, 1) := by decide +kernel
theorem zd_L_law_457 : decode code 457 = .ok (.iaload, 1) := by decide +kernel
theorem zd_L_law_458 : decode code 458 = .ok (.aload_n 0, 1) := by decide +kernel
theorem zd_L_law_459 : decode code 459 = .ok (.iload_n 3, 1) := by decide +kernel
theorem zd_L_law_460 : decode code 460 = .ok (.iconst 2, 1) := by decide +kernel
theorem zd_L_law_461 : decode code 461 = .ok (.iadd, 1) := by decide +kernel
end
section
theorem zd_L_law_462 : decode code 462 = .ok (.iaload, 1) := by decide +kernel
theorem zd_L_law_463 : decode code 463 = .ok (.invokevirtual 79, 3) := by decide +kernel
theorem zd_L_law_466 : decode code 466 = .ok (.if_icmp .eq 84, 3) := by decide +kernel
theorem zd_L_law_469 : decode code 469 = .ok (.iconst 0, 1) := by decide +kernel
theorem zd_L_law_470 : decode code 470 = .ok (.ireturn, 1) := by decide +kernel
theorem zd_L_law_471 : decode code 471 = .ok (.aload_n 1, 1) := by decide +kernel
theorem zd_L_law_472 : decode code 472 = .ok (.aload_n 0, 1) := by decide +kernel
theorem zd_L_law_473 : decode code 473 = .ok (.iload_n 3, 1) := by decide +kernel
theorem zd_L_law_474 : decode code 474 = .ok (.iconst 1, 1) := by decide +kernel
theorem zd_L_law_475 : decode code 475 = .ok (.iadd, 1) := by decide +kernel
theorem zd_L_law_476 : decode code 476 = .ok (.iaload, 1) := by decide +kernel
theorem zd_L_law_477 : decode code 477 = .ok (.aload_n 0, 1) := by decide +kernel
theorem zd_L_law_478 : decode code 478 = .ok (.iload_n 3, 1) := by decide +kernel
theorem zd_L_law_479 : decode code 479 = .ok (.iconst 2, 1) := by decide +kernel
theorem zd_L_law_480 : decode code 480 = .ok (.iadd, 1) := by decide +kernel
theorem zd_L_law_481 : decode code 481 = .ok (.iaload, 1) := by decide +kernel
theorem zd_L_law_482 : decode code 482 = .ok (.invokevirtual 80, 3) := by decide +kernel
theorem zd_L_law_485 : decode code 485 = .ok (.aload_n 2, 1) := by decide +kernel
theorem zd_L_law_486 : decode code 486 = .ok (.aload_n 0, 1) := by decide +kernel
theorem zd_L_law_487 : decode code 487 = .ok (.iload_n 3, 1) := by decide +kernel
theorem zd_L_law_488 : decode code 488 = .ok (.iconst 1, 1) := by decide +kernel
theorem zd_L_law_489 : decode code 489 = .ok (.iadd, 1) := by decide +kernel
theorem zd_L_law_490 : decode code 490 = .ok (.iaload, 1) := by decide +kernel
theorem zd_L_law_491 : decode code 491 = .ok (.aload_n 0, 1) := by decide +kernel
theorem zd_L_law_492 : decode code 492 = .ok (.iload_n 3, 1) := by decide +kernel
theorem zd_L_law_493 : decode code 493 = .ok (.iconst 2, 1) := by decide +kernel
theorem zd_L_law_494 : decode code 494 = .ok (.iadd, 1) := by decide +kernel
theorem zd_L_law_495 : decode code 495 = .ok (.iaload, 1) := by decide +kernel
theorem zd_L_law_496 : decode code 496 = .ok (.invokevirtual 83, 3) := by decide +kernel
theorem zd_L_law_499 : decode code 499 = .ok (.if_icmp .eq 51, 3) := by decide +kernel
theorem zd_L_law_502 : decode code 502 = .ok (.iconst 0, 1) := by decide +kernel
theorem zd_L_law_503 : decode code 503 = .ok (.ireturn, 1) := by decide +kernel
theorem zd_L_law_504 : decode code 504 = .ok (.aload_n 1, 1) := by decide +kernel
theorem zd_L_law_505 : decode code 505 = .ok (.aload_n 0, 1) := by decide +kernel
theorem zd_L_law_506 : decode code 506 = .ok (.iload_n 3, 1) := by decide +kernel
theorem zd_L_law_507 : decode code 507 = .ok (.iconst 1, 1) := by decide +kernel
theorem zd_L_law_508 : decode code 508 = .ok (.iadd, 1) := by decide +kernel
theorem zd_L_law_509 : decode code 509 = .ok (.iaload, 1) := by decide +kernel
theorem zd_L_law_510 : decode code 510 = .ok (.invokevirtual 84, 3) := by decide +kernel
theorem zd_L_law_513 : decode code 513 = .ok (.aload_n 2, 1) := by decide +kernel
theorem zd_L_law_514 : decode code 514 = .ok (.aload_n 0, 1) := by decide +kernel
theorem zd_L_law_515 : decode code 515 = .ok (.iload_n 3, 1) := by decide +kernel
theorem zd_L_law_516 : decode code 516 = .ok (.iconst 1, 1) := by decide +kernel
theorem zd_L_law_517 : decode code 517 = .ok (.iadd, 1) := by decide +kernel
theorem zd_L_law_518 : decode code 518 = .ok (.iaload, 1) := by decide +kernel
theorem zd_L_law_519 : decode code 519 = .ok (.invokevirtual 88, 3) := by decide +kernel
theorem zd_L_law_522 : decode code 522 = .ok (.if_icmp .eq 28, 3) := by decide +kernel
theorem zd_L_law_525 : decode code 525 = .ok (.iconst 0, 1) := by decide +kernel
theorem zd_L_law_526 : decode code 526 = .ok (.ireturn, 1) := by decide +kernel
theorem zd_L_law_527 : decode code 527 = .ok (.aload_n 1, 1) := by decide +kernel
theorem zd_L_law_528 : decode code 528 = .ok (.aload_n 0, 1) := by decide +kernel
theorem zd_L_law_529 : decode code 529 = .ok (.iload_n 3, 1) := by decide +kernel
theorem zd_L_law_530 : decode code 530 = .ok (.iconst 1, 1) := by decide +kernel
theorem zd_L_law_531 : decode code 531 = .ok (.iadd, 1) := by decide +kernel
theorem zd_L_law_532 : decode code 532 = .ok (.iaload, 1) := by decide +kernel
theorem zd_L_law_533 : decode code 533 = .ok (.invokevirtual 89, 3) := by decide +kernel
theorem zd_L_law_536 : decode code 536 = .ok (.aload_n 2, 1) := by decide +kernel
theorem zd_L_law_537 : decode code 537 = .ok (.aload_n 0, 1) := by decide +kernel
theorem zd_L_law_538 : decode code 538 = .ok (.iload_n 3, 1) := by decide +kernel
theorem zd_L_law_539 : decode code 539 = .ok (.iconst 1, 1) := by decide +kernel
theorem zd_L_law_540 : decode code 540 = .ok (.iadd, 1) := by decide +kernel
theorem zd_L_law_541 : decode code 541 = .ok (.iaload, 1) := by decide +kernel
theorem zd_L_law_542 : decode code 542 = .ok (.invokevirtual 92, 3) := by decide +kernel
theorem zd_L_law_545 : decode code 545 = .ok (.if_icmp .eq 5, 3) := by decide +kernel
theorem zd_L_law_548 : decode code 548 = .ok (.iconst 0, 1) := by decide +kernel
theorem zd_L_law_549 : decode code 549 = .ok (.ireturn, 1) := by decide +kernel
theorem zd_L_law_550 : decode code 550 = .ok (.iinc 3 4, 3) := by decide +kernel
theorem zd_L_law_553 : decode code 553 = .ok (.goto (-535), 3) := by decide +kernel
theorem zd_L_law_556 : decode code 556 = .ok (.iconst 1, 1) := by decide +kernel
theorem zd_L_law_557 : decode code 557 = .ok (.ireturn, 1) := by decide +kernel
end
section
/-! What a state of either side is: the power, the current contents, the contents at the latest sync. Contents: names, hints, lengths, opened, words (24 objects, rows of 64 words). -/
abbrev zs_F : Type := Nat → Int32
abbrev zs_C : Type := zs_F × zs_F × zs_F × zs_F × zs_F
abbrev zs_X : Type := Bool × zs_C × zs_C
def zs_b (b : Bool) : Int32 := if b = true then 1 else 0
theorem zs_b_t : zs_b true = 1 := rfl
theorem zs_b_f : zs_b false = 0 := rfl
theorem zs_b_0 {b : Bool} (h : zs_b b = 0) : b = false := by
  cases b
  · rfl
  · exact absurd h (by decide)
theorem zs_b_1 {b : Bool} (h : ¬ zs_b b = 0) : b = true := by
  cases b
  · exact absurd rfl h
  · rfl
theorem zs_b_n (b : Bool) : narrow .boolean (.int (zs_b b)) = .int (zs_b b) := by
  cases b <;> rfl
theorem zs_b_fit (b : Bool) : fits .boolean (.int (zs_b b)) = true := by
  cases b <;> rfl
theorem zs_inc (i : Nat) : nI i + Int32.ofInt 1 = nI (i + 1) := by
  rw [show Int32.ofInt 1 = 1 from by decide]
  exact nI_1 i
theorem zs_inc1 (x : Int32) : x + Int32.ofInt 1 = x + 1 := by
  rw [show Int32.ofInt 1 = 1 from by decide]
/-! the class's own methods, as functions -/
def zs_t (nm : zs_F) (j : Nat) : Bool := !decide (nm j = -1)
def zs_free (nm : zs_F) : Nat → Nat → Int32
  | 0, _ => -1
  | k + 1, i => if zs_t nm i = true then zs_free nm k (i + 1) else nI i
def zs_num (nm : zs_F) (x : Int32) : Nat → Nat → Int32
  | 0, _ => -1
  | k + 1, i => if nm i = x then nI i else zs_num nm x k (i + 1)
def zs_below (nm : zs_F) (x : Int32) : Nat → Nat → Int32 → Int32
  | 0, _, a => a
  | k + 1, i, a => zs_below nm x k (i + 1) (if zs_t nm i = true ∧ ¬ x ≤ nm i then a + 1 else a)
def zs_rank (nm : zs_F) (x : Int32) : Nat → Nat → Int32
  | 0, _ => -1
  | k + 1, i => if zs_t nm i = true ∧ zs_below nm (nm i) 24 0 0 = x then nI i else zs_rank nm x k (i + 1)
def zs_cnt (nm : zs_F) : Nat → Nat → Int32 → Int32
  | 0, _, a => a
  | k + 1, i, a => zs_cnt nm k (i + 1) (if zs_t nm i = true then a + 1 else a)
def zs_sum (ln : zs_F) : Nat → Nat → Int32 → Int32
  | 0, _, a => a
  | k + 1, i, a => zs_sum ln k (i + 1) (a + ln i)
def zs_row (wd : zs_F) (st : Nat) (fi : Int32) : Nat → zs_F
  | 0 => wd
  | i + 1 => upd (zs_row wd st fi i) (st + i) (fi + nI i)
def zs_cp (f g : zs_F) (i : Nat) : zs_F := fun j => if j < i then f j else g j
def zs_cz (f g : zs_F) (i : Nat) : zs_F := fun j => if j < i then vp_nar .boolean (f j) else g j
def zs_fl (f : zs_F) (x : Int32) (i : Nat) : zs_F := fun j => if j < i then x else f j
theorem zs_cp_0 (f g : zs_F) : zs_cp f g 0 = g := by
  funext j
  simp [zs_cp]
theorem zs_cz_0 (f g : zs_F) : zs_cz f g 0 = g := by
  funext j
  simp [zs_cz]
theorem zs_fl_0 (f : zs_F) (x : Int32) : zs_fl f x 0 = f := by
  funext j
  simp [zs_fl]
theorem zs_cp_s (f g : zs_F) (i : Nat) : upd (zs_cp f g i) i (f i) = zs_cp f g (i + 1) := by
  funext j
  simp only [upd, zs_cp]
  by_cases h : j = i
  · subst h
    simp
  · by_cases h2 : j < i
    · simp [h, h2, Nat.lt_succ_of_lt h2]
    · simp [h, h2, show ¬ j < i + 1 by omega]
theorem zs_cz_s (f g : zs_F) (i : Nat) : upd (zs_cz f g i) i (vp_nar .boolean (f i)) = zs_cz f g (i + 1) := by
  funext j
  simp only [upd, zs_cz]
  by_cases h : j = i
  · subst h
    simp
  · by_cases h2 : j < i
    · simp [h, h2, Nat.lt_succ_of_lt h2]
    · simp [h, h2, show ¬ j < i + 1 by omega]
theorem zs_fl_s (f : zs_F) (x : Int32) (i : Nat) : upd (zs_fl f x i) i x = zs_fl f x (i + 1) := by
  funext j
  simp only [upd, zs_fl]
  by_cases h : j = i
  · subst h
    simp
  · by_cases h2 : j < i
    · simp [h, h2, Nat.lt_succ_of_lt h2]
    · simp [h, h2, show ¬ j < i + 1 by omega]
def zs_is (up : Bool) (nm : zs_F) (n : Int32) : Bool := up && (!decide (n < 0) && (!decide (24 ≤ n) && zs_t nm n.toNatClampNeg))
def zs_nam (n : Int32) : Bool := !decide (n < 0) && !decide (9999 < n)
def zs_hin (n : Int32) : Bool := !decide (n < 0) && !decide (3 < n)
def zs_fr (nm : zs_F) (n : Int32) : Bool := zs_nam n && decide (zs_num nm n 24 0 = -1)
def zs_rm (ln : zs_F) (j : Nat) : Int32 := if 200 - zs_sum ln 24 0 0 < 64 - ln j then 200 - zs_sum ln 24 0 0 else 64 - ln j
def zs_create (u : zs_X) (n h : Int32) : Int32 × zs_X :=
  if (u.1 && (zs_fr u.2.1.1 n && zs_hin h)) = true then
    (if zs_free u.2.1.1 24 0 = -1 then (-1, u) else
      (zs_free u.2.1.1 24 0, u.1, (upd u.2.1.1 (zs_free u.2.1.1 24 0).toNatClampNeg n, upd u.2.1.2.1 (zs_free u.2.1.1 24 0).toNatClampNeg h, u.2.1.2.2.1, upd u.2.1.2.2.2.1 (zs_free u.2.1.1 24 0).toNatClampNeg (vp_nar .boolean 1), u.2.1.2.2.2.2), u.2.2))
  else (-1, u)
def zs_okr (u : zs_X) (o k : Int32) : Bool := zs_is u.1 u.2.1.1 o && (!decide (u.2.1.2.2.2.1 o.toNatClampNeg = 0) && (!decide (k < 1) && decide (k ≤ zs_rm u.2.1.2.2.1 o.toNatClampNeg)))
def zs_appendRow (u : zs_X) (o w k : Int32) : Int32 × zs_X :=
  if zs_okr u o k = true then
    (1, u.1, (u.2.1.1, u.2.1.2.1, upd u.2.1.2.2.1 o.toNatClampNeg (nI ((u.2.1.2.2.1 o.toNatClampNeg).toNatClampNeg + k.toNatClampNeg)), u.2.1.2.2.2.1, zs_row u.2.1.2.2.2.2 (o.toNatClampNeg * 64 + (u.2.1.2.2.1 o.toNatClampNeg).toNatClampNeg) w k.toNatClampNeg), u.2.2)
  else (0, u)
def zs_open (u : zs_X) (o b : Int32) : Int32 × zs_X :=
  if zs_is u.1 u.2.1.1 o = true then (1, u.1, (u.2.1.1, u.2.1.2.1, u.2.1.2.2.1, upd u.2.1.2.2.2.1 o.toNatClampNeg (vp_nar .boolean b), u.2.1.2.2.2.2), u.2.2) else (0, u)
def zs_remove (u : zs_X) (o : Int32) : Int32 × zs_X :=
  if zs_is u.1 u.2.1.1 o = true then (1, u.1, (upd u.2.1.1 o.toNatClampNeg (-1), u.2.1.2.1, upd u.2.1.2.2.1 o.toNatClampNeg 0, u.2.1.2.2.2.1, u.2.1.2.2.2.2), u.2.2) else (0, u)
def zs_rename (u : zs_X) (o n : Int32) : Int32 × zs_X :=
  if (zs_is u.1 u.2.1.1 o && zs_fr u.2.1.1 n) = true then (1, u.1, (upd u.2.1.1 o.toNatClampNeg n, u.2.1.2.1, u.2.1.2.2.1, u.2.1.2.2.2.1, u.2.1.2.2.2.2), u.2.2) else (0, u)
/-- s copied over d: the class copies the words by System.arraycopy -/
def zs_copy (s d : zs_C) : zs_C := (zs_cp s.1 d.1 24, zs_cp s.2.1 d.2.1 24, zs_cp s.2.2.1 d.2.2.1 24, zs_cz s.2.2.2.1 d.2.2.2.1 24, va_cpy s.2.2.2.2 d.2.2.2.2 0 0 1536)
def zs_sync (u : zs_X) : Int32 × zs_X := if u.1 = true then (1, u.1, u.2.1, zs_copy u.2.1 u.2.2) else (0, u)
def zs_cut (u : zs_X) : Int32 × zs_X := if u.1 = true then (1, false, u.2.1, u.2.2) else (0, u)
def zs_mount (u : zs_X) : Int32 × zs_X := if u.1 = true then (0, u) else (1, true, zs_copy u.2.2 u.2.1, u.2.2)
def zs_objects (u : zs_X) : Int32 := if u.1 = true then zs_cnt u.2.1.1 24 0 0 else 0
def zs_room (u : zs_X) : Int32 := if u.1 = true then 200 - zs_sum u.2.1.2.2.1 24 0 0 else 0
def zs_object (u : zs_X) (o w : Int32) : Int32 :=
  if zs_is u.1 u.2.1.1 o = true then (if w = 0 then u.2.1.1 o.toNatClampNeg else if w = 1 then u.2.1.2.1 o.toNatClampNeg else if w = 2 then u.2.1.2.2.1 o.toNatClampNeg else if w = 3 then (if u.2.1.2.2.2.1 o.toNatClampNeg = 0 then 0 else 1) else -1) else -1
def zs_word (u : zs_X) (o i : Int32) : Int32 :=
  if zs_is u.1 u.2.1.1 o = true ∧ ¬ i < 0 ∧ i < u.2.1.2.2.1 o.toNatClampNeg then u.2.1.2.2.2.2 (o.toNatClampNeg * 64 + i.toNatClampNeg) else 0
def zs_find (u : zs_X) (n : Int32) : Int32 := if (u.1 && zs_nam n) = true then zs_num u.2.1.1 n 24 0 else -1
def zs_list (u : zs_X) (k : Int32) : Int32 := if u.1 = true then zs_rank u.2.1.1 k 24 0 else -1
/-! the reference's methods, as functions -/
def zm_is (up : Bool) (nm : zs_F) (n : Int32) : Bool := up && (!decide (n < 0) && (!decide (24 ≤ n) && !decide (nm n.toNatClampNeg ≤ 0)))
def zm_at (up : Bool) (nm : zs_F) (i : Nat) : Bool := up && !decide (nm i ≤ 0)
def zm_num (up : Bool) (nm : zs_F) (x : Int32) : Nat → Nat → Int32 → Int32
  | 0, _, a => a
  | k + 1, i, a => zm_num up nm x k (i + 1) (if zs_nam x = true ∧ zm_at up nm i = true ∧ nm i = x + 1 then nI i else a)
def zm_left (nm ln : zs_F) : Nat → Nat → Int32 → Int32
  | 0, _, a => a
  | k + 1, i, a => zm_left nm ln k (i + 1) (a - (if nm i ≤ 0 then 0 else ln i))
/-- the place of the first free number, 24 if there is none -/
def zm_free (nm : zs_F) : Nat → Nat → Nat
  | 0, i => i
  | k + 1, i => if nm i ≤ 0 then i else zm_free nm k (i + 1)
def zm_cnt (up : Bool) (nm : zs_F) : Nat → Nat → Int32 → Int32
  | 0, _, a => a
  | k + 1, i, a => zm_cnt up nm k (i + 1) (a + (if zm_at up nm i = true then 1 else 0))
def zm_below (up : Bool) (nm : zs_F) (x : Int32) : Nat → Nat → Int32 → Int32
  | 0, _, a => a
  | k + 1, i, a => zm_below up nm x k (i + 1) (a + (if zm_at up nm i = true ∧ ¬ x ≤ nm i then 1 else 0))
def zm_rank (up : Bool) (nm : zs_F) (x : Int32) : Nat → Nat → Int32
  | 0, _ => -1
  | k + 1, i => if zm_at up nm i = true ∧ zm_below up nm (nm i) 24 0 0 = x then nI i else zm_rank up nm x k (i + 1)
def zm_create (u : zs_X) (n h : Int32) : Int32 × zs_X :=
  if u.1 = true ∧ zs_nam n = true ∧ ¬ h < 0 ∧ ¬ 3 < h ∧ zm_num u.1 u.2.1.1 n 24 0 (-1) = -1 then
    (if zm_free u.2.1.1 24 0 = 24 then (-1, u) else
      (nI (zm_free u.2.1.1 24 0), u.1, (upd u.2.1.1 (zm_free u.2.1.1 24 0) (n + 1), upd u.2.1.2.1 (zm_free u.2.1.1 24 0) h, upd u.2.1.2.2.1 (zm_free u.2.1.1 24 0) 0, upd u.2.1.2.2.2.1 (zm_free u.2.1.1 24 0) (vp_nar .boolean 1), u.2.1.2.2.2.2), u.2.2))
  else (-1, u)
def zm_okr (u : zs_X) (o k : Int32) : Bool := zm_is u.1 u.2.1.1 o && (!decide (u.2.1.2.2.2.1 o.toNatClampNeg = 0) && (!decide (k < 1) && (!decide (64 - u.2.1.2.2.1 o.toNatClampNeg < k) && decide (k ≤ zm_left u.2.1.1 u.2.1.2.2.1 24 0 200))))
def zm_appendRow (u : zs_X) (o w k : Int32) : Int32 × zs_X :=
  if zm_okr u o k = true then
    (1, u.1, (u.2.1.1, u.2.1.2.1, upd u.2.1.2.2.1 o.toNatClampNeg (nI ((u.2.1.2.2.1 o.toNatClampNeg).toNatClampNeg + k.toNatClampNeg)), u.2.1.2.2.2.1, zs_row u.2.1.2.2.2.2 (o.toNatClampNeg * 64 + (u.2.1.2.2.1 o.toNatClampNeg).toNatClampNeg) w k.toNatClampNeg), u.2.2)
  else (0, u)
def zm_open (u : zs_X) (o b : Int32) : Int32 × zs_X :=
  if zm_is u.1 u.2.1.1 o = true then (1, u.1, (u.2.1.1, u.2.1.2.1, u.2.1.2.2.1, upd u.2.1.2.2.2.1 o.toNatClampNeg (vp_nar .boolean b), u.2.1.2.2.2.2), u.2.2) else (0, u)
def zm_remove (u : zs_X) (o : Int32) : Int32 × zs_X :=
  if zm_is u.1 u.2.1.1 o = true then (1, u.1, (upd u.2.1.1 o.toNatClampNeg 0, u.2.1.2.1, u.2.1.2.2.1, u.2.1.2.2.2.1, u.2.1.2.2.2.2), u.2.2) else (0, u)
def zm_rename (u : zs_X) (o n : Int32) : Int32 × zs_X :=
  if zm_is u.1 u.2.1.1 o = true ∧ zs_nam n = true ∧ zm_num u.1 u.2.1.1 n 24 0 (-1) = -1 then (1, u.1, (upd u.2.1.1 o.toNatClampNeg (n + 1), u.2.1.2.1, u.2.1.2.2.1, u.2.1.2.2.2.1, u.2.1.2.2.2.2), u.2.2) else (0, u)
def zm_copy (s d : zs_C) : zs_C := (zs_cp s.1 d.1 24, zs_cp s.2.1 d.2.1 24, zs_cp s.2.2.1 d.2.2.1 24, zs_cz s.2.2.2.1 d.2.2.2.1 24, zs_cp s.2.2.2.2 d.2.2.2.2 1536)
def zm_sync (u : zs_X) : Int32 × zs_X := if u.1 = true then (1, u.1, u.2.1, zm_copy u.2.1 u.2.2) else (0, u)
def zm_cut (u : zs_X) : Int32 × zs_X := (zs_b u.1, false, u.2.1, u.2.2)
def zm_mount (u : zs_X) : Int32 × zs_X := if u.1 = true then (0, u) else (1, true, zm_copy u.2.2 u.2.1, u.2.2)
def zm_objects (u : zs_X) : Int32 := zm_cnt u.1 u.2.1.1 24 0 0
def zm_room (u : zs_X) : Int32 := if u.1 = true then zm_left u.2.1.1 u.2.1.2.2.1 24 0 200 else 0
def zm_object (u : zs_X) (o w : Int32) : Int32 :=
  if zm_is u.1 u.2.1.1 o = true then (if w = 0 then u.2.1.1 o.toNatClampNeg - 1 else if w = 1 then u.2.1.2.1 o.toNatClampNeg else if w = 2 then u.2.1.2.2.1 o.toNatClampNeg else if w = 3 then (if u.2.1.2.2.2.1 o.toNatClampNeg = 0 then 0 else 1) else -1) else -1
def zm_word (u : zs_X) (o i : Int32) : Int32 :=
  if zm_is u.1 u.2.1.1 o = true ∧ ¬ i < 0 ∧ i < u.2.1.2.2.1 o.toNatClampNeg then u.2.1.2.2.2.2 (o.toNatClampNeg * 64 + i.toNatClampNeg) else 0
def zm_find (u : zs_X) (n : Int32) : Int32 := zm_num u.1 u.2.1.1 n 24 0 (-1)
def zm_list (u : zs_X) (k : Int32) : Int32 := zm_rank u.1 u.2.1.1 k 24 0
/-- the lengths that a row of words can have, where the object is there -/
def zs_ok (u : zs_X) : Prop := ∀ j, j < 24 → ∃ q : Nat, q ≤ 64 ∧ u.2.1.2.2.1 j = nI q
def zm_ok (u : zs_X) : Prop := ∀ j, j < 24 → ¬ u.2.1.1 j ≤ 0 → ∃ q : Nat, q ≤ 64 ∧ u.2.1.2.2.1 j = nI q
theorem zs_ix {n : Int32} (h1 : ¬ n < 0) (h2 : ¬ 24 ≤ n) : ∃ j : Nat, j < 24 ∧ n = nI j := by
  rcases pk_ix n (n := 24) (by decide) with h | h | h
  · exact absurd h h1
  · exact absurd h h2
  · exact h
theorem zs_inc4 (i : Nat) : nI i + Int32.ofInt 4 = nI (i + 4) := by
  rw [show Int32.ofInt 4 = nI 4 from by decide]
  exact nI_add i 4
theorem zs_is_t {up : Bool} {nm : zs_F} {o : Int32} (h : zs_is up nm o = true) : ∃ j : Nat, j < 24 ∧ o = nI j ∧ up = true ∧ zs_t nm j = true := by
  simp only [zs_is, Bool.and_eq_true, Bool.not_eq_true', decide_eq_false_iff_not] at h
  obtain ⟨h1, h2, h3, h4⟩ := h
  obtain ⟨j, hj, rfl⟩ := zs_ix h2 h3
  rw [nI_clamp (by omega)] at h4
  exact ⟨j, hj, rfl, h1, h4⟩
theorem zm_is_t {up : Bool} {nm : zs_F} {o : Int32} (h : zm_is up nm o = true) : ∃ j : Nat, j < 24 ∧ o = nI j ∧ up = true ∧ ¬ nm j ≤ 0 := by
  simp only [zm_is, Bool.and_eq_true, Bool.not_eq_true', decide_eq_false_iff_not] at h
  obtain ⟨h1, h2, h3, h4⟩ := h
  obtain ⟨j, hj, rfl⟩ := zs_ix h2 h3
  rw [nI_clamp (by omega)] at h4
  exact ⟨j, hj, rfl, h1, h4⟩
theorem zm_is_at {up : Bool} {nm : zs_F} {i : Nat} (hi : i < 24) : zm_is up nm (nI i) = zm_at up nm i := by
  have h1 : ¬ nI i < 0 := nI_pos (by omega)
  have h2 : ¬ (24 : Int32) ≤ nI i := nI_ge (a := i) (b := 24) hi (by decide)
  simp only [zm_is, zm_at]
  rw [nI_clamp (by omega)]
  simp [h1, h2]
theorem zs_is_at {up : Bool} {nm : zs_F} {i : Nat} (hi : i < 24) : zs_is up nm (nI i) = (up && zs_t nm i) := by
  have h1 : ¬ nI i < 0 := nI_pos (by omega)
  have h2 : ¬ (24 : Int32) ≤ nI i := nI_ge (a := i) (b := 24) hi (by decide)
  simp only [zs_is]
  rw [nI_clamp (by omega)]
  simp [h1, h2]
theorem zs_nm1 {n : Nat} (h : n < 2 ^ 31) : ¬ nI n = -1 := by
  intro q
  have h1 := congrArg Int32.toInt q
  rw [nI_toInt h] at h1
  have h2 : (-1 : Int32).toInt = -1 := by decide
  omega
theorem zs_free_g (nm : zs_F) : ∀ k i : Nat, (zs_free nm k i = -1 ∧ ∀ t, i ≤ t → t < i + k → zs_t nm t = true) ∨ ∃ j : Nat, i ≤ j ∧ j < i + k ∧ zs_free nm k i = nI j ∧ zs_t nm j = false := by
  intro k
  induction k with
  | zero => exact fun i => Or.inl ⟨rfl, fun t h1 h2 => by omega⟩
  | succ k ih =>
    intro i
    by_cases h : zs_t nm i = true
    · rcases ih (i + 1) with ⟨h1, h2⟩ | ⟨j, h1, h2, h3, h4⟩
      · refine Or.inl ⟨by simp only [zs_free]; rw [if_pos h]; exact h1, fun t ht1 ht2 => ?_⟩
        by_cases ht : t = i
        · rw [ht]; exact h
        · exact h2 t (by omega) (by omega)
      · exact Or.inr ⟨j, by omega, by omega, by simp only [zs_free]; rw [if_pos h]; exact h3, h4⟩
    · exact Or.inr ⟨i, Nat.le_refl _, by omega, by simp only [zs_free]; rw [if_neg h], by simpa using h⟩
theorem zs_free_in {nm : zs_F} (h : ¬ zs_free nm 24 0 = -1) : ∃ j : Nat, j < 24 ∧ zs_free nm 24 0 = nI j := by
  rcases zs_free_g nm 24 0 with ⟨h1, -⟩ | ⟨j, -, h2, h3, -⟩
  · exact absurd h1 h
  · exact ⟨j, by omega, h3⟩
theorem zs_fit2 {ln : zs_F} {j q : Nat} {k : Int32} (hq : ln j = nI q) (h6 : q ≤ 64) (h1 : ¬ k < 1) (h2 : ¬ 64 - ln j < k) : ∃ t : Nat, q + t ≤ 64 ∧ k = nI t := by
  have h3 : k ≤ 64 - ln j := Int32.not_lt.mp h2
  rw [hq, show (64 : Int32) = nI 64 from rfl, pk_sub h6] at h3
  obtain ⟨t, ht, rfl⟩ := nI_of (x := k) (fun h => h1 (Int32.lt_trans h (by decide)))
  rw [nI_leI ht (by omega)] at h3
  exact ⟨t, by omega, rfl⟩
theorem zs_rm_le (ln : zs_F) (j : Nat) (k : Int32) : k ≤ zs_rm ln j ↔ k ≤ 64 - ln j ∧ k ≤ 200 - zs_sum ln 24 0 0 := by
  unfold zs_rm
  split
  · rename_i h
    exact ⟨fun q => ⟨Int32.le_trans q (Int32.le_of_lt h), q⟩, fun q => q.2⟩
  · rename_i h
    exact ⟨fun q => ⟨q, Int32.le_trans q (Int32.not_lt.mp h)⟩, fun q => q.1⟩
theorem zs_fit {ln : zs_F} {j q : Nat} {k : Int32} (hq : ln j = nI q) (h6 : q ≤ 64) (h1 : ¬ k < 1) (h2 : k ≤ zs_rm ln j) : ∃ t : Nat, q + t ≤ 64 ∧ k = nI t := zs_fit2 hq h6 h1 (Int32.not_lt.mpr ((zs_rm_le ln j k).mp h2).1)
theorem zs_sw4 {w : Int32} (c0 : ¬ w = 0) (c1 : ¬ w = 1) (c2 : ¬ w = 2) (c3 : ¬ w = 3) : w.toInt < 0 ∨ 3 < w.toInt := by
  have e : ∀ n : Int32, ¬ w = n → ¬ w.toInt = n.toInt := fun n h q => h (Int32.toInt_inj.mp q)
  have e0 := e 0 c0
  have e1 := e 1 c1
  have e2 := e 2 c2
  have e3 := e 3 c3
  rw [show (0 : Int32).toInt = 0 from rfl] at e0
  rw [show (1 : Int32).toInt = 1 from rfl] at e1
  rw [show (2 : Int32).toInt = 2 from rfl] at e2
  rw [show (3 : Int32).toInt = 3 from rfl] at e3
  omega
theorem zs_nge {x y : Int32} (h : y ≤ x) (q : x < y) : False := Int32.not_lt.mpr h q
theorem zs_lt {x y : Int32} (h : ¬ y ≤ x) : x < y := Int32.not_le.mp h
theorem zs_wix {i : Int32} {q : Nat} (h1 : ¬ i < 0) (h2 : i < nI q) (h6 : q ≤ 64) : ∃ t : Nat, t < 64 ∧ i = nI t := by
  obtain ⟨t, ht, rfl⟩ := nI_of h1
  rw [nI_ltI ht (by omega)] at h2
  exact ⟨t, by omega, rfl⟩
theorem zs_uu {f : zs_F} {j : Nat} {x y : Int32} : upd (upd f j x) j y = upd f j y := by
  funext t
  simp only [upd]
  by_cases h : t = j <;> simp [h]
theorem zs_us0 {f : zs_F} {j q : Nat} (h : f j = nI q) : upd f j (nI (q + 0)) = f := by
  funext t
  simp only [upd]
  by_cases ht : t = j
  · rw [if_pos ht, ht, h, Nat.add_zero]
  · rw [if_neg ht]
theorem zs_cut_n (u : zs_X) : narrow .boolean (.int (zs_cut u).1) = .int (zs_cut u).1 := by
  simp only [zs_cut]
  by_cases h : u.1 = true
  · rw [if_pos h]; exact narrow_b1
  · rw [if_neg h]; exact narrow_b0
theorem zm_cut_n (u : zs_X) : narrow .boolean (.int (zm_cut u).1) = .int (zm_cut u).1 := zs_b_n u.1
theorem zs_appendRow_n (u : zs_X) (o w k : Int32) : narrow .boolean (.int (zs_appendRow u o w k).1) = .int (zs_appendRow u o w k).1 := by
  simp only [zs_appendRow]
  by_cases h : zs_okr u o k = true
  · rw [if_pos h]; exact narrow_b1
  · rw [if_neg h]; exact narrow_b0
theorem zm_appendRow_n (u : zs_X) (o w k : Int32) : narrow .boolean (.int (zm_appendRow u o w k).1) = .int (zm_appendRow u o w k).1 := by
  simp only [zm_appendRow]
  by_cases h : zm_okr u o k = true
  · rw [if_pos h]; exact narrow_b1
  · rw [if_neg h]; exact narrow_b0
end
section
/-! Rows of this claim: the words that every method has (zs_w), the links between nest mates (zs_n), the worlds, the calls. -/
theorem zs_good : ∀ w ∈ zs_w, (w.onTables && w.keeps) = true ∨ ∃ ty, w = .arrayClass ty := fun w h => good_of_word (List.all_eq_true.mp zs_w_all w h)
theorem zs_gi {b : Cond} (hb : b ∈ zs_w) : GoodIn zs_w (b :: zs_w) := by
  intro w hw
  rcases List.mem_cons.mp hw with rfl | h
  · exact ⟨hb, zs_good _ hb⟩
  · exact ⟨h, zs_good _ h⟩
def zs_isn : Cond → Bool
  | .fieldLinkNest .. => true
  | .methodLinkNest .. => true
  | _ => false
theorem zs_isn_on {w : Cond} (h : zs_isn w = true) : w.onTables = true := by
  cases w <;> first | rfl | (simp [zs_isn] at h)
theorem zs_isn_warm {w : Cond} (h : zs_isn w = true) {s U : State} (hW : s.WarmedH U.vm) (hZ : va_Nw w s) : va_Nw w U := by
  cases w <;> first | exact va_Nw.warmF hW hZ | exact va_Nw.warmM hW hZ | (simp [zs_isn] at h)
theorem zs_n_isn : zs_n.all zs_isn = true := by decide +kernel
def zs_N (U : State) : Prop := ∀ w ∈ zs_n, va_Nw w U
theorem zs_N.warm {s U : State} (hW : s.WarmedH U.vm) (h : zs_N s) : zs_N U := fun w hw => zs_isn_warm (List.all_eq_true.mp zs_n_isn w hw) hW (h w hw)
theorem zs_N.calls {U : State} {g : JFrame} {mk : MethodId} {a : Array Value} (h : zs_N U) : zs_N (U.calling g mk a) := fun w hw => va_Nw.same (zs_isn_on (List.all_eq_true.mp zs_n_isn w hw)) (u := U) (U := U.calling g mk a) rfl (h w hw)
/-- what is known of the tables: where the objects' fields lie, what an int array and a boolean array are, the links -/
def zs_k (dC : Nat → ClassId) (dI : Nat → Nat → Nat) (cI cZ : ClassId) (U : State) : Prop := va_K (dC, dI) zs_cl [(cI, .int), (cZ, .boolean)] U ∧ zs_N U
theorem zs_k.warm {dC : Nat → ClassId} {dI : Nat → Nat → Nat} {cI cZ : ClassId} {s U : State} (hW : s.WarmedH U.vm) (h : zs_k dC dI cI cZ s) : zs_k dC dI cI cZ U := ⟨va_K.moved hW.alike h.1, h.2.warm hW⟩
theorem zs_k.calls {dC : Nat → ClassId} {dI : Nat → Nat → Nat} {cI cZ : ClassId} {U : State} {g : JFrame} {mk : MethodId} {a : Array Value} (h : zs_k dC dI cI cZ U) : zs_k dC dI cI cZ (U.calling g mk a) := ⟨va_K.moved (u := U) (U := U.calling g mk a) (Vm.Alike.refl U.vm) h.1, h.2.calls⟩
/-- a start that only reads, and a start that may write -/
def zs_r (dC : Nat → ClassId) (dI : Nat → Nat → Nat) (cI cZ : ClassId) (ws : va_W) (U : State) : Prop := va_P (dC, dI) zs_cl ws U.heap ∧ zs_k dC dI cI cZ U
def zs_s (dC : Nat → ClassId) (dI : Nat → Nat → Nat) (cI cZ : ClassId) (sz : Nat) (ws : va_W) (U : State) : Prop := U.heap.size = sz ∧ va_P (dC, dI) zs_cl ws U.heap ∧ zs_k dC dI cI cZ U ∧ va_D (fun _ => True) ws
/-- the world behind a method -/
def zs_e {S : Type} (dC : Nat → ClassId) (dI : Nat → Nat → Nat) (wf : S → va_W) (A : Nat → Prop) (u : S) (t : State) : Prop := va_P (dC, dI) zs_cl (wf u) t.heap ∧ va_D A (wf u)
theorem zs_r.blind {dC : Nat → ClassId} {dI : Nat → Nat → Nat} {cI cZ : ClassId} {ws : va_W} {As : List Value} : FrameBlind (va_Pc As (zs_r dC dI cI cZ ws)) := fun _ _ _ _ q => ⟨q.1, q.2.1, q.2.2.calls⟩
theorem zs_s.blind {dC : Nat → ClassId} {dI : Nat → Nat → Nat} {cI cZ : ClassId} {sz : Nat} {ws : va_W} {As : List Value} : FrameBlind (va_Pc As (zs_s dC dI cI cZ sz ws)) := fun _ _ _ _ q => ⟨q.1, q.2.1, q.2.2.1, q.2.2.2.1.calls, q.2.2.2.2⟩
theorem zs_fm {ws wc : va_W} {is : List Nat} (h : is.map (fun i => ws[i]?) = wc.map some) : is.filterMap (fun i => ws[i]?) = wc := by
  have h2 := congrArg (List.filterMap id) h
  simpa [List.filterMap_map, Function.comp_def] using h2
section ZR
variable {p : Program} {l : Launch} {e : Env} {R : Room} {s : State} {m : MethodId} {args : Array Value} {below : List Frame} {meth : Method} {c : Code} {H : Heap} {locs : List Loc} {cells slots : Nat} {Q : State → Prop}
variable {cc : ByteArray} {pc : Nat} {ls : Array Slot} {rest : List Value} {dC : Nat → ClassId} {dI : Nat → Nat → Nat} {cI cZ : ClassId} {A : Nat → Prop} {a : Nat} {ws : va_W} {H0 : Heap}
theorem zi_top {x y : Int32} (h : x = y) (k : W p l e R s m args below meth c H locs cells slots Q (F0 m pc ls (.int y :: rest))) : W p l e R s m args below meth c H locs cells slots Q (F0 m pc ls (.int x :: rest)) := by
  rw [h]
  exact k
theorem zi_ald (hexec : p.tables.exec = Jvm.exec) (hb : c.code = cc) (hk : zs_k dC dI cI cZ s) (hP : va_P (dC, dI) zs_cl ws H) (q0 : Nat) {n j : Nat} {f : zs_F} (ha : ws[q0]? = some (a, .inl (cI, n, .inl f))) (hj : j < n) (hn : n < 2 ^ 31) (hdg : decode cc pc = .ok (.iaload, 1))
    (kk : W p l e R s m args below meth c H locs cells slots Q (F0 m (pc + 1) ls (.int (f j) :: rest))) : W p l e R s m args below meth c H locs cells slots Q (F0 m pc ls (.int (nI j) :: .ref a :: rest)) := by
  refine va_iald hexec hb hk.1 hP q0 0 ha rfl (vp_in_nI hj hn) hdg ?_
  rw [nI_clamp (Nat.lt_trans hj hn)]
  exact kk
theorem zi_zld (hexec : p.tables.exec = Jvm.exec) (hb : c.code = cc) (hk : zs_k dC dI cI cZ s) (hP : va_P (dC, dI) zs_cl ws H) (q0 : Nat) {n j : Nat} {f : zs_F} (ha : ws[q0]? = some (a, .inl (cZ, n, .inl f))) (hj : j < n) (hn : n < 2 ^ 31) (hdg : decode cc pc = .ok (.baload, 1))
    (kk : W p l e R s m args below meth c H locs cells slots Q (F0 m (pc + 1) ls (.int (f j) :: rest))) : W p l e R s m args below meth c H locs cells slots Q (F0 m pc ls (.int (nI j) :: .ref a :: rest)) := by
  refine va_zald hexec hb hk.1 hP q0 1 ha rfl (vp_in_nI hj hn) hdg ?_
  rw [nI_clamp (Nat.lt_trans hj hn)]
  exact kk
theorem zi_ast (hexec : p.tables.exec = Jvm.exec) (hb : c.code = cc) (hk : zs_k dC dI cI cZ s) (hP : va_P (dC, dI) zs_cl ws H) (hD : va_D A ws) (hS : va_S A H0 H locs) (q0 : Nat) {n j : Nat} {f : zs_F} (ha : ws[q0]? = some (a, .inl (cI, n, .inl f))) (hj : j < n) (hn : n < 2 ^ 31) {x : Int32} (hdg : decode cc pc = .ok (.iastore, 1))
    (kk : ∀ (H1 : Heap) (locs1 : List Loc), va_P (dC, dI) zs_cl (ws.set q0 (a, .inl (cI, n, .inl (upd f j x)))) H1 → va_D A (ws.set q0 (a, .inl (cI, n, .inl (upd f j x)))) → va_S A H0 H1 locs1 → W p l e R s m args below meth c H1 locs1 cells slots Q (F0 m (pc + 1) ls rest)) : W p l e R s m args below meth c H locs cells slots Q (F0 m pc ls (.int x :: .int (nI j) :: .ref a :: rest)) := by
  refine va_iast hexec hb hk.1 hP hD hS q0 0 ha rfl (vp_in_nI hj hn) hdg ?_
  rw [nI_clamp (Nat.lt_trans hj hn)]
  exact kk
theorem zi_zst (hexec : p.tables.exec = Jvm.exec) (hb : c.code = cc) (hk : zs_k dC dI cI cZ s) (hP : va_P (dC, dI) zs_cl ws H) (hD : va_D A ws) (hS : va_S A H0 H locs) (q0 : Nat) {n j : Nat} {f : zs_F} (ha : ws[q0]? = some (a, .inl (cZ, n, .inl f))) (hj : j < n) (hn : n < 2 ^ 31) {x : Int32} (hdg : decode cc pc = .ok (.bastore, 1))
    (kk : ∀ (H1 : Heap) (locs1 : List Loc), va_P (dC, dI) zs_cl (ws.set q0 (a, .inl (cZ, n, .inl (upd f j (vp_nar .boolean x))))) H1 → va_D A (ws.set q0 (a, .inl (cZ, n, .inl (upd f j (vp_nar .boolean x))))) → va_S A H0 H1 locs1 → W p l e R s m args below meth c H1 locs1 cells slots Q (F0 m (pc + 1) ls rest)) : W p l e R s m args below meth c H locs cells slots Q (F0 m pc ls (.int x :: .int (nI j) :: .ref a :: rest)) := by
  refine va_zast hexec hb hk.1 hP hD hS q0 1 ha rfl (vp_in_nI hj hn) hdg ?_
  rw [nI_clamp (Nat.lt_trans hj hn)]
  exact kk
theorem zi_eq (hexec : p.tables.exec = Jvm.exec) (hb : c.code = cc) {b : Bool} {off : Int} {tgt : Nat} (hdg : decode cc pc = .ok (.ifCond .eq off, 3)) (ht : (pc : Int) + off = (tgt : Int))
    (kt : b = false → W p l e R s m args below meth c H locs cells slots Q (F0 m tgt ls rest)) (kf : b = true → W p l e R s m args below meth c H locs cells slots Q (F0 m (pc + 3) ls rest)) : W p l e R s m args below meth c H locs cells slots Q (F0 m pc ls (.int (zs_b b) :: rest)) :=
  lv_if_eq hexec hb hdg ht (fun h => kt (zs_b_0 h)) (fun h => kf (zs_b_1 h))
theorem zi_ne (hexec : p.tables.exec = Jvm.exec) (hb : c.code = cc) {b : Bool} {off : Int} {tgt : Nat} (hdg : decode cc pc = .ok (.ifCond .ne off, 3)) (ht : (pc : Int) + off = (tgt : Int))
    (kt : b = true → W p l e R s m args below meth c H locs cells slots Q (F0 m tgt ls rest)) (kf : b = false → W p l e R s m args below meth c H locs cells slots Q (F0 m (pc + 3) ls rest)) : W p l e R s m args below meth c H locs cells slots Q (F0 m pc ls (.int (zs_b b) :: rest)) :=
  lv_if_ne hexec hb hdg ht (fun h => kt (zs_b_1 h)) (fun h => kf (zs_b_0 h))
/-- a loop's test, i against its bound: it goes on, it ends -/
theorem zj_in (hexec : p.tables.exec = Jvm.exec) (hb : c.code = cc) {y : Int32} {off : Int} {tgt i n : Nat} (hdg : decode cc pc = .ok (.if_icmp .ge off, 3)) (ht : (pc : Int) + off = (tgt : Int)) (hy : y = nI n) (hi : i < n) (hn : n < 2 ^ 31)
    (kf : W p l e R s m args below meth c H locs cells slots Q (F0 m (pc + 3) ls rest)) : W p l e R s m args below meth c H locs cells slots Q (F0 m pc ls (.int y :: .int (nI i) :: rest)) :=
  lv_icmp_ge hexec hb hdg ht (fun h => absurd (hy ▸ h) (nI_ge hi hn)) (fun _ => kf)
theorem zj_out (hexec : p.tables.exec = Jvm.exec) (hb : c.code = cc) {y : Int32} {off : Int} {tgt i n : Nat} (hdg : decode cc pc = .ok (.if_icmp .ge off, 3)) (ht : (pc : Int) + off = (tgt : Int)) (hy : y = nI n) (hi : n ≤ i) (hn : i < 2 ^ 31)
    (kt : W p l e R s m args below meth c H locs cells slots Q (F0 m tgt ls rest)) : W p l e R s m args below meth c H locs cells slots Q (F0 m pc ls (.int y :: .int (nI i) :: rest)) :=
  lv_icmp_ge hexec hb hdg ht (fun _ => kt) (fun h => absurd (hy ▸ nI_le hi hn) h)
theorem zr_iret {post : Int32 → Prop} {v : Int32} (hexec : p.tables.exec = Jvm.exec) (hb : c.code = cc) (hr : meth.sig.returnType = some .int) (hlocks : meth.locks = false) (hdg : decode cc pc = .ok (.ireturn, 1)) (hp : post v) :
    W p l e R s m args below meth c s.heap [] 0 0 (MQ below (vp_Si post) args s 0 0 (fun _ => False)) (F0 m pc ls [.int v]) :=
  W.iret (v := v) hexec hb hr (fun t ht _ => ⟨v, rfl, hp, ht⟩) (fun _ h => nomatch h) hdg hlocks
theorem zr_zret {post : Int32 → Prop} {v : Int32} (hexec : p.tables.exec = Jvm.exec) (hb : c.code = cc) (hr : meth.sig.returnType = some .boolean) (hlocks : meth.locks = false) (hdg : decode cc pc = .ok (.ireturn, 1)) (hv : narrow .boolean (.int v) = .int v) (hp : post v) :
    W p l e R s m args below meth c s.heap [] 0 0 (MQ below (vp_Si post) args s 0 0 (fun _ => False)) (F0 m pc ls [.int v]) :=
  W.zret (v := v) hexec hb hr hv (fun t ht _ => ⟨v, rfl, hp, ht⟩) (fun _ h => nomatch h) hdg hlocks
theorem zw_iret {S : Type} {post : Int32 → S → Prop} {wf : S → va_W} {v : Int32} (u : S) (hexec : p.tables.exec = Jvm.exec) (hb : c.code = cc) (hr : meth.sig.returnType = some .int) (hlocks : meth.locks = false) (hdg : decode cc pc = .ok (.ireturn, 1)) (hp : post v u) (hP : va_P (dC, dI) zs_cl (wf u) H) (hD : va_D A (wf u)) (hS : va_S A s.heap H locs) :
    W p l e R s m args below meth c H locs cells slots (MQ below (va_Qi post (zs_e dC dI wf A) A) args s cells slots A) (F0 m pc ls [.int v]) :=
  W.iret (v := v) hexec hb hr (fun t ht _ => ⟨⟨v, u, rfl, hp, by rw [ht]; exact hP, hD⟩, hS.F ht⟩) hS.2.2 hdg hlocks
theorem zw_zret {S : Type} {post : Int32 → S → Prop} {wf : S → va_W} {v : Int32} (u : S) (hexec : p.tables.exec = Jvm.exec) (hb : c.code = cc) (hr : meth.sig.returnType = some .boolean) (hlocks : meth.locks = false) (hdg : decode cc pc = .ok (.ireturn, 1)) (hv : narrow .boolean (.int v) = .int v) (hp : post v u) (hP : va_P (dC, dI) zs_cl (wf u) H) (hD : va_D A (wf u)) (hS : va_S A s.heap H locs) :
    W p l e R s m args below meth c H locs cells slots (MQ below (va_Qi post (zs_e dC dI wf A) A) args s cells slots A) (F0 m pc ls [.int v]) :=
  W.zret (v := v) hexec hb hr hv (fun t ht _ => ⟨⟨v, u, rfl, hp, by rw [ht]; exact hP, hD⟩, hS.F ht⟩) hS.2.2 hdg hlocks
/-- a loop that counts up to N and writes nothing; one that writes -/
theorem zl_r {N : Nat} {α : Type} (Inv : Nat → Nat → α → Array Slot → Prop) (step : ∀ k i x ls, i + (k + 1) = N → Inv (k + 1) i x ls → (∀ x' ls', Inv k (i + 1) x' ls' → W p l e R s m args below meth c H locs cells slots Q (F0 m pc ls' rest)) → W p l e R s m args below meth c H locs cells slots Q (F0 m pc ls rest))
    (stop : ∀ x ls, Inv 0 N x ls → W p l e R s m args below meth c H locs cells slots Q (F0 m pc ls rest)) : ∀ k i x ls, i + k = N → Inv k i x ls → W p l e R s m args below meth c H locs cells slots Q (F0 m pc ls rest) := by
  intro k
  induction k with
  | zero =>
    intro i x ls h hv
    have h2 : i = N := by omega
    subst h2
    exact stop x ls hv
  | succ k ih =>
    intro i x ls h hv
    exact step k i x ls h hv (fun x' ls' hv' => ih (i + 1) x' ls' (by omega) hv')
theorem zl_w {N : Nat} {α : Type} (Inv : Nat → Nat → α → Array Slot → Heap → List Loc → Prop) (step : ∀ k i x ls H locs, i + (k + 1) = N → Inv (k + 1) i x ls H locs → (∀ x' ls' H' locs', Inv k (i + 1) x' ls' H' locs' → W p l e R s m args below meth c H' locs' cells slots Q (F0 m pc ls' rest)) → W p l e R s m args below meth c H locs cells slots Q (F0 m pc ls rest))
    (stop : ∀ x ls H locs, Inv 0 N x ls H locs → W p l e R s m args below meth c H locs cells slots Q (F0 m pc ls rest)) : ∀ k i x ls H locs, i + k = N → Inv k i x ls H locs → W p l e R s m args below meth c H locs cells slots Q (F0 m pc ls rest) := by
  intro k
  induction k with
  | zero =>
    intro i x ls H locs h hv
    have h2 : i = N := by omega
    subst h2
    exact stop x ls H locs hv
  | succ k ih =>
    intro i x ls H locs h hv
    exact step k i x ls H locs h hv (fun x' ls' H' locs' hv' => ih (i + 1) x' ls' H' locs' (by omega) hv')
theorem zw_vret {S : Type} {post : S → Prop} {wf : S → va_W} (u : S) (hexec : p.tables.exec = Jvm.exec) (hb : c.code = cc) (hr : meth.sig.returnType = none) (hlocks : meth.locks = false) (hdg : decode cc pc = .ok (.return_, 1)) (hp : post u) (hP : va_P (dC, dI) zs_cl (wf u) H) (hD : va_D A (wf u)) (hS : va_S A s.heap H locs) :
    W p l e R s m args below meth c H locs cells slots (MQ below (va_Qv post (zs_e dC dI wf A) A) args s cells slots A) (F0 m pc ls []) :=
  W.vret hexec hb hr (fun t ht _ => ⟨⟨u, rfl, hp, by rw [ht]; exact hP, hD⟩, hS.F ht⟩) hS.2.2 hdg hlocks
theorem zc_cr {mc ms : Nat} {g : JFrame} {Qa : State → Outcome → State → Prop} {free : Addr → Prop} (hr : va_Run p l e R s m args below meth c H locs cells slots mc ms g rest Qa free) : CallRun p l e R s m args below meth c H locs cells slots mc ms g rest Qa free := by
  intro T hT X
  obtain ⟨v, st₀, t, T', L, h0, X', hL, e1, -, hq, st⟩ := hr T hT X
  exact ⟨v, st₀, t, T', L, h0, X', hL, e1, hq, st⟩
variable {y : MethodName} {bytes : ByteArray} {maxL nL n index : Nat} {ret : Option FieldType} {rm : Room} {own host C : String} {b : Nat} {wc : va_W} {st0 : List Value} {q : vw_C} {fs : List Value}
/-- a call that only reads: of a method by its own link -/
theorem zc_rV {post : Int32 → Prop} (As : List Value) (hexec : p.tables.exec = Jvm.exec) (hb : c.code = cc) (hml : c.maxLocals = nL) (hown : s.vm.findClass own = some m.cls) (hz : ∀ w ∈ zs_w, w.before args s = true)
    (hM : Met l y (Cond.code y bytes maxL ret :: zs_w) rm (va_Pc (.ref b :: As) (zs_r dC dI cI cZ wc)) (vp_Si post) 0 0 (fun _ => False)) (hF : zs_f y bytes maxL ret n) (hrc : rm.cells = 0) (hrs : rm.slots = 0)
    (hl : Cond.methodLink own index y ∈ zs_w) (hin : Cond.instanceMethod y ∈ zs_w) (hse : Cond.selects C y y ∈ zs_w) (hR : rm.frames + 1 ≤ R.frames ∧ 8 + (maxL + 11) + rm.locals ≤ R.locals)
    (hk : zs_k dC dI cI cZ s) (hP : va_P (dC, dI) zs_cl wc H) (q0 ci : Nat) (hc : zs_cl[ci]? = some q) (hC : q.1 = C) (he : wc[q0]? = some (b, .inr (ci, fs)))
    (hn : As.length = n) (hsize : ls.size = nL) (hst : st0 = As.reverse ++ .ref b :: rest) (hW : (rest.map fun v => v.category).sum ≤ 8) (hdg : decode cc pc = .ok (.invokevirtual index, 3)) (hf : cells ≤ R.cells ∧ slots ≤ R.slots)
    (kk : ∀ r : Int32, post r → W p l e R s m args below meth c H locs cells slots Q (F0 m (pc + 3) ls (.int r :: rest))) : W p l e R s m args below meth c H locs cells slots Q (F0 m pc ls st0) := by
  subst hC
  exact vp_callSi (W.runV ⟨hexec, hb, hml, hown, hz⟩ hM ⟨callB_of n hz (zs_gi hF.1) rfl hrc hrs (hz _ hF.2.1) (hz _ hl) hF.2.2 hR, hz _ hin, hz _ hse⟩ ⟨zs_r.blind, va_recv hk.1 hP hc he, fun U hU hw => ⟨rfl, by rw [hU]; exact hP, hk.warm hw⟩⟩ rfl hn hsize hst (lv_room hW) hdg hf) kk
/-- the same, of a nest mate's method -/
theorem zc_rN {post : Int32 → Prop} (As : List Value) (hexec : p.tables.exec = Jvm.exec) (hb : c.code = cc) (hml : c.maxLocals = nL) (hown : s.vm.findClass own = some m.cls) (hz : ∀ w ∈ zs_w, w.before args s = true)
    (hM : Met l y (Cond.code y bytes maxL ret :: zs_w) rm (va_Pc (.ref b :: As) (zs_r dC dI cI cZ wc)) (vp_Si post) 0 0 (fun _ => False)) (hF : zs_f y bytes maxL ret n) (hrc : rm.cells = 0) (hrs : rm.slots = 0)
    (hl : Cond.methodLinkNest own index y host ∈ zs_n) (hin : Cond.instanceMethod y ∈ zs_w) (hse : Cond.selects C y y ∈ zs_w) (hR : rm.frames + 1 ≤ R.frames ∧ 8 + (maxL + 11) + rm.locals ≤ R.locals)
    (hk : zs_k dC dI cI cZ s) (hP : va_P (dC, dI) zs_cl wc H) (q0 ci : Nat) (hc : zs_cl[ci]? = some q) (hC : q.1 = C) (he : wc[q0]? = some (b, .inr (ci, fs)))
    (hn : As.length = n) (hsize : ls.size = nL) (hst : st0 = As.reverse ++ .ref b :: rest) (hW : (rest.map fun v => v.category).sum ≤ 8) (hdg : decode cc pc = .ok (.invokevirtual index, 3)) (hf : cells ≤ R.cells ∧ slots ≤ R.slots)
    (kk : ∀ r : Int32, post r → W p l e R s m args below meth c H locs cells slots Q (F0 m (pc + 3) ls (.int r :: rest))) : W p l e R s m args below meth c H locs cells slots Q (F0 m pc ls st0) := by
  subst hC
  exact vp_callSi (zc_cr (va_runVN ⟨hexec, hb, hml, hown, hz⟩ hM ⟨va_cnB n hz (zs_gi hF.1) rfl hrc hrs (hk.2 _ hl) (hz _ hF.2.1) hF.2.2 hR, hz _ hin, hz _ hse⟩ ⟨zs_r.blind, va_recv hk.1 hP hc he, fun U hU hw => ⟨rfl, by rw [hU]; exact hP, hk.warm hw⟩⟩ rfl hn hsize hst (lv_room hW) hdg hf)) kk
/-- a static method of ints alone -/
theorem zc_rS {post : Int32 → Prop} (As : List Value) (hexec : p.tables.exec = Jvm.exec) (hb : c.code = cc) (hml : c.maxLocals = nL) (hown : s.vm.findClass own = some m.cls) (hz : ∀ w ∈ zs_w, w.before args s = true)
    (hM : Met l y (Cond.code y bytes maxL ret :: zs_w) rm (va_Pc As (fun _ => True)) (vp_Si post) 0 0 (fun _ => False)) (hF : zs_f y bytes maxL ret n) (hrc : rm.cells = 0) (hrs : rm.slots = 0)
    (hl : Cond.methodLink own index y ∈ zs_w) (hin : Cond.static y ∈ zs_w) (hR : rm.frames + 1 ≤ R.frames ∧ 8 + (maxL + 11) + rm.locals ≤ R.locals)
    (hn : As.length = n) (hsize : ls.size = nL) (hst : st0 = As.reverse ++ rest) (hW : (rest.map fun v => v.category).sum ≤ 8) (hdg : decode cc pc = .ok (.invokestatic index, 3)) (hf : cells ≤ R.cells ∧ slots ≤ R.slots)
    (kk : ∀ r : Int32, post r → W p l e R s m args below meth c H locs cells slots Q (F0 m (pc + 3) ls (.int r :: rest))) : W p l e R s m args below meth c H locs cells slots Q (F0 m pc ls st0) :=
  vp_callSi (W.runS ⟨hexec, hb, hml, hown, hz⟩ hM ⟨callB_of n hz (zs_gi hF.1) rfl hrc hrs (hz _ hF.2.1) (hz _ hl) hF.2.2 hR, hz _ hin⟩ ⟨fun _ _ _ _ q => q, fun _ _ _ => ⟨rfl, trivial⟩⟩ rfl hn hsize hst (lv_room hW) hdg hf) kk
/-- a call that may write its own cells (the places isC of the caller's world), by its own link -/
theorem zc_wV {S : Type} {post : Int32 → S → Prop} {w1 : S → va_W} {wr : va_W} (As : List Value) (hexec : p.tables.exec = Jvm.exec) (hb : c.code = cc) (hml : c.maxLocals = nL) (hown : s.vm.findClass own = some m.cls) (hz : ∀ w ∈ zs_w, w.before args s = true)
    (hM : Met l y (Cond.code y bytes maxL ret :: zs_w) rm (va_Pc (.ref b :: As) (zs_s dC dI cI cZ H.size wc)) (va_Qi post (zs_e dC dI w1 (va_A wc H.size)) (va_A wc H.size)) 0 0 (va_A wc H.size)) (hF : zs_f y bytes maxL ret n) (hrc : rm.cells = 0) (hrs : rm.slots = 0)
    (hl : Cond.methodLink own index y ∈ zs_w) (hin : Cond.instanceMethod y ∈ zs_w) (hse : Cond.selects C y y ∈ zs_w) (hR : rm.frames + 1 ≤ R.frames ∧ 8 + (maxL + 11) + rm.locals ≤ R.locals)
    (hk : zs_k dC dI cI cZ s) (hP : va_P (dC, dI) zs_cl ws H) (hD : va_D A ws) (hS : va_S A H0 H locs) (hA : ∀ q : Nat, H0.size ≤ q → A q) (isC isR : List Nat) (hic : isC.map (fun i => ws[i]?) = wc.map some) (hir : isR.map (fun i => ws[i]?) = wr.map some) (hnc : va_nd isC = true) (hnr : va_nd isR = true) (hdis : ∀ i ∈ isR, i ∉ isC)
    (q0 ci : Nat) (hc : zs_cl[ci]? = some q) (hC : q.1 = C) (he : wc[q0]? = some (b, .inr (ci, fs)))
    (hn : As.length = n) (hsize : ls.size = nL) (hst : st0 = As.reverse ++ .ref b :: rest) (hW : (rest.map fun v => v.category).sum ≤ 8) (hdg : decode cc pc = .ok (.invokevirtual index, 3)) (hf : cells ≤ R.cells ∧ slots ≤ R.slots)
    (kk : ∀ (r : Int32) (u : S) (H1 : Heap) (locs1 : List Loc), post r u → va_P (dC, dI) zs_cl (wr ++ w1 u) H1 → va_D A (wr ++ w1 u) → va_S A H0 H1 locs1 → W p l e R s m args below meth c H1 locs1 cells slots Q (F0 m (pc + 3) ls (.int r :: rest))) : W p l e R s m args below meth c H locs cells slots Q (F0 m pc ls st0) := by
  subst hC
  have hPc : va_P (dC, dI) zs_cl wc H := hP.sub isC (zs_fm hic)
  have hDc : va_D A wc := hD.sub isC hnc hic
  have hFc := va_free (wc := wc) hD hS hA isC hic
  refine va_calli (va_runV ⟨hexec, hb, hml, hown, hz⟩ hM ⟨callB_of n hz (zs_gi hF.1) rfl hrc hrs (hz _ hF.2.1) (hz _ hl) hF.2.2 hR, hz _ hin, hz _ hse⟩ ⟨zs_s.blind, va_recv hk.1 hPc hc he, fun U hU hw => ⟨rfl, by rw [hU], by rw [hU]; exact hPc, hk.warm hw, hDc.weaken (fun _ _ _ _ => trivial)⟩⟩ rfl hn hsize hst (lv_room hW) hdg hf) hS (fun q _ h => hFc q h) hFc (fun r u t H1 locs1 ht _ hp hB _ hk1 hS1 => ?_)
  obtain ⟨hP1, hD1⟩ := hB
  rw [ht] at hP1
  obtain ⟨hP2, hD2⟩ := va_join (wr := wr) (w1 := w1 u) hP hD isC isR hic hir hnr hdis hk1 hFc hP1 hD1
  exact kk r u H1 locs1 hp hP2 hD2 hS1
/-- a nest mate's method without an answer -/
theorem zc_wN {S : Type} {post : S → Prop} {w1 : S → va_W} {wr : va_W} (As : List Value) (hexec : p.tables.exec = Jvm.exec) (hb : c.code = cc) (hml : c.maxLocals = nL) (hown : s.vm.findClass own = some m.cls) (hz : ∀ w ∈ zs_w, w.before args s = true)
    (hM : Met l y (Cond.code y bytes maxL ret :: zs_w) rm (va_Pc (.ref b :: As) (zs_s dC dI cI cZ H.size wc)) (va_Qv post (zs_e dC dI w1 (va_A wc H.size)) (va_A wc H.size)) 0 0 (va_A wc H.size)) (hF : zs_f y bytes maxL ret n) (hrc : rm.cells = 0) (hrs : rm.slots = 0)
    (hl : Cond.methodLinkNest own index y host ∈ zs_n) (hin : Cond.instanceMethod y ∈ zs_w) (hse : Cond.selects C y y ∈ zs_w) (hR : rm.frames + 1 ≤ R.frames ∧ 8 + (maxL + 11) + rm.locals ≤ R.locals)
    (hk : zs_k dC dI cI cZ s) (hP : va_P (dC, dI) zs_cl ws H) (hD : va_D A ws) (hS : va_S A H0 H locs) (hA : ∀ q : Nat, H0.size ≤ q → A q) (isC isR : List Nat) (hic : isC.map (fun i => ws[i]?) = wc.map some) (hir : isR.map (fun i => ws[i]?) = wr.map some) (hnc : va_nd isC = true) (hnr : va_nd isR = true) (hdis : ∀ i ∈ isR, i ∉ isC)
    (q0 ci : Nat) (hc : zs_cl[ci]? = some q) (hC : q.1 = C) (he : wc[q0]? = some (b, .inr (ci, fs)))
    (hn : As.length = n) (hsize : ls.size = nL) (hst : st0 = As.reverse ++ .ref b :: rest) (hW : (rest.map fun v => v.category).sum ≤ 8) (hdg : decode cc pc = .ok (.invokevirtual index, 3)) (hf : cells ≤ R.cells ∧ slots ≤ R.slots)
    (kk : ∀ (u : S) (H1 : Heap) (locs1 : List Loc), post u → va_P (dC, dI) zs_cl (wr ++ w1 u) H1 → va_D A (wr ++ w1 u) → va_S A H0 H1 locs1 → W p l e R s m args below meth c H1 locs1 cells slots Q (F0 m (pc + 3) ls rest)) : W p l e R s m args below meth c H locs cells slots Q (F0 m pc ls st0) := by
  subst hC
  have hPc : va_P (dC, dI) zs_cl wc H := hP.sub isC (zs_fm hic)
  have hDc : va_D A wc := hD.sub isC hnc hic
  have hFc := va_free (wc := wc) hD hS hA isC hic
  refine va_callv (va_runVN ⟨hexec, hb, hml, hown, hz⟩ hM ⟨va_cnB n hz (zs_gi hF.1) rfl hrc hrs (hk.2 _ hl) (hz _ hF.2.1) hF.2.2 hR, hz _ hin, hz _ hse⟩ ⟨zs_s.blind, va_recv hk.1 hPc hc he, fun U hU hw => ⟨rfl, by rw [hU], by rw [hU]; exact hPc, hk.warm hw, hDc.weaken (fun _ _ _ _ => trivial)⟩⟩ rfl hn hsize hst (lv_room hW) hdg hf) hS (fun q _ h => hFc q h) hFc (fun u t H1 locs1 ht _ hp hB _ hk1 hS1 => ?_)
  obtain ⟨hP1, hD1⟩ := hB
  rw [ht] at hP1
  obtain ⟨hP2, hD2⟩ := va_join (wr := wr) (w1 := w1 u) hP hD isC isR hic hir hnr hdis hk1 hFc hP1 hD1
  exact kk u H1 locs1 hp hP2 hD2 hS1
end ZR
/-! the worlds: the contents at q0 .., the shelf at a 0 .., the reference at a 0 .. -/
abbrev zs_wC (cI cZ : ClassId) (q0 q1 q2 q3 q4 q5 : Nat) (u : zs_C) : va_W := [(q0, .inr (1, [.ref q1, .ref q2, .ref q3, .ref q4, .ref q5])), (q1, .inl (cI, 24, .inl u.1)), (q2, .inl (cI, 24, .inl u.2.1)), (q3, .inl (cI, 24, .inl u.2.2.1)), (q4, .inl (cZ, 24, .inl u.2.2.2.1)), (q5, .inl (cI, 1536, .inl u.2.2.2.2))]
abbrev zs_wX (cI cZ : ClassId) (a : Nat → Nat) (u : zs_X) : va_W := [(a 0, .inr (0, [.ref (a 1), .ref (a 7), .int (zs_b u.1)])), (a 1, .inr (1, [.ref (a 2), .ref (a 3), .ref (a 4), .ref (a 5), .ref (a 6)])), (a 2, .inl (cI, 24, .inl u.2.1.1)), (a 3, .inl (cI, 24, .inl u.2.1.2.1)), (a 4, .inl (cI, 24, .inl u.2.1.2.2.1)), (a 5, .inl (cZ, 24, .inl u.2.1.2.2.2.1)), (a 6, .inl (cI, 1536, .inl u.2.1.2.2.2.2)), (a 7, .inr (1, [.ref (a 8), .ref (a 9), .ref (a 10), .ref (a 11), .ref (a 12)])), (a 8, .inl (cI, 24, .inl u.2.2.1)), (a 9, .inl (cI, 24, .inl u.2.2.2.1)), (a 10, .inl (cI, 24, .inl u.2.2.2.2.1)), (a 11, .inl (cZ, 24, .inl u.2.2.2.2.2.1)), (a 12, .inl (cI, 1536, .inl u.2.2.2.2.2.2))]
abbrev zs_wM (cI cZ : ClassId) (a : Nat → Nat) (u : zs_X) : va_W := [(a 0, .inr (2, [.int (zs_b u.1), .ref (a 1), .ref (a 2), .ref (a 3), .ref (a 4), .ref (a 5), .ref (a 6), .ref (a 7), .ref (a 8), .ref (a 9), .ref (a 10)])), (a 1, .inl (cI, 24, .inl u.2.1.1)), (a 2, .inl (cI, 24, .inl u.2.1.2.1)), (a 3, .inl (cI, 24, .inl u.2.1.2.2.1)), (a 4, .inl (cZ, 24, .inl u.2.1.2.2.2.1)), (a 5, .inl (cI, 1536, .inl u.2.1.2.2.2.2)), (a 6, .inl (cI, 24, .inl u.2.2.1)), (a 7, .inl (cI, 24, .inl u.2.2.2.1)), (a 8, .inl (cI, 24, .inl u.2.2.2.2.1)), (a 9, .inl (cZ, 24, .inl u.2.2.2.2.2.1)), (a 10, .inl (cI, 1536, .inl u.2.2.2.2.2.2))]
section ZI
variable {p : Program} {l : Launch} {e : Env} {R : Room} {s : State} {m : MethodId} {args : Array Value} {below : List Frame} {meth : Method} {c : Code} {H : Heap} {locs : List Loc} {cells slots : Nat} {Q : State → Prop}
variable {cc : ByteArray} {pc : Nat} {ls : Array Slot} {rest : List Value} {dC : Nat → ClassId} {dI : Nat → Nat → Nat} {cI cZ : ClassId} {A : Nat → Prop} {ws : va_W} {H0 : Heap}
variable {y : MethodName} {bytes : ByteArray} {maxL nL n index mc ms : Nat} {rm : Room} {own host : String} {b : Nat} {wc : va_W} {st0 : List Value}
/-- an array is made: its kind is the one that is known -/
theorem zi_newi (hexec : p.tables.exec = Jvm.exec) (hb : c.code = cc) (hz : ∀ w ∈ zs_w, w.before args s = true) (ha : Cond.arrayClass .int ∈ zs_w) (hk : zs_k dC dI cI cZ s) (hP : va_P (dC, dI) zs_cl ws H) (hD : va_D A ws) (hS : va_S A H0 H locs) (hA : ∀ q : Nat, H0.size ≤ q → A q) {k : Int32} {N : Nat} (h0 : ¬ k < 0) (hN : k.toNatClampNeg = N) (hbytes : N * componentBytes .int ≤ 536870912) (hcells : cells + 1 ≤ R.cells) (hslots : slots + N ≤ R.slots) (hdg : decode cc pc = .ok (.newarray .int, 2))
    (kk : ∀ (q : Nat) (H1 : Heap), va_P (dC, dI) zs_cl (ws ++ [(q, .inl (cI, N, .inl (fun _ => 0)))]) H1 → va_D A (ws ++ [(q, .inl (cI, N, .inl (fun _ => 0)))]) → va_S A H0 H1 locs → W p l e R s m args below meth c H1 locs (cells + 1) (slots + N) Q (F0 m (pc + 2) ls (.ref q :: rest))) : W p l e R s m args below meth c H locs cells slots Q (F0 m pc ls (.int k :: rest)) := by
  refine va_newa (atype := .int) (ty := .int) (N' := N) (a0 := (N, .inl (fun _ => 0))) hexec hb (hz _ ha) rfl hk.1 hP hD hS hA (fun _ => rfl) h0 hN hbytes hcells hslots hdg (fun q cA H1 hK1 hP1 hD1 hS1 => ?_)
  have e1 : s.vm.findClass ("[" ++ FieldType.int.toString) = some cA := (hK1.2 2 (cA, .int) rfl).2
  have e2 : s.vm.findClass ("[" ++ FieldType.int.toString) = some cI := (hk.1.2 0 (cI, .int) rfl).2
  have e3 : cA = cI := Option.some.inj (e1.symm.trans e2)
  subst e3
  exact kk q H1 hP1 hD1 hS1
theorem zi_newz (hexec : p.tables.exec = Jvm.exec) (hb : c.code = cc) (hz : ∀ w ∈ zs_w, w.before args s = true) (ha : Cond.arrayClass .boolean ∈ zs_w) (hk : zs_k dC dI cI cZ s) (hP : va_P (dC, dI) zs_cl ws H) (hD : va_D A ws) (hS : va_S A H0 H locs) (hA : ∀ q : Nat, H0.size ≤ q → A q) {k : Int32} {N : Nat} (h0 : ¬ k < 0) (hN : k.toNatClampNeg = N) (hbytes : N * componentBytes .boolean ≤ 536870912) (hcells : cells + 1 ≤ R.cells) (hslots : slots + N ≤ R.slots) (hdg : decode cc pc = .ok (.newarray .boolean, 2))
    (kk : ∀ (q : Nat) (H1 : Heap), va_P (dC, dI) zs_cl (ws ++ [(q, .inl (cZ, N, .inl (fun _ => 0)))]) H1 → va_D A (ws ++ [(q, .inl (cZ, N, .inl (fun _ => 0)))]) → va_S A H0 H1 locs → W p l e R s m args below meth c H1 locs (cells + 1) (slots + N) Q (F0 m (pc + 2) ls (.ref q :: rest))) : W p l e R s m args below meth c H locs cells slots Q (F0 m pc ls (.int k :: rest)) := by
  refine va_newa (atype := .boolean) (ty := .boolean) (N' := N) (a0 := (N, .inl (fun _ => 0))) hexec hb (hz _ ha) rfl hk.1 hP hD hS hA (fun _ => rfl) h0 hN hbytes hcells hslots hdg (fun q cA H1 hK1 hP1 hD1 hS1 => ?_)
  have e1 : s.vm.findClass ("[" ++ FieldType.boolean.toString) = some cA := (hK1.2 2 (cA, .boolean) rfl).2
  have e2 : s.vm.findClass ("[" ++ FieldType.boolean.toString) = some cZ := (hk.1.2 1 (cZ, .boolean) rfl).2
  have e3 : cA = cZ := Option.some.inj (e1.symm.trans e2)
  subst e3
  exact kk q H1 hP1 hD1 hS1
/-- a constructor without arguments: of a nest mate, of another -/
theorem zc_iN {S : Type} {post : S → Prop} {w1 : S → va_W} {wr : va_W} (hexec : p.tables.exec = Jvm.exec) (hb : c.code = cc) (hml : c.maxLocals = nL) (hown : s.vm.findClass own = some m.cls) (hz : ∀ w ∈ zs_w, w.before args s = true)
    (hM : Met l y (Cond.code y bytes maxL none :: zs_w) rm (va_Pc [.ref b] (zs_s dC dI cI cZ H.size wc)) (va_Qv post (zs_e dC dI w1 (va_A wc H.size)) (va_A wc H.size)) mc ms (va_A wc H.size)) (hF : zs_f y bytes maxL none 0) (hrc : rm.cells = mc) (hrs : rm.slots = ms)
    (hl : Cond.methodLinkNest own index y host ∈ zs_n) (hin : Cond.instanceMethod y ∈ zs_w) (hy : y.name = "<init>") (hR : rm.frames + 1 ≤ R.frames ∧ 8 + (maxL + 11) + rm.locals ≤ R.locals)
    (hk : zs_k dC dI cI cZ s) (hP : va_P (dC, dI) zs_cl ws H) (hD : va_D A ws) (hS : va_S A H0 H locs) (hA : ∀ q : Nat, H0.size ≤ q → A q) (isC isR : List Nat) (hic : isC.map (fun i => ws[i]?) = wc.map some) (hir : isR.map (fun i => ws[i]?) = wr.map some) (hnc : va_nd isC = true) (hnr : va_nd isR = true) (hdis : ∀ i ∈ isR, i ∉ isC)
    (hsize : ls.size = nL) (hst : st0 = .ref b :: rest) (hW : (rest.map fun v => v.category).sum ≤ 8) (hdg : decode cc pc = .ok (.invokespecial index, 3)) (hf : cells + mc ≤ R.cells ∧ slots + ms ≤ R.slots)
    (kk : ∀ (u : S) (H1 : Heap) (locs1 : List Loc), post u → va_P (dC, dI) zs_cl (wr ++ w1 u) H1 → va_D A (wr ++ w1 u) → va_S A H0 H1 locs1 → W p l e R s m args below meth c H1 locs1 (cells + mc) (slots + ms) Q (F0 m (pc + 3) ls rest)) : W p l e R s m args below meth c H locs cells slots Q (F0 m pc ls st0) := by
  have hPc : va_P (dC, dI) zs_cl wc H := hP.sub isC (zs_fm hic)
  have hDc : va_D A wc := hD.sub isC hnc hic
  have hFc := va_free (wc := wc) hD hS hA isC hic
  refine va_callv (va_runIN (As := []) ⟨hexec, hb, hml, hown, hz⟩ hM ⟨va_cnB 0 hz (zs_gi hF.1) rfl hrc hrs (hk.2 _ hl) (hz _ hF.2.1) hF.2.2 hR, hy, hz _ hin⟩ ⟨zs_s.blind, fun U hU hw => ⟨rfl, by rw [hU], by rw [hU]; exact hPc, hk.warm hw, hDc.weaken (fun _ _ _ _ => trivial)⟩⟩ rfl rfl hsize hst (lv_room hW) hdg hf) hS (fun q _ h => hFc q h) hFc (fun u t H1 locs1 ht _ hp hB _ hk1 hS1 => ?_)
  obtain ⟨hP1, hD1⟩ := hB
  rw [ht] at hP1
  obtain ⟨hP2, hD2⟩ := va_join (wr := wr) (w1 := w1 u) hP hD isC isR hic hir hnr hdis hk1 hFc hP1 hD1
  exact kk u H1 locs1 hp hP2 hD2 hS1
theorem zc_iV {S : Type} {post : S → Prop} {w1 : S → va_W} {wr : va_W} (hexec : p.tables.exec = Jvm.exec) (hb : c.code = cc) (hml : c.maxLocals = nL) (hown : s.vm.findClass own = some m.cls) (hz : ∀ w ∈ zs_w, w.before args s = true)
    (hM : Met l y (Cond.code y bytes maxL none :: zs_w) rm (va_Pc [.ref b] (zs_s dC dI cI cZ H.size wc)) (va_Qv post (zs_e dC dI w1 (va_A wc H.size)) (va_A wc H.size)) mc ms (va_A wc H.size)) (hF : zs_f y bytes maxL none 0) (hrc : rm.cells = mc) (hrs : rm.slots = ms)
    (hl : Cond.methodLink own index y ∈ zs_w) (hin : Cond.instanceMethod y ∈ zs_w) (hy : y.name = "<init>") (hR : rm.frames + 1 ≤ R.frames ∧ 8 + (maxL + 11) + rm.locals ≤ R.locals)
    (hk : zs_k dC dI cI cZ s) (hP : va_P (dC, dI) zs_cl ws H) (hD : va_D A ws) (hS : va_S A H0 H locs) (hA : ∀ q : Nat, H0.size ≤ q → A q) (isC isR : List Nat) (hic : isC.map (fun i => ws[i]?) = wc.map some) (hir : isR.map (fun i => ws[i]?) = wr.map some) (hnc : va_nd isC = true) (hnr : va_nd isR = true) (hdis : ∀ i ∈ isR, i ∉ isC)
    (hsize : ls.size = nL) (hst : st0 = .ref b :: rest) (hW : (rest.map fun v => v.category).sum ≤ 8) (hdg : decode cc pc = .ok (.invokespecial index, 3)) (hf : cells + mc ≤ R.cells ∧ slots + ms ≤ R.slots)
    (kk : ∀ (u : S) (H1 : Heap) (locs1 : List Loc), post u → va_P (dC, dI) zs_cl (wr ++ w1 u) H1 → va_D A (wr ++ w1 u) → va_S A H0 H1 locs1 → W p l e R s m args below meth c H1 locs1 (cells + mc) (slots + ms) Q (F0 m (pc + 3) ls rest)) : W p l e R s m args below meth c H locs cells slots Q (F0 m pc ls st0) := by
  have hPc : va_P (dC, dI) zs_cl wc H := hP.sub isC (zs_fm hic)
  have hDc : va_D A wc := hD.sub isC hnc hic
  have hFc := va_free (wc := wc) hD hS hA isC hic
  refine va_callv (va_runI (As := []) ⟨hexec, hb, hml, hown, hz⟩ hM ⟨callB_of 0 hz (zs_gi hF.1) rfl hrc hrs (hz _ hF.2.1) (hz _ hl) hF.2.2 hR, hy, hz _ hin⟩ ⟨zs_s.blind, fun U hU hw => ⟨rfl, by rw [hU], by rw [hU]; exact hPc, hk.warm hw, hDc.weaken (fun _ _ _ _ => trivial)⟩⟩ rfl rfl hsize hst (lv_room hW) hdg hf) hS (fun q _ h => hFc q h) hFc (fun u t H1 locs1 ht _ hp hB _ hk1 hS1 => ?_)
  obtain ⟨hP1, hD1⟩ := hB
  rw [ht] at hP1
  obtain ⟨hP2, hD2⟩ := va_join (wr := wr) (w1 := w1 u) hP hD isC isR hic hir hnr hdis hk1 hFc hP1 hD1
  exact kk u H1 locs1 hp hP2 hD2 hS1
/-- a static method without an answer that writes -/
theorem zc_wS {S : Type} {post : S → Prop} {w1 : S → va_W} {wr : va_W} (As : List Value) (hexec : p.tables.exec = Jvm.exec) (hb : c.code = cc) (hml : c.maxLocals = nL) (hown : s.vm.findClass own = some m.cls) (hz : ∀ w ∈ zs_w, w.before args s = true)
    (hM : Met l y (Cond.code y bytes maxL none :: zs_w) rm (va_Pc As (zs_s dC dI cI cZ H.size wc)) (va_Qv post (zs_e dC dI w1 (va_A wc H.size)) (va_A wc H.size)) 0 0 (va_A wc H.size)) (hF : zs_f y bytes maxL none n) (hrc : rm.cells = 0) (hrs : rm.slots = 0)
    (hl : Cond.methodLink own index y ∈ zs_w) (hin : Cond.static y ∈ zs_w) (hR : rm.frames + 1 ≤ R.frames ∧ 8 + (maxL + 11) + rm.locals ≤ R.locals)
    (hk : zs_k dC dI cI cZ s) (hP : va_P (dC, dI) zs_cl ws H) (hD : va_D A ws) (hS : va_S A H0 H locs) (hA : ∀ q : Nat, H0.size ≤ q → A q) (isC isR : List Nat) (hic : isC.map (fun i => ws[i]?) = wc.map some) (hir : isR.map (fun i => ws[i]?) = wr.map some) (hnc : va_nd isC = true) (hnr : va_nd isR = true) (hdis : ∀ i ∈ isR, i ∉ isC)
    (hn : As.length = n) (hsize : ls.size = nL) (hst : st0 = As.reverse ++ rest) (hW : (rest.map fun v => v.category).sum ≤ 8) (hdg : decode cc pc = .ok (.invokestatic index, 3)) (hf : cells ≤ R.cells ∧ slots ≤ R.slots)
    (kk : ∀ (u : S) (H1 : Heap) (locs1 : List Loc), post u → va_P (dC, dI) zs_cl (wr ++ w1 u) H1 → va_D A (wr ++ w1 u) → va_S A H0 H1 locs1 → W p l e R s m args below meth c H1 locs1 cells slots Q (F0 m (pc + 3) ls rest)) : W p l e R s m args below meth c H locs cells slots Q (F0 m pc ls st0) := by
  have hPc : va_P (dC, dI) zs_cl wc H := hP.sub isC (zs_fm hic)
  have hDc : va_D A wc := hD.sub isC hnc hic
  have hFc := va_free (wc := wc) hD hS hA isC hic
  refine va_callv (va_runS ⟨hexec, hb, hml, hown, hz⟩ hM ⟨callB_of n hz (zs_gi hF.1) rfl hrc hrs (hz _ hF.2.1) (hz _ hl) hF.2.2 hR, hz _ hin⟩ ⟨zs_s.blind, fun U hU hw => ⟨rfl, by rw [hU], by rw [hU]; exact hPc, hk.warm hw, hDc.weaken (fun _ _ _ _ => trivial)⟩⟩ rfl hn hsize hst (lv_room hW) hdg hf) hS (fun q _ h => hFc q h) hFc (fun u t H1 locs1 ht _ hp hB _ hk1 hS1 => ?_)
  obtain ⟨hP1, hD1⟩ := hB
  rw [ht] at hP1
  obtain ⟨hP2, hD2⟩ := va_join (wr := wr) (w1 := w1 u) hP hD isC isR hic hir hnr hdis hk1 hFc hP1 hD1
  exact kk u H1 locs1 hp hP2 hD2 hS1
/-- the script's places -/
theorem zi_sld {L i : Nat} {xs : Nat → Int32} (hexec : p.tables.exec = Jvm.exec) (hb : c.code = cc) (hX : va_X b L xs s H0) (hbl : b < H0.size) (hbA : ¬ A b) (hS : va_S A H0 H locs) (hi : i < L) (hL : L ≤ 2048) (hdg : decode cc pc = .ok (.iaload, 1))
    (kk : W p l e R s m args below meth c H locs cells slots Q (F0 m (pc + 1) ls (.int (xs i) :: rest))) : W p l e R s m args below meth c H locs cells slots Q (F0 m pc ls (.int (nI i) :: .ref b :: rest)) := by
  refine va_sld hexec hb hX hbl hbA hS (vp_in_nI hi (by omega)) hdg ?_
  rw [nI_clamp (by omega)]
  exact kk
end ZI
end
section
set_option maxHeartbeats 4000000 in
set_option maxRecDepth 100000 in
theorem zc_C_isTaken (l : Launch) (dC : Nat → ClassId) (dI : Nat → Nat → Nat) (cI cZ : ClassId) (q0 q1 q2 q3 q4 q5 : Nat) (u : zs_C) (j : Nat) (hj : j < 24) : Met l zy_C_isTaken (.code zy_C_isTaken zb_C_isTaken 2 (some .boolean) :: zs_w) ({ frames := 0, cells := 0, slots := 0, locals := 0 }) (va_Pc [.ref q0, .int (nI j)] (zs_r dC dI cI cZ (zs_wC cI cZ q0 q1 q2 q3 q4 q5 u))) (vp_Si (fun r => r = zs_b (zs_t u.1 j))) 0 0 (fun _ => False) := by
  obtain ⟨nm, hi, ln, op, wd⟩ := u
  refine Met.ofW (cc := zb_C_isTaken) (maxL := 2) (ret := (some .boolean)) (by decide) rfl ?_
  intro p e s m args below meth c s₁ B hml hv
  obtain ⟨rfl, hP, hk⟩ := hv
  have hx := B.exec
  have hb := B.bytes
  have hr := B.returns
  have hts := atoms_spec (ws := .code zy_C_isTaken zb_C_isTaken 2 (some .boolean) :: zs_w) B.pre
  have hz : ∀ w ∈ zs_w, w.before _ s = true := fun w h => hts w (List.mem_cons_of_mem _ h)
  have hown : s.vm.findClass "ZoneShelf$Contents" = some m.cls := findClass_of_methodNamed B.named
  have hlocks := B.notSynchronized
  have hP : va_P (dC, dI) zs_cl [(q0, .inr (1, [.ref q1, .ref q2, .ref q3, .ref q4, .ref q5])), (q1, .inl (cI, 24, .inl nm)), (q2, .inl (cI, 24, .inl hi)), (q3, .inl (cI, 24, .inl ln)), (q4, .inl (cZ, 24, .inl op)), (q5, .inl (cI, 1536, .inl wd))] s.heap := hP
  have hl := lv_entry ([.ref q0, .int (nI j)]) (n := 2) (Nat.le_of_ble_eq_true rfl)
  rw [lg_entry_eq]
  generalize (lg_sl ([.ref q0, .int (nI j)]) ++ List.replicate (2 - (lg_sl ([.ref q0, .int (nI j)])).length) Slot.unset).toArray = ls at hl ⊢
  have hl : lv_has ls 2 [(0, .ref q0), (1, .int (nI j))] := hl
  refine lv_aload_n hx hb zd_C_isTaken_0 rfl (lv_at hl 0 rfl) ?_
  refine va_get (D := (dC, dI)) (ci := 1) (v := .ref q1) (C := "ZoneShelf$Contents") (T := zs_T_C) (N := 5) hx hb hz zs_in_C hown hk.1 hP 0 rfl rfl 0 (by decide) (hz _ zq_40) (fun _ h9 => h9) rfl zd_C_isTaken_1 ?_
  refine lv_iload_n hx hb zd_C_isTaken_4 rfl (lv_at hl 1 rfl) ?_
  refine zi_ald hx hb hk hP 1 (j := j) rfl (by omega) (by decide) zd_C_isTaken_5 ?_
  refine lv_iconst (v := (-1)) hx hb zd_C_isTaken_6 (by decide) ?_
  refine lv_icmp_eq (tgt := 14) hx hb zd_C_isTaken_7 rfl (fun h1 => ?_) (fun h1 => ?_)
  · refine lv_iconst (v := 0) hx hb zd_C_isTaken_14 (by decide) ?_
    exact zr_zret hx hb hr hlocks zd_C_isTaken_15 rfl (show 0 = zs_b (zs_t nm j) from by simp [zs_t, zs_b, h1])
  · refine lv_iconst (v := 1) hx hb zd_C_isTaken_10 (by decide) ?_
    refine lv_goto (tgt := 15) hx hb zd_C_isTaken_11 rfl ?_
    exact zr_zret hx hb hr hlocks zd_C_isTaken_15 rfl (show 1 = zs_b (zs_t nm j) from by simp [zs_t, zs_b, h1])
set_option maxHeartbeats 4000000 in
set_option maxRecDepth 100000 in
theorem zc_C_leastFreeNumber (l : Launch) (dC : Nat → ClassId) (dI : Nat → Nat → Nat) (cI cZ : ClassId) (q0 q1 q2 q3 q4 q5 : Nat) (u : zs_C)  : Met l zy_C_leastFreeNumber (.code zy_C_leastFreeNumber zb_C_leastFreeNumber 2 (some .int) :: zs_w) ({ frames := 1, cells := 0, slots := 0, locals := 21 }) (va_Pc [.ref q0] (zs_r dC dI cI cZ (zs_wC cI cZ q0 q1 q2 q3 q4 q5 u))) (vp_Si (fun r => r = zs_free u.1 24 0)) 0 0 (fun _ => False) := by
  obtain ⟨nm, hi, ln, op, wd⟩ := u
  refine Met.ofW (cc := zb_C_leastFreeNumber) (maxL := 2) (ret := (some .int)) (by decide) rfl ?_
  intro p e s m args below meth c s₁ B hml hv
  obtain ⟨rfl, hP, hk⟩ := hv
  have hx := B.exec
  have hb := B.bytes
  have hr := B.returns
  have hts := atoms_spec (ws := .code zy_C_leastFreeNumber zb_C_leastFreeNumber 2 (some .int) :: zs_w) B.pre
  have hz : ∀ w ∈ zs_w, w.before _ s = true := fun w h => hts w (List.mem_cons_of_mem _ h)
  have hown : s.vm.findClass "ZoneShelf$Contents" = some m.cls := findClass_of_methodNamed B.named
  have hlocks := B.notSynchronized
  have hP : va_P (dC, dI) zs_cl [(q0, .inr (1, [.ref q1, .ref q2, .ref q3, .ref q4, .ref q5])), (q1, .inl (cI, 24, .inl nm)), (q2, .inl (cI, 24, .inl hi)), (q3, .inl (cI, 24, .inl ln)), (q4, .inl (cZ, 24, .inl op)), (q5, .inl (cI, 1536, .inl wd))] s.heap := hP
  have hl := lv_entry ([.ref q0]) (n := 2) (Nat.le_of_ble_eq_true rfl)
  rw [lg_entry_eq]
  generalize (lg_sl ([.ref q0]) ++ List.replicate (2 - (lg_sl ([.ref q0])).length) Slot.unset).toArray = ls at hl ⊢
  have hl : lv_has ls 2 [(0, .ref q0)] := hl
  refine lv_iconst (v := 0) hx hb zd_C_leastFreeNumber_0 (by decide) ?_
  refine lv_istore_n (lv' := [(1, .int 0), (0, .ref q0)]) hx hb zd_C_leastFreeNumber_1 rfl hl (by decide) rfl (fun ls hl => ?_)
  obtain ⟨v, hv0⟩ : ∃ v, v = zs_free nm 24 0 := ⟨_, rfl⟩
  refine zl_r (N := 24) (α := Unit) (fun kk ii xx ls => lv_has ls 2 [(1, .int (nI ii)), (0, .ref q0)] ∧ zs_free nm kk ii = v) (fun k1 i1 x1 ls e1 hv ih1 => ?_) (fun x1 ls hv => ?_) 24 0 () ls rfl ⟨lv_sub hl [0, 1] rfl, hv0.symm⟩
  · obtain ⟨hl, hI1⟩ := hv
    have hl : lv_has ls 2 [(1, .int (nI i1)), (0, .ref q0)] := hl
    have hI1 : zs_free nm (k1 + 1) i1 = v := hI1
    have hlt1 : i1 < 24 := by omega
    refine lv_iload_n hx hb zd_C_leastFreeNumber_2 rfl (lv_at hl 0 rfl) ?_
    refine lv_bipush (v := 24) hx hb zd_C_leastFreeNumber_3 (by decide) ?_
    refine zj_in (tgt := 24) (n := 24) hx hb zd_C_leastFreeNumber_5 rfl (by decide) hlt1 (by decide) ?_
    refine lv_aload_n hx hb zd_C_leastFreeNumber_8 rfl (lv_at hl 1 rfl) ?_
    refine lv_iload_n hx hb zd_C_leastFreeNumber_9 rfl (lv_at hl 0 rfl) ?_
    refine zc_rV (rest := []) [.int (nI i1)] hx hb hml hown hz (zc_C_isTaken l dC dI cI cZ q0 q1 q2 q3 q4 q5 (nm, hi, ln, op, wd) i1 (by omega)) zf_C_isTaken rfl rfl zq_75 zq_76 zq_3 ⟨Nat.le_of_ble_eq_true rfl, Nat.le_of_ble_eq_true rfl⟩ hk (hP.sub [0, 1, 2, 3, 4, 5] rfl) 0 1 rfl rfl rfl rfl hl.1 rfl (Nat.le_of_ble_eq_true rfl) zd_C_leastFreeNumber_10 ⟨Nat.zero_le _, Nat.zero_le _⟩ (fun r1 e2 => ?_)
    obtain rfl : r1 = zs_b (zs_t nm i1) := e2
    refine zi_ne (tgt := 18) hx hb zd_C_leastFreeNumber_13 rfl (fun h3 => ?_) (fun h3 => ?_)
    · refine lv_iinc (k := 0) (v := nI (i1 + 1)) (lv' := [(1, .int (nI (i1 + 1))), (0, .ref q0)]) hx hb zd_C_leastFreeNumber_18 hl rfl (zs_inc _) (by decide) rfl (fun ls hl => ?_)
      refine lv_goto (tgt := 2) hx hb zd_C_leastFreeNumber_21 rfl ?_
      exact ih1 () ls ⟨lv_sub hl [0, 1] rfl, by rw [← hI1]; simp [zs_free, h3]⟩
    · refine lv_iload_n hx hb zd_C_leastFreeNumber_16 rfl (lv_at hl 0 rfl) ?_
      exact zr_iret hx hb hr hlocks zd_C_leastFreeNumber_17 (show (nI i1) = zs_free nm 24 0 from by rw [← hv0, ← hI1]; simp [zs_free, h3])
  · obtain ⟨hl, hI1⟩ := hv
    have hl : lv_has ls 2 [(1, .int (nI 24)), (0, .ref q0)] := hl
    have hI1 : zs_free nm 0 24 = v := hI1
    refine lv_iload_n hx hb zd_C_leastFreeNumber_2 rfl (lv_at hl 0 rfl) ?_
    refine lv_bipush (v := 24) hx hb zd_C_leastFreeNumber_3 (by decide) ?_
    refine zj_out (tgt := 24) (n := 24) (i := 24) hx hb zd_C_leastFreeNumber_5 rfl (by decide) (Nat.le_refl _) (by decide) ?_
    refine lv_iconst (v := (-1)) hx hb zd_C_leastFreeNumber_24 (by decide) ?_
    exact zr_iret hx hb hr hlocks zd_C_leastFreeNumber_25 (show (-1) = zs_free nm 24 0 from by rw [← hv0, ← hI1]; rfl)
set_option maxHeartbeats 4000000 in
set_option maxRecDepth 100000 in
theorem zc_C_numberOf (l : Launch) (dC : Nat → ClassId) (dI : Nat → Nat → Nat) (cI cZ : ClassId) (q0 q1 q2 q3 q4 q5 : Nat) (u : zs_C) (x : Int32) : Met l zy_C_numberOf (.code zy_C_numberOf zb_C_numberOf 3 (some .int) :: zs_w) ({ frames := 0, cells := 0, slots := 0, locals := 0 }) (va_Pc [.ref q0, .int x] (zs_r dC dI cI cZ (zs_wC cI cZ q0 q1 q2 q3 q4 q5 u))) (vp_Si (fun r => r = zs_num u.1 x 24 0)) 0 0 (fun _ => False) := by
  obtain ⟨nm, hi, ln, op, wd⟩ := u
  refine Met.ofW (cc := zb_C_numberOf) (maxL := 3) (ret := (some .int)) (by decide) rfl ?_
  intro p e s m args below meth c s₁ B hml hv
  obtain ⟨rfl, hP, hk⟩ := hv
  have hx := B.exec
  have hb := B.bytes
  have hr := B.returns
  have hts := atoms_spec (ws := .code zy_C_numberOf zb_C_numberOf 3 (some .int) :: zs_w) B.pre
  have hz : ∀ w ∈ zs_w, w.before _ s = true := fun w h => hts w (List.mem_cons_of_mem _ h)
  have hown : s.vm.findClass "ZoneShelf$Contents" = some m.cls := findClass_of_methodNamed B.named
  have hlocks := B.notSynchronized
  have hP : va_P (dC, dI) zs_cl [(q0, .inr (1, [.ref q1, .ref q2, .ref q3, .ref q4, .ref q5])), (q1, .inl (cI, 24, .inl nm)), (q2, .inl (cI, 24, .inl hi)), (q3, .inl (cI, 24, .inl ln)), (q4, .inl (cZ, 24, .inl op)), (q5, .inl (cI, 1536, .inl wd))] s.heap := hP
  have hl := lv_entry ([.ref q0, .int x]) (n := 3) (Nat.le_of_ble_eq_true rfl)
  rw [lg_entry_eq]
  generalize (lg_sl ([.ref q0, .int x]) ++ List.replicate (3 - (lg_sl ([.ref q0, .int x])).length) Slot.unset).toArray = ls at hl ⊢
  have hl : lv_has ls 3 [(0, .ref q0), (1, .int x)] := hl
  refine lv_iconst (v := 0) hx hb zd_C_numberOf_0 (by decide) ?_
  refine lv_istore_n (lv' := [(2, .int 0), (0, .ref q0), (1, .int x)]) hx hb zd_C_numberOf_1 rfl hl (by decide) rfl (fun ls hl => ?_)
  obtain ⟨v, hv0⟩ : ∃ v, v = zs_num nm x 24 0 := ⟨_, rfl⟩
  refine zl_r (N := 24) (α := Unit) (fun kk ii xx ls => lv_has ls 3 [(2, .int (nI ii)), (0, .ref q0), (1, .int x)] ∧ zs_num nm x kk ii = v) (fun k1 i1 x1 ls e1 hv ih1 => ?_) (fun x1 ls hv => ?_) 24 0 () ls rfl ⟨lv_sub hl [0, 1, 2] rfl, hv0.symm⟩
  · obtain ⟨hl, hI1⟩ := hv
    have hl : lv_has ls 3 [(2, .int (nI i1)), (0, .ref q0), (1, .int x)] := hl
    have hI1 : zs_num nm x (k1 + 1) i1 = v := hI1
    have hlt1 : i1 < 24 := by omega
    refine lv_iload_n hx hb zd_C_numberOf_2 rfl (lv_at hl 0 rfl) ?_
    refine lv_bipush (v := 24) hx hb zd_C_numberOf_3 (by decide) ?_
    refine zj_in (tgt := 26) (n := 24) hx hb zd_C_numberOf_5 rfl (by decide) hlt1 (by decide) ?_
    refine lv_aload_n hx hb zd_C_numberOf_8 rfl (lv_at hl 1 rfl) ?_
    refine va_get (D := (dC, dI)) (ci := 1) (v := .ref q1) (C := "ZoneShelf$Contents") (T := zs_T_C) (N := 5) hx hb hz zs_in_C hown hk.1 hP 0 rfl rfl 0 (by decide) (hz _ zq_40) (fun _ h9 => h9) rfl zd_C_numberOf_9 ?_
    refine lv_iload_n hx hb zd_C_numberOf_12 rfl (lv_at hl 0 rfl) ?_
    refine zi_ald hx hb hk hP 1 (j := i1) rfl (by omega) (by decide) zd_C_numberOf_13 ?_
    refine lv_iload_n hx hb zd_C_numberOf_14 rfl (lv_at hl 2 rfl) ?_
    refine lv_icmp_ne (tgt := 20) hx hb zd_C_numberOf_15 rfl (fun h1 => ?_) (fun h1 => ?_)
    · refine lv_iinc (k := 0) (v := nI (i1 + 1)) (lv' := [(2, .int (nI (i1 + 1))), (0, .ref q0), (1, .int x)]) hx hb zd_C_numberOf_20 hl rfl (zs_inc _) (by decide) rfl (fun ls hl => ?_)
      refine lv_goto (tgt := 2) hx hb zd_C_numberOf_23 rfl ?_
      exact ih1 () ls ⟨lv_sub hl [0, 1, 2] rfl, by rw [← hI1]; simp [zs_num, h1]⟩
    · refine lv_iload_n hx hb zd_C_numberOf_18 rfl (lv_at hl 0 rfl) ?_
      exact zr_iret hx hb hr hlocks zd_C_numberOf_19 (show (nI i1) = zs_num nm x 24 0 from by rw [← hv0, ← hI1]; simp [zs_num, h1])
  · obtain ⟨hl, hI1⟩ := hv
    have hl : lv_has ls 3 [(2, .int (nI 24)), (0, .ref q0), (1, .int x)] := hl
    have hI1 : zs_num nm x 0 24 = v := hI1
    refine lv_iload_n hx hb zd_C_numberOf_2 rfl (lv_at hl 0 rfl) ?_
    refine lv_bipush (v := 24) hx hb zd_C_numberOf_3 (by decide) ?_
    refine zj_out (tgt := 26) (n := 24) (i := 24) hx hb zd_C_numberOf_5 rfl (by decide) (Nat.le_refl _) (by decide) ?_
    refine lv_iconst (v := (-1)) hx hb zd_C_numberOf_26 (by decide) ?_
    exact zr_iret hx hb hr hlocks zd_C_numberOf_27 (show (-1) = zs_num nm x 24 0 from by rw [← hv0, ← hI1]; rfl)
set_option maxHeartbeats 4000000 in
set_option maxRecDepth 100000 in
theorem zc_C_countNamesBelow (l : Launch) (dC : Nat → ClassId) (dI : Nat → Nat → Nat) (cI cZ : ClassId) (q0 q1 q2 q3 q4 q5 : Nat) (u : zs_C) (x : Int32) : Met l zy_C_countNamesBelow (.code zy_C_countNamesBelow zb_C_countNamesBelow 4 (some .int) :: zs_w) ({ frames := 1, cells := 0, slots := 0, locals := 21 }) (va_Pc [.ref q0, .int x] (zs_r dC dI cI cZ (zs_wC cI cZ q0 q1 q2 q3 q4 q5 u))) (vp_Si (fun r => r = zs_below u.1 x 24 0 0)) 0 0 (fun _ => False) := by
  obtain ⟨nm, hi, ln, op, wd⟩ := u
  refine Met.ofW (cc := zb_C_countNamesBelow) (maxL := 4) (ret := (some .int)) (by decide) rfl ?_
  intro p e s m args below meth c s₁ B hml hv
  obtain ⟨rfl, hP, hk⟩ := hv
  have hx := B.exec
  have hb := B.bytes
  have hr := B.returns
  have hts := atoms_spec (ws := .code zy_C_countNamesBelow zb_C_countNamesBelow 4 (some .int) :: zs_w) B.pre
  have hz : ∀ w ∈ zs_w, w.before _ s = true := fun w h => hts w (List.mem_cons_of_mem _ h)
  have hown : s.vm.findClass "ZoneShelf$Contents" = some m.cls := findClass_of_methodNamed B.named
  have hlocks := B.notSynchronized
  have hP : va_P (dC, dI) zs_cl [(q0, .inr (1, [.ref q1, .ref q2, .ref q3, .ref q4, .ref q5])), (q1, .inl (cI, 24, .inl nm)), (q2, .inl (cI, 24, .inl hi)), (q3, .inl (cI, 24, .inl ln)), (q4, .inl (cZ, 24, .inl op)), (q5, .inl (cI, 1536, .inl wd))] s.heap := hP
  have hl := lv_entry ([.ref q0, .int x]) (n := 4) (Nat.le_of_ble_eq_true rfl)
  rw [lg_entry_eq]
  generalize (lg_sl ([.ref q0, .int x]) ++ List.replicate (4 - (lg_sl ([.ref q0, .int x])).length) Slot.unset).toArray = ls at hl ⊢
  have hl : lv_has ls 4 [(0, .ref q0), (1, .int x)] := hl
  refine lv_iconst (v := 0) hx hb zd_C_countNamesBelow_0 (by decide) ?_
  refine lv_istore_n (lv' := [(2, .int 0), (0, .ref q0), (1, .int x)]) hx hb zd_C_countNamesBelow_1 rfl hl (by decide) rfl (fun ls hl => ?_)
  refine lv_iconst (v := 0) hx hb zd_C_countNamesBelow_2 (by decide) ?_
  refine lv_istore_n (lv' := [(3, .int 0), (2, .int 0), (0, .ref q0), (1, .int x)]) hx hb zd_C_countNamesBelow_3 rfl hl (by decide) rfl (fun ls hl => ?_)
  obtain ⟨v, hv0⟩ : ∃ v, v = zs_below nm x 24 0 0 := ⟨_, rfl⟩
  refine zl_r (N := 24) (α := Int32) (fun kk ii xx ls => lv_has ls 4 [(3, .int (nI ii)), (2, .int xx), (0, .ref q0), (1, .int x)] ∧ zs_below nm x kk ii xx = v) (fun k1 i1 x1 ls e1 hv ih1 => ?_) (fun x1 ls hv => ?_) 24 0 0 ls rfl ⟨lv_sub hl [0, 1, 2, 3] rfl, hv0.symm⟩
  · obtain ⟨hl, hI1⟩ := hv
    have hl : lv_has ls 4 [(3, .int (nI i1)), (2, .int x1), (0, .ref q0), (1, .int x)] := hl
    have hI1 : zs_below nm x (k1 + 1) i1 x1 = v := hI1
    have hlt1 : i1 < 24 := by omega
    refine lv_iload_n hx hb zd_C_countNamesBelow_4 rfl (lv_at hl 0 rfl) ?_
    refine lv_bipush (v := 24) hx hb zd_C_countNamesBelow_5 (by decide) ?_
    refine zj_in (tgt := 37) (n := 24) hx hb zd_C_countNamesBelow_7 rfl (by decide) hlt1 (by decide) ?_
    refine lv_aload_n hx hb zd_C_countNamesBelow_10 rfl (lv_at hl 2 rfl) ?_
    refine lv_iload_n hx hb zd_C_countNamesBelow_11 rfl (lv_at hl 0 rfl) ?_
    refine zc_rV (rest := []) [.int (nI i1)] hx hb hml hown hz (zc_C_isTaken l dC dI cI cZ q0 q1 q2 q3 q4 q5 (nm, hi, ln, op, wd) i1 (by omega)) zf_C_isTaken rfl rfl zq_75 zq_76 zq_3 ⟨Nat.le_of_ble_eq_true rfl, Nat.le_of_ble_eq_true rfl⟩ hk (hP.sub [0, 1, 2, 3, 4, 5] rfl) 0 1 rfl rfl rfl rfl hl.1 rfl (Nat.le_of_ble_eq_true rfl) zd_C_countNamesBelow_12 ⟨Nat.zero_le _, Nat.zero_le _⟩ (fun r1 e2 => ?_)
    obtain rfl : r1 = zs_b (zs_t nm i1) := e2
    refine zi_eq (tgt := 31) hx hb zd_C_countNamesBelow_15 rfl (fun h3 => ?_) (fun h3 => ?_)
    · refine lv_iinc (k := 0) (v := nI (i1 + 1)) (lv' := [(3, .int (nI (i1 + 1))), (2, .int x1), (0, .ref q0), (1, .int x)]) hx hb zd_C_countNamesBelow_31 hl rfl (zs_inc _) (by decide) rfl (fun ls hl => ?_)
      refine lv_goto (tgt := 4) hx hb zd_C_countNamesBelow_34 rfl ?_
      exact ih1 x1 ls ⟨lv_sub hl [0, 1, 2, 3] rfl, by rw [← hI1]; simp [zs_below, h3]⟩
    · refine lv_aload_n hx hb zd_C_countNamesBelow_18 rfl (lv_at hl 2 rfl) ?_
      refine va_get (D := (dC, dI)) (ci := 1) (v := .ref q1) (C := "ZoneShelf$Contents") (T := zs_T_C) (N := 5) hx hb hz zs_in_C hown hk.1 hP 0 rfl rfl 0 (by decide) (hz _ zq_40) (fun _ h9 => h9) rfl zd_C_countNamesBelow_19 ?_
      refine lv_iload_n hx hb zd_C_countNamesBelow_22 rfl (lv_at hl 0 rfl) ?_
      refine zi_ald hx hb hk hP 1 (j := i1) rfl (by omega) (by decide) zd_C_countNamesBelow_23 ?_
      refine lv_iload_n hx hb zd_C_countNamesBelow_24 rfl (lv_at hl 3 rfl) ?_
      refine lv_icmp_ge (tgt := 31) hx hb zd_C_countNamesBelow_25 rfl (fun h4 => ?_) (fun h4 => ?_)
      · refine lv_iinc (k := 0) (v := nI (i1 + 1)) (lv' := [(3, .int (nI (i1 + 1))), (2, .int x1), (0, .ref q0), (1, .int x)]) hx hb zd_C_countNamesBelow_31 hl rfl (zs_inc _) (by decide) rfl (fun ls hl => ?_)
        refine lv_goto (tgt := 4) hx hb zd_C_countNamesBelow_34 rfl ?_
        exact ih1 x1 ls ⟨lv_sub hl [0, 1, 2, 3] rfl, by rw [← hI1]; simp [zs_below, h3, h4]⟩
      · refine lv_iinc (k := 1) (v := x1 + 1) (lv' := [(2, .int (x1 + 1)), (3, .int (nI i1)), (0, .ref q0), (1, .int x)]) hx hb zd_C_countNamesBelow_28 hl rfl (zs_inc1 _) (by decide) rfl (fun ls hl => ?_)
        refine lv_iinc (k := 1) (v := nI (i1 + 1)) (lv' := [(3, .int (nI (i1 + 1))), (2, .int (x1 + 1)), (0, .ref q0), (1, .int x)]) hx hb zd_C_countNamesBelow_31 hl rfl (zs_inc _) (by decide) rfl (fun ls hl => ?_)
        refine lv_goto (tgt := 4) hx hb zd_C_countNamesBelow_34 rfl ?_
        exact ih1 (x1 + 1) ls ⟨lv_sub hl [0, 1, 2, 3] rfl, by rw [← hI1]; simp [zs_below, h3, h4]⟩
  · obtain ⟨hl, hI1⟩ := hv
    have hl : lv_has ls 4 [(3, .int (nI 24)), (2, .int x1), (0, .ref q0), (1, .int x)] := hl
    have hI1 : zs_below nm x 0 24 x1 = v := hI1
    refine lv_iload_n hx hb zd_C_countNamesBelow_4 rfl (lv_at hl 0 rfl) ?_
    refine lv_bipush (v := 24) hx hb zd_C_countNamesBelow_5 (by decide) ?_
    refine zj_out (tgt := 37) (n := 24) (i := 24) hx hb zd_C_countNamesBelow_7 rfl (by decide) (Nat.le_refl _) (by decide) ?_
    refine lv_iload_n hx hb zd_C_countNamesBelow_37 rfl (lv_at hl 1 rfl) ?_
    exact zr_iret hx hb hr hlocks zd_C_countNamesBelow_38 (show x1 = zs_below nm x 24 0 0 from by rw [← hv0, ← hI1]; rfl)
set_option maxHeartbeats 4000000 in
set_option maxRecDepth 100000 in
theorem zc_C_numberAtRank (l : Launch) (dC : Nat → ClassId) (dI : Nat → Nat → Nat) (cI cZ : ClassId) (q0 q1 q2 q3 q4 q5 : Nat) (u : zs_C) (x : Int32) : Met l zy_C_numberAtRank (.code zy_C_numberAtRank zb_C_numberAtRank 3 (some .int) :: zs_w) ({ frames := 2, cells := 0, slots := 0, locals := 44 }) (va_Pc [.ref q0, .int x] (zs_r dC dI cI cZ (zs_wC cI cZ q0 q1 q2 q3 q4 q5 u))) (vp_Si (fun r => r = zs_rank u.1 x 24 0)) 0 0 (fun _ => False) := by
  obtain ⟨nm, hi, ln, op, wd⟩ := u
  refine Met.ofW (cc := zb_C_numberAtRank) (maxL := 3) (ret := (some .int)) (by decide) rfl ?_
  intro p e s m args below meth c s₁ B hml hv
  obtain ⟨rfl, hP, hk⟩ := hv
  have hx := B.exec
  have hb := B.bytes
  have hr := B.returns
  have hts := atoms_spec (ws := .code zy_C_numberAtRank zb_C_numberAtRank 3 (some .int) :: zs_w) B.pre
  have hz : ∀ w ∈ zs_w, w.before _ s = true := fun w h => hts w (List.mem_cons_of_mem _ h)
  have hown : s.vm.findClass "ZoneShelf$Contents" = some m.cls := findClass_of_methodNamed B.named
  have hlocks := B.notSynchronized
  have hP : va_P (dC, dI) zs_cl [(q0, .inr (1, [.ref q1, .ref q2, .ref q3, .ref q4, .ref q5])), (q1, .inl (cI, 24, .inl nm)), (q2, .inl (cI, 24, .inl hi)), (q3, .inl (cI, 24, .inl ln)), (q4, .inl (cZ, 24, .inl op)), (q5, .inl (cI, 1536, .inl wd))] s.heap := hP
  have hl := lv_entry ([.ref q0, .int x]) (n := 3) (Nat.le_of_ble_eq_true rfl)
  rw [lg_entry_eq]
  generalize (lg_sl ([.ref q0, .int x]) ++ List.replicate (3 - (lg_sl ([.ref q0, .int x])).length) Slot.unset).toArray = ls at hl ⊢
  have hl : lv_has ls 3 [(0, .ref q0), (1, .int x)] := hl
  refine lv_iconst (v := 0) hx hb zd_C_numberAtRank_0 (by decide) ?_
  refine lv_istore_n (lv' := [(2, .int 0), (0, .ref q0), (1, .int x)]) hx hb zd_C_numberAtRank_1 rfl hl (by decide) rfl (fun ls hl => ?_)
  obtain ⟨v, hv0⟩ : ∃ v, v = zs_rank nm x 24 0 := ⟨_, rfl⟩
  refine zl_r (N := 24) (α := Unit) (fun kk ii xx ls => lv_has ls 3 [(2, .int (nI ii)), (0, .ref q0), (1, .int x)] ∧ zs_rank nm x kk ii = v) (fun k1 i1 x1 ls e1 hv ih1 => ?_) (fun x1 ls hv => ?_) 24 0 () ls rfl ⟨lv_sub hl [0, 1, 2] rfl, hv0.symm⟩
  · obtain ⟨hl, hI1⟩ := hv
    have hl : lv_has ls 3 [(2, .int (nI i1)), (0, .ref q0), (1, .int x)] := hl
    have hI1 : zs_rank nm x (k1 + 1) i1 = v := hI1
    have hlt1 : i1 < 24 := by omega
    refine lv_iload_n hx hb zd_C_numberAtRank_2 rfl (lv_at hl 0 rfl) ?_
    refine lv_bipush (v := 24) hx hb zd_C_numberAtRank_3 (by decide) ?_
    refine zj_in (tgt := 38) (n := 24) hx hb zd_C_numberAtRank_5 rfl (by decide) hlt1 (by decide) ?_
    refine lv_aload_n hx hb zd_C_numberAtRank_8 rfl (lv_at hl 1 rfl) ?_
    refine lv_iload_n hx hb zd_C_numberAtRank_9 rfl (lv_at hl 0 rfl) ?_
    refine zc_rV (rest := []) [.int (nI i1)] hx hb hml hown hz (zc_C_isTaken l dC dI cI cZ q0 q1 q2 q3 q4 q5 (nm, hi, ln, op, wd) i1 (by omega)) zf_C_isTaken rfl rfl zq_75 zq_76 zq_3 ⟨Nat.le_of_ble_eq_true rfl, Nat.le_of_ble_eq_true rfl⟩ hk (hP.sub [0, 1, 2, 3, 4, 5] rfl) 0 1 rfl rfl rfl rfl hl.1 rfl (Nat.le_of_ble_eq_true rfl) zd_C_numberAtRank_10 ⟨Nat.zero_le _, Nat.zero_le _⟩ (fun r1 e2 => ?_)
    obtain rfl : r1 = zs_b (zs_t nm i1) := e2
    refine zi_eq (tgt := 32) hx hb zd_C_numberAtRank_13 rfl (fun h3 => ?_) (fun h3 => ?_)
    · refine lv_iinc (k := 0) (v := nI (i1 + 1)) (lv' := [(2, .int (nI (i1 + 1))), (0, .ref q0), (1, .int x)]) hx hb zd_C_numberAtRank_32 hl rfl (zs_inc _) (by decide) rfl (fun ls hl => ?_)
      refine lv_goto (tgt := 2) hx hb zd_C_numberAtRank_35 rfl ?_
      exact ih1 () ls ⟨lv_sub hl [0, 1, 2] rfl, by rw [← hI1]; simp [zs_rank, h3]⟩
    · refine lv_aload_n hx hb zd_C_numberAtRank_16 rfl (lv_at hl 1 rfl) ?_
      refine lv_aload_n hx hb zd_C_numberAtRank_17 rfl (lv_at hl 1 rfl) ?_
      refine va_get (D := (dC, dI)) (ci := 1) (v := .ref q1) (C := "ZoneShelf$Contents") (T := zs_T_C) (N := 5) hx hb hz zs_in_C hown hk.1 hP 0 rfl rfl 0 (by decide) (hz _ zq_40) (fun _ h9 => h9) rfl zd_C_numberAtRank_18 ?_
      refine lv_iload_n hx hb zd_C_numberAtRank_21 rfl (lv_at hl 0 rfl) ?_
      refine zi_ald hx hb hk hP 1 (j := i1) rfl (by omega) (by decide) zd_C_numberAtRank_22 ?_
      refine zc_rV (rest := []) [.int (nm i1)] hx hb hml hown hz (zc_C_countNamesBelow l dC dI cI cZ q0 q1 q2 q3 q4 q5 (nm, hi, ln, op, wd) (nm i1)) zf_C_countNamesBelow rfl rfl zq_174 zq_175 zq_13 ⟨Nat.le_of_ble_eq_true rfl, Nat.le_of_ble_eq_true rfl⟩ hk (hP.sub [0, 1, 2, 3, 4, 5] rfl) 0 1 rfl rfl rfl rfl hl.1 rfl (Nat.le_of_ble_eq_true rfl) zd_C_numberAtRank_23 ⟨Nat.zero_le _, Nat.zero_le _⟩ (fun r4 e5 => ?_)
      obtain rfl : r4 = zs_below nm (nm i1) 24 0 0 := e5
      refine lv_iload_n hx hb zd_C_numberAtRank_26 rfl (lv_at hl 2 rfl) ?_
      refine lv_icmp_ne (tgt := 32) hx hb zd_C_numberAtRank_27 rfl (fun h6 => ?_) (fun h6 => ?_)
      · refine lv_iinc (k := 0) (v := nI (i1 + 1)) (lv' := [(2, .int (nI (i1 + 1))), (0, .ref q0), (1, .int x)]) hx hb zd_C_numberAtRank_32 hl rfl (zs_inc _) (by decide) rfl (fun ls hl => ?_)
        refine lv_goto (tgt := 2) hx hb zd_C_numberAtRank_35 rfl ?_
        exact ih1 () ls ⟨lv_sub hl [0, 1, 2] rfl, by rw [← hI1]; simp only [zs_rank]; rw [if_neg (fun q => h6 q.2)]⟩
      · refine lv_iload_n hx hb zd_C_numberAtRank_30 rfl (lv_at hl 0 rfl) ?_
        exact zr_iret hx hb hr hlocks zd_C_numberAtRank_31 (show (nI i1) = zs_rank nm x 24 0 from by rw [← hv0, ← hI1]; simp only [zs_rank]; rw [if_pos ⟨h3, h6⟩])
  · obtain ⟨hl, hI1⟩ := hv
    have hl : lv_has ls 3 [(2, .int (nI 24)), (0, .ref q0), (1, .int x)] := hl
    have hI1 : zs_rank nm x 0 24 = v := hI1
    refine lv_iload_n hx hb zd_C_numberAtRank_2 rfl (lv_at hl 0 rfl) ?_
    refine lv_bipush (v := 24) hx hb zd_C_numberAtRank_3 (by decide) ?_
    refine zj_out (tgt := 38) (n := 24) (i := 24) hx hb zd_C_numberAtRank_5 rfl (by decide) (Nat.le_refl _) (by decide) ?_
    refine lv_iconst (v := (-1)) hx hb zd_C_numberAtRank_38 (by decide) ?_
    exact zr_iret hx hb hr hlocks zd_C_numberAtRank_39 (show (-1) = zs_rank nm x 24 0 from by rw [← hv0, ← hI1]; rfl)
set_option maxHeartbeats 4000000 in
set_option maxRecDepth 100000 in
theorem zc_C_countObjects (l : Launch) (dC : Nat → ClassId) (dI : Nat → Nat → Nat) (cI cZ : ClassId) (q0 q1 q2 q3 q4 q5 : Nat) (u : zs_C)  : Met l zy_C_countObjects (.code zy_C_countObjects zb_C_countObjects 3 (some .int) :: zs_w) ({ frames := 1, cells := 0, slots := 0, locals := 21 }) (va_Pc [.ref q0] (zs_r dC dI cI cZ (zs_wC cI cZ q0 q1 q2 q3 q4 q5 u))) (vp_Si (fun r => r = zs_cnt u.1 24 0 0)) 0 0 (fun _ => False) := by
  obtain ⟨nm, hi, ln, op, wd⟩ := u
  refine Met.ofW (cc := zb_C_countObjects) (maxL := 3) (ret := (some .int)) (by decide) rfl ?_
  intro p e s m args below meth c s₁ B hml hv
  obtain ⟨rfl, hP, hk⟩ := hv
  have hx := B.exec
  have hb := B.bytes
  have hr := B.returns
  have hts := atoms_spec (ws := .code zy_C_countObjects zb_C_countObjects 3 (some .int) :: zs_w) B.pre
  have hz : ∀ w ∈ zs_w, w.before _ s = true := fun w h => hts w (List.mem_cons_of_mem _ h)
  have hown : s.vm.findClass "ZoneShelf$Contents" = some m.cls := findClass_of_methodNamed B.named
  have hlocks := B.notSynchronized
  have hP : va_P (dC, dI) zs_cl [(q0, .inr (1, [.ref q1, .ref q2, .ref q3, .ref q4, .ref q5])), (q1, .inl (cI, 24, .inl nm)), (q2, .inl (cI, 24, .inl hi)), (q3, .inl (cI, 24, .inl ln)), (q4, .inl (cZ, 24, .inl op)), (q5, .inl (cI, 1536, .inl wd))] s.heap := hP
  have hl := lv_entry ([.ref q0]) (n := 3) (Nat.le_of_ble_eq_true rfl)
  rw [lg_entry_eq]
  generalize (lg_sl ([.ref q0]) ++ List.replicate (3 - (lg_sl ([.ref q0])).length) Slot.unset).toArray = ls at hl ⊢
  have hl : lv_has ls 3 [(0, .ref q0)] := hl
  refine lv_iconst (v := 0) hx hb zd_C_countObjects_0 (by decide) ?_
  refine lv_istore_n (lv' := [(1, .int 0), (0, .ref q0)]) hx hb zd_C_countObjects_1 rfl hl (by decide) rfl (fun ls hl => ?_)
  refine lv_iconst (v := 0) hx hb zd_C_countObjects_2 (by decide) ?_
  refine lv_istore_n (lv' := [(2, .int 0), (1, .int 0), (0, .ref q0)]) hx hb zd_C_countObjects_3 rfl hl (by decide) rfl (fun ls hl => ?_)
  obtain ⟨v, hv0⟩ : ∃ v, v = zs_cnt nm 24 0 0 := ⟨_, rfl⟩
  refine zl_r (N := 24) (α := Int32) (fun kk ii xx ls => lv_has ls 3 [(2, .int (nI ii)), (1, .int xx), (0, .ref q0)] ∧ zs_cnt nm kk ii xx = v) (fun k1 i1 x1 ls e1 hv ih1 => ?_) (fun x1 ls hv => ?_) 24 0 0 ls rfl ⟨lv_sub hl [0, 1, 2] rfl, hv0.symm⟩
  · obtain ⟨hl, hI1⟩ := hv
    have hl : lv_has ls 3 [(2, .int (nI i1)), (1, .int x1), (0, .ref q0)] := hl
    have hI1 : zs_cnt nm (k1 + 1) i1 x1 = v := hI1
    have hlt1 : i1 < 24 := by omega
    refine lv_iload_n hx hb zd_C_countObjects_4 rfl (lv_at hl 0 rfl) ?_
    refine lv_bipush (v := 24) hx hb zd_C_countObjects_5 (by decide) ?_
    refine zj_in (tgt := 27) (n := 24) hx hb zd_C_countObjects_7 rfl (by decide) hlt1 (by decide) ?_
    refine lv_aload_n hx hb zd_C_countObjects_10 rfl (lv_at hl 2 rfl) ?_
    refine lv_iload_n hx hb zd_C_countObjects_11 rfl (lv_at hl 0 rfl) ?_
    refine zc_rV (rest := []) [.int (nI i1)] hx hb hml hown hz (zc_C_isTaken l dC dI cI cZ q0 q1 q2 q3 q4 q5 (nm, hi, ln, op, wd) i1 (by omega)) zf_C_isTaken rfl rfl zq_75 zq_76 zq_3 ⟨Nat.le_of_ble_eq_true rfl, Nat.le_of_ble_eq_true rfl⟩ hk (hP.sub [0, 1, 2, 3, 4, 5] rfl) 0 1 rfl rfl rfl rfl hl.1 rfl (Nat.le_of_ble_eq_true rfl) zd_C_countObjects_12 ⟨Nat.zero_le _, Nat.zero_le _⟩ (fun r1 e2 => ?_)
    obtain rfl : r1 = zs_b (zs_t nm i1) := e2
    refine zi_eq (tgt := 21) hx hb zd_C_countObjects_15 rfl (fun h3 => ?_) (fun h3 => ?_)
    · refine lv_iinc (k := 0) (v := nI (i1 + 1)) (lv' := [(2, .int (nI (i1 + 1))), (1, .int x1), (0, .ref q0)]) hx hb zd_C_countObjects_21 hl rfl (zs_inc _) (by decide) rfl (fun ls hl => ?_)
      refine lv_goto (tgt := 4) hx hb zd_C_countObjects_24 rfl ?_
      exact ih1 x1 ls ⟨lv_sub hl [0, 1, 2] rfl, by rw [← hI1]; simp [zs_cnt, h3]⟩
    · refine lv_iinc (k := 1) (v := x1 + 1) (lv' := [(1, .int (x1 + 1)), (2, .int (nI i1)), (0, .ref q0)]) hx hb zd_C_countObjects_18 hl rfl (zs_inc1 _) (by decide) rfl (fun ls hl => ?_)
      refine lv_iinc (k := 1) (v := nI (i1 + 1)) (lv' := [(2, .int (nI (i1 + 1))), (1, .int (x1 + 1)), (0, .ref q0)]) hx hb zd_C_countObjects_21 hl rfl (zs_inc _) (by decide) rfl (fun ls hl => ?_)
      refine lv_goto (tgt := 4) hx hb zd_C_countObjects_24 rfl ?_
      exact ih1 (x1 + 1) ls ⟨lv_sub hl [0, 1, 2] rfl, by rw [← hI1]; simp [zs_cnt, h3]⟩
  · obtain ⟨hl, hI1⟩ := hv
    have hl : lv_has ls 3 [(2, .int (nI 24)), (1, .int x1), (0, .ref q0)] := hl
    have hI1 : zs_cnt nm 0 24 x1 = v := hI1
    refine lv_iload_n hx hb zd_C_countObjects_4 rfl (lv_at hl 0 rfl) ?_
    refine lv_bipush (v := 24) hx hb zd_C_countObjects_5 (by decide) ?_
    refine zj_out (tgt := 27) (n := 24) (i := 24) hx hb zd_C_countObjects_7 rfl (by decide) (Nat.le_refl _) (by decide) ?_
    refine lv_iload_n hx hb zd_C_countObjects_27 rfl (lv_at hl 1 rfl) ?_
    exact zr_iret hx hb hr hlocks zd_C_countObjects_28 (show x1 = zs_cnt nm 24 0 0 from by rw [← hv0, ← hI1]; rfl)
set_option maxHeartbeats 4000000 in
set_option maxRecDepth 100000 in
theorem zc_C_countWords (l : Launch) (dC : Nat → ClassId) (dI : Nat → Nat → Nat) (cI cZ : ClassId) (q0 q1 q2 q3 q4 q5 : Nat) (u : zs_C)  : Met l zy_C_countWords (.code zy_C_countWords zb_C_countWords 3 (some .int) :: zs_w) ({ frames := 0, cells := 0, slots := 0, locals := 0 }) (va_Pc [.ref q0] (zs_r dC dI cI cZ (zs_wC cI cZ q0 q1 q2 q3 q4 q5 u))) (vp_Si (fun r => r = zs_sum u.2.2.1 24 0 0)) 0 0 (fun _ => False) := by
  obtain ⟨nm, hi, ln, op, wd⟩ := u
  refine Met.ofW (cc := zb_C_countWords) (maxL := 3) (ret := (some .int)) (by decide) rfl ?_
  intro p e s m args below meth c s₁ B hml hv
  obtain ⟨rfl, hP, hk⟩ := hv
  have hx := B.exec
  have hb := B.bytes
  have hr := B.returns
  have hts := atoms_spec (ws := .code zy_C_countWords zb_C_countWords 3 (some .int) :: zs_w) B.pre
  have hz : ∀ w ∈ zs_w, w.before _ s = true := fun w h => hts w (List.mem_cons_of_mem _ h)
  have hown : s.vm.findClass "ZoneShelf$Contents" = some m.cls := findClass_of_methodNamed B.named
  have hlocks := B.notSynchronized
  have hP : va_P (dC, dI) zs_cl [(q0, .inr (1, [.ref q1, .ref q2, .ref q3, .ref q4, .ref q5])), (q1, .inl (cI, 24, .inl nm)), (q2, .inl (cI, 24, .inl hi)), (q3, .inl (cI, 24, .inl ln)), (q4, .inl (cZ, 24, .inl op)), (q5, .inl (cI, 1536, .inl wd))] s.heap := hP
  have hl := lv_entry ([.ref q0]) (n := 3) (Nat.le_of_ble_eq_true rfl)
  rw [lg_entry_eq]
  generalize (lg_sl ([.ref q0]) ++ List.replicate (3 - (lg_sl ([.ref q0])).length) Slot.unset).toArray = ls at hl ⊢
  have hl : lv_has ls 3 [(0, .ref q0)] := hl
  refine lv_iconst (v := 0) hx hb zd_C_countWords_0 (by decide) ?_
  refine lv_istore_n (lv' := [(1, .int 0), (0, .ref q0)]) hx hb zd_C_countWords_1 rfl hl (by decide) rfl (fun ls hl => ?_)
  refine lv_iconst (v := 0) hx hb zd_C_countWords_2 (by decide) ?_
  refine lv_istore_n (lv' := [(2, .int 0), (1, .int 0), (0, .ref q0)]) hx hb zd_C_countWords_3 rfl hl (by decide) rfl (fun ls hl => ?_)
  obtain ⟨v, hv0⟩ : ∃ v, v = zs_sum ln 24 0 0 := ⟨_, rfl⟩
  refine zl_r (N := 24) (α := Int32) (fun kk ii xx ls => lv_has ls 3 [(2, .int (nI ii)), (1, .int xx), (0, .ref q0)] ∧ zs_sum ln kk ii xx = v) (fun k1 i1 x1 ls e1 hv ih1 => ?_) (fun x1 ls hv => ?_) 24 0 0 ls rfl ⟨lv_sub hl [0, 1, 2] rfl, hv0.symm⟩
  · obtain ⟨hl, hI1⟩ := hv
    have hl : lv_has ls 3 [(2, .int (nI i1)), (1, .int x1), (0, .ref q0)] := hl
    have hI1 : zs_sum ln (k1 + 1) i1 x1 = v := hI1
    have hlt1 : i1 < 24 := by omega
    refine lv_iload_n hx hb zd_C_countWords_4 rfl (lv_at hl 0 rfl) ?_
    refine lv_bipush (v := 24) hx hb zd_C_countWords_5 (by decide) ?_
    refine zj_in (tgt := 25) (n := 24) hx hb zd_C_countWords_7 rfl (by decide) hlt1 (by decide) ?_
    refine lv_iload_n hx hb zd_C_countWords_10 rfl (lv_at hl 1 rfl) ?_
    refine lv_aload_n hx hb zd_C_countWords_11 rfl (lv_at hl 2 rfl) ?_
    refine va_get (D := (dC, dI)) (ci := 1) (v := .ref q3) (C := "ZoneShelf$Contents") (T := zs_T_C) (N := 5) hx hb hz zs_in_C hown hk.1 hP 0 rfl rfl 2 (by decide) (hz _ zq_42) (fun _ h9 => h9) rfl zd_C_countWords_12 ?_
    refine lv_iload_n hx hb zd_C_countWords_15 rfl (lv_at hl 0 rfl) ?_
    refine zi_ald hx hb hk hP 3 (j := i1) rfl (by omega) (by decide) zd_C_countWords_16 ?_
    refine lv_iadd hx hb zd_C_countWords_17 ?_
    refine lv_istore_n (lv' := [(1, .int (x1 + (ln i1))), (2, .int (nI i1)), (0, .ref q0)]) hx hb zd_C_countWords_18 rfl hl (by decide) rfl (fun ls hl => ?_)
    refine lv_iinc (k := 1) (v := nI (i1 + 1)) (lv' := [(2, .int (nI (i1 + 1))), (1, .int (x1 + (ln i1))), (0, .ref q0)]) hx hb zd_C_countWords_19 hl rfl (zs_inc _) (by decide) rfl (fun ls hl => ?_)
    refine lv_goto (tgt := 4) hx hb zd_C_countWords_22 rfl ?_
    exact ih1 (x1 + ln i1) ls ⟨lv_sub hl [0, 1, 2] rfl, by rw [← hI1]; rfl⟩
  · obtain ⟨hl, hI1⟩ := hv
    have hl : lv_has ls 3 [(2, .int (nI 24)), (1, .int x1), (0, .ref q0)] := hl
    have hI1 : zs_sum ln 0 24 x1 = v := hI1
    refine lv_iload_n hx hb zd_C_countWords_4 rfl (lv_at hl 0 rfl) ?_
    refine lv_bipush (v := 24) hx hb zd_C_countWords_5 (by decide) ?_
    refine zj_out (tgt := 25) (n := 24) (i := 24) hx hb zd_C_countWords_7 rfl (by decide) (Nat.le_refl _) (by decide) ?_
    refine lv_iload_n hx hb zd_C_countWords_25 rfl (lv_at hl 1 rfl) ?_
    exact zr_iret hx hb hr hlocks zd_C_countWords_26 (show x1 = zs_sum ln 24 0 0 from by rw [← hv0, ← hI1]; rfl)
set_option maxHeartbeats 4000000 in
set_option maxRecDepth 100000 in
theorem zc_C_place (l : Launch) (dC : Nat → ClassId) (dI : Nat → Nat → Nat) (cI cZ : ClassId) (q0 q1 q2 q3 q4 q5 : Nat) (u : zs_C) (sz : Nat) (j : Nat) (hj : j < 24) (n h : Int32) : Met l zy_C_place (.code zy_C_place zb_C_place 4 none :: zs_w) ({ frames := 0, cells := 0, slots := 0, locals := 0 }) (va_Pc [.ref q0, .int (nI j), .int n, .int h] (zs_s dC dI cI cZ sz (zs_wC cI cZ q0 q1 q2 q3 q4 q5 u))) (va_Qv (fun v : zs_C => v = (upd u.1 j n, upd u.2.1 j h, u.2.2.1, upd u.2.2.2.1 j (vp_nar .boolean 1), u.2.2.2.2)) (zs_e dC dI (zs_wC cI cZ q0 q1 q2 q3 q4 q5) (va_A (zs_wC cI cZ q0 q1 q2 q3 q4 q5 u) sz)) (va_A (zs_wC cI cZ q0 q1 q2 q3 q4 q5 u) sz)) 0 0 (va_A (zs_wC cI cZ q0 q1 q2 q3 q4 q5 u) sz) := by
  obtain ⟨nm, hi, ln, op, wd⟩ := u
  refine Met.ofW (cc := zb_C_place) (maxL := 4) (ret := none) (by decide) rfl ?_
  intro p e s m args below meth c s₁ B hml hv
  obtain ⟨rfl, hsz, hP, hk, hD0⟩ := hv
  have hx := B.exec
  have hb := B.bytes
  have hr := B.returns
  have hts := atoms_spec (ws := .code zy_C_place zb_C_place 4 none :: zs_w) B.pre
  have hz : ∀ w ∈ zs_w, w.before _ s = true := fun w h => hts w (List.mem_cons_of_mem _ h)
  have hown : s.vm.findClass "ZoneShelf$Contents" = some m.cls := findClass_of_methodNamed B.named
  have hlocks := B.notSynchronized
  subst hsz
  have hD := hD0.self (sz := s.heap.size)
  generalize hAe : va_A (zs_wC cI cZ q0 q1 q2 q3 q4 q5 (nm, hi, ln, op, wd)) s.heap.size = A at hD ⊢
  have hA : ∀ q : Nat, s.heap.size ≤ q → A q := fun q h => by rw [← hAe]; exact Or.inr h
  have hS : va_S A s.heap s.heap [] := va_S.rf
  have hP : va_P (dC, dI) zs_cl [(q0, .inr (1, [.ref q1, .ref q2, .ref q3, .ref q4, .ref q5])), (q1, .inl (cI, 24, .inl nm)), (q2, .inl (cI, 24, .inl hi)), (q3, .inl (cI, 24, .inl ln)), (q4, .inl (cZ, 24, .inl op)), (q5, .inl (cI, 1536, .inl wd))] s.heap := hP
  have hD : va_D A [(q0, .inr (1, [.ref q1, .ref q2, .ref q3, .ref q4, .ref q5])), (q1, .inl (cI, 24, .inl nm)), (q2, .inl (cI, 24, .inl hi)), (q3, .inl (cI, 24, .inl ln)), (q4, .inl (cZ, 24, .inl op)), (q5, .inl (cI, 1536, .inl wd))] := hD
  have hl := lv_entry ([.ref q0, .int (nI j), .int n, .int h]) (n := 4) (Nat.le_of_ble_eq_true rfl)
  rw [lg_entry_eq]
  generalize (lg_sl ([.ref q0, .int (nI j), .int n, .int h]) ++ List.replicate (4 - (lg_sl ([.ref q0, .int (nI j), .int n, .int h])).length) Slot.unset).toArray = ls at hl ⊢
  have hl : lv_has ls 4 [(0, .ref q0), (1, .int (nI j)), (2, .int n), (3, .int h)] := hl
  refine lv_aload_n hx hb zd_C_place_0 rfl (lv_at hl 0 rfl) ?_
  refine va_get (D := (dC, dI)) (ci := 1) (v := .ref q1) (C := "ZoneShelf$Contents") (T := zs_T_C) (N := 5) hx hb hz zs_in_C hown hk.1 hP 0 rfl rfl 0 (by decide) (hz _ zq_40) (fun _ h9 => h9) rfl zd_C_place_1 ?_
  refine lv_iload_n hx hb zd_C_place_4 rfl (lv_at hl 1 rfl) ?_
  refine lv_iload_n hx hb zd_C_place_5 rfl (lv_at hl 2 rfl) ?_
  refine zi_ast hx hb hk hP hD hS 1 (j := j) rfl (by omega) (by decide) zd_C_place_6 (fun H locs hP hD hS => ?_)
  have hP : va_P (dC, dI) zs_cl [(q0, .inr (1, [.ref q1, .ref q2, .ref q3, .ref q4, .ref q5])), (q1, .inl (cI, 24, .inl (upd nm j n))), (q2, .inl (cI, 24, .inl hi)), (q3, .inl (cI, 24, .inl ln)), (q4, .inl (cZ, 24, .inl op)), (q5, .inl (cI, 1536, .inl wd))] H := hP
  have hD : va_D A [(q0, .inr (1, [.ref q1, .ref q2, .ref q3, .ref q4, .ref q5])), (q1, .inl (cI, 24, .inl (upd nm j n))), (q2, .inl (cI, 24, .inl hi)), (q3, .inl (cI, 24, .inl ln)), (q4, .inl (cZ, 24, .inl op)), (q5, .inl (cI, 1536, .inl wd))] := hD
  refine lv_aload_n hx hb zd_C_place_7 rfl (lv_at hl 0 rfl) ?_
  refine va_get (D := (dC, dI)) (ci := 1) (v := .ref q2) (C := "ZoneShelf$Contents") (T := zs_T_C) (N := 5) hx hb hz zs_in_C hown hk.1 hP 0 rfl rfl 1 (by decide) (hz _ zq_41) (fun _ h9 => h9) rfl zd_C_place_8 ?_
  refine lv_iload_n hx hb zd_C_place_11 rfl (lv_at hl 1 rfl) ?_
  refine lv_iload_n hx hb zd_C_place_12 rfl (lv_at hl 3 rfl) ?_
  refine zi_ast hx hb hk hP hD hS 2 (j := j) rfl (by omega) (by decide) zd_C_place_13 (fun H locs hP hD hS => ?_)
  have hP : va_P (dC, dI) zs_cl [(q0, .inr (1, [.ref q1, .ref q2, .ref q3, .ref q4, .ref q5])), (q1, .inl (cI, 24, .inl (upd nm j n))), (q2, .inl (cI, 24, .inl (upd hi j h))), (q3, .inl (cI, 24, .inl ln)), (q4, .inl (cZ, 24, .inl op)), (q5, .inl (cI, 1536, .inl wd))] H := hP
  have hD : va_D A [(q0, .inr (1, [.ref q1, .ref q2, .ref q3, .ref q4, .ref q5])), (q1, .inl (cI, 24, .inl (upd nm j n))), (q2, .inl (cI, 24, .inl (upd hi j h))), (q3, .inl (cI, 24, .inl ln)), (q4, .inl (cZ, 24, .inl op)), (q5, .inl (cI, 1536, .inl wd))] := hD
  refine lv_aload_n hx hb zd_C_place_14 rfl (lv_at hl 0 rfl) ?_
  refine va_get (D := (dC, dI)) (ci := 1) (v := .ref q4) (C := "ZoneShelf$Contents") (T := zs_T_C) (N := 5) hx hb hz zs_in_C hown hk.1 hP 0 rfl rfl 3 (by decide) (hz _ zq_43) (fun _ h9 => h9) rfl zd_C_place_15 ?_
  refine lv_iload_n hx hb zd_C_place_18 rfl (lv_at hl 1 rfl) ?_
  refine lv_iconst (v := 1) hx hb zd_C_place_19 (by decide) ?_
  refine zi_zst hx hb hk hP hD hS 4 (j := j) rfl (by omega) (by decide) zd_C_place_20 (fun H locs hP hD hS => ?_)
  have hP : va_P (dC, dI) zs_cl [(q0, .inr (1, [.ref q1, .ref q2, .ref q3, .ref q4, .ref q5])), (q1, .inl (cI, 24, .inl (upd nm j n))), (q2, .inl (cI, 24, .inl (upd hi j h))), (q3, .inl (cI, 24, .inl ln)), (q4, .inl (cZ, 24, .inl (upd op j (vp_nar .boolean 1)))), (q5, .inl (cI, 1536, .inl wd))] H := hP
  have hD : va_D A [(q0, .inr (1, [.ref q1, .ref q2, .ref q3, .ref q4, .ref q5])), (q1, .inl (cI, 24, .inl (upd nm j n))), (q2, .inl (cI, 24, .inl (upd hi j h))), (q3, .inl (cI, 24, .inl ln)), (q4, .inl (cZ, 24, .inl (upd op j (vp_nar .boolean 1)))), (q5, .inl (cI, 1536, .inl wd))] := hD
  exact zw_vret (upd nm j n, upd hi j h, ln, upd op j (vp_nar .boolean 1), wd) hx hb hr hlocks zd_C_place_21 rfl hP hD hS
set_option maxHeartbeats 4000000 in
set_option maxRecDepth 100000 in
theorem zc_C_takeAway (l : Launch) (dC : Nat → ClassId) (dI : Nat → Nat → Nat) (cI cZ : ClassId) (q0 q1 q2 q3 q4 q5 : Nat) (u : zs_C) (sz : Nat) (j : Nat) (hj : j < 24) : Met l zy_C_takeAway (.code zy_C_takeAway zb_C_takeAway 2 none :: zs_w) ({ frames := 0, cells := 0, slots := 0, locals := 0 }) (va_Pc [.ref q0, .int (nI j)] (zs_s dC dI cI cZ sz (zs_wC cI cZ q0 q1 q2 q3 q4 q5 u))) (va_Qv (fun v : zs_C => v = (upd u.1 j (-1), u.2.1, upd u.2.2.1 j 0, u.2.2.2.1, u.2.2.2.2)) (zs_e dC dI (zs_wC cI cZ q0 q1 q2 q3 q4 q5) (va_A (zs_wC cI cZ q0 q1 q2 q3 q4 q5 u) sz)) (va_A (zs_wC cI cZ q0 q1 q2 q3 q4 q5 u) sz)) 0 0 (va_A (zs_wC cI cZ q0 q1 q2 q3 q4 q5 u) sz) := by
  obtain ⟨nm, hi, ln, op, wd⟩ := u
  refine Met.ofW (cc := zb_C_takeAway) (maxL := 2) (ret := none) (by decide) rfl ?_
  intro p e s m args below meth c s₁ B hml hv
  obtain ⟨rfl, hsz, hP, hk, hD0⟩ := hv
  have hx := B.exec
  have hb := B.bytes
  have hr := B.returns
  have hts := atoms_spec (ws := .code zy_C_takeAway zb_C_takeAway 2 none :: zs_w) B.pre
  have hz : ∀ w ∈ zs_w, w.before _ s = true := fun w h => hts w (List.mem_cons_of_mem _ h)
  have hown : s.vm.findClass "ZoneShelf$Contents" = some m.cls := findClass_of_methodNamed B.named
  have hlocks := B.notSynchronized
  subst hsz
  have hD := hD0.self (sz := s.heap.size)
  generalize hAe : va_A (zs_wC cI cZ q0 q1 q2 q3 q4 q5 (nm, hi, ln, op, wd)) s.heap.size = A at hD ⊢
  have hA : ∀ q : Nat, s.heap.size ≤ q → A q := fun q h => by rw [← hAe]; exact Or.inr h
  have hS : va_S A s.heap s.heap [] := va_S.rf
  have hP : va_P (dC, dI) zs_cl [(q0, .inr (1, [.ref q1, .ref q2, .ref q3, .ref q4, .ref q5])), (q1, .inl (cI, 24, .inl nm)), (q2, .inl (cI, 24, .inl hi)), (q3, .inl (cI, 24, .inl ln)), (q4, .inl (cZ, 24, .inl op)), (q5, .inl (cI, 1536, .inl wd))] s.heap := hP
  have hD : va_D A [(q0, .inr (1, [.ref q1, .ref q2, .ref q3, .ref q4, .ref q5])), (q1, .inl (cI, 24, .inl nm)), (q2, .inl (cI, 24, .inl hi)), (q3, .inl (cI, 24, .inl ln)), (q4, .inl (cZ, 24, .inl op)), (q5, .inl (cI, 1536, .inl wd))] := hD
  have hl := lv_entry ([.ref q0, .int (nI j)]) (n := 2) (Nat.le_of_ble_eq_true rfl)
  rw [lg_entry_eq]
  generalize (lg_sl ([.ref q0, .int (nI j)]) ++ List.replicate (2 - (lg_sl ([.ref q0, .int (nI j)])).length) Slot.unset).toArray = ls at hl ⊢
  have hl : lv_has ls 2 [(0, .ref q0), (1, .int (nI j))] := hl
  refine lv_aload_n hx hb zd_C_takeAway_0 rfl (lv_at hl 0 rfl) ?_
  refine va_get (D := (dC, dI)) (ci := 1) (v := .ref q1) (C := "ZoneShelf$Contents") (T := zs_T_C) (N := 5) hx hb hz zs_in_C hown hk.1 hP 0 rfl rfl 0 (by decide) (hz _ zq_40) (fun _ h9 => h9) rfl zd_C_takeAway_1 ?_
  refine lv_iload_n hx hb zd_C_takeAway_4 rfl (lv_at hl 1 rfl) ?_
  refine lv_iconst (v := (-1)) hx hb zd_C_takeAway_5 (by decide) ?_
  refine zi_ast hx hb hk hP hD hS 1 (j := j) rfl (by omega) (by decide) zd_C_takeAway_6 (fun H locs hP hD hS => ?_)
  have hP : va_P (dC, dI) zs_cl [(q0, .inr (1, [.ref q1, .ref q2, .ref q3, .ref q4, .ref q5])), (q1, .inl (cI, 24, .inl (upd nm j (-1)))), (q2, .inl (cI, 24, .inl hi)), (q3, .inl (cI, 24, .inl ln)), (q4, .inl (cZ, 24, .inl op)), (q5, .inl (cI, 1536, .inl wd))] H := hP
  have hD : va_D A [(q0, .inr (1, [.ref q1, .ref q2, .ref q3, .ref q4, .ref q5])), (q1, .inl (cI, 24, .inl (upd nm j (-1)))), (q2, .inl (cI, 24, .inl hi)), (q3, .inl (cI, 24, .inl ln)), (q4, .inl (cZ, 24, .inl op)), (q5, .inl (cI, 1536, .inl wd))] := hD
  refine lv_aload_n hx hb zd_C_takeAway_7 rfl (lv_at hl 0 rfl) ?_
  refine va_get (D := (dC, dI)) (ci := 1) (v := .ref q3) (C := "ZoneShelf$Contents") (T := zs_T_C) (N := 5) hx hb hz zs_in_C hown hk.1 hP 0 rfl rfl 2 (by decide) (hz _ zq_42) (fun _ h9 => h9) rfl zd_C_takeAway_8 ?_
  refine lv_iload_n hx hb zd_C_takeAway_11 rfl (lv_at hl 1 rfl) ?_
  refine lv_iconst (v := 0) hx hb zd_C_takeAway_12 (by decide) ?_
  refine zi_ast hx hb hk hP hD hS 3 (j := j) rfl (by omega) (by decide) zd_C_takeAway_13 (fun H locs hP hD hS => ?_)
  have hP : va_P (dC, dI) zs_cl [(q0, .inr (1, [.ref q1, .ref q2, .ref q3, .ref q4, .ref q5])), (q1, .inl (cI, 24, .inl (upd nm j (-1)))), (q2, .inl (cI, 24, .inl hi)), (q3, .inl (cI, 24, .inl (upd ln j 0))), (q4, .inl (cZ, 24, .inl op)), (q5, .inl (cI, 1536, .inl wd))] H := hP
  have hD : va_D A [(q0, .inr (1, [.ref q1, .ref q2, .ref q3, .ref q4, .ref q5])), (q1, .inl (cI, 24, .inl (upd nm j (-1)))), (q2, .inl (cI, 24, .inl hi)), (q3, .inl (cI, 24, .inl (upd ln j 0))), (q4, .inl (cZ, 24, .inl op)), (q5, .inl (cI, 1536, .inl wd))] := hD
  exact zw_vret (upd nm j (-1), hi, upd ln j 0, op, wd) hx hb hr hlocks zd_C_takeAway_14 rfl hP hD hS
set_option maxHeartbeats 4000000 in
set_option maxRecDepth 100000 in
theorem zc_C_addRow (l : Launch) (dC : Nat → ClassId) (dI : Nat → Nat → Nat) (cI cZ : ClassId) (q0 q1 q2 q3 q4 q5 : Nat) (u : zs_C) (sz : Nat) (j q k : Nat) (f : Int32) (hj : j < 24) (hq : u.2.2.1 j = nI q) (hk6 : q + k ≤ 64) : Met l zy_C_addRow (.code zy_C_addRow zb_C_addRow 6 none :: zs_w) ({ frames := 0, cells := 0, slots := 0, locals := 0 }) (va_Pc [.ref q0, .int (nI j), .int f, .int (nI k)] (zs_s dC dI cI cZ sz (zs_wC cI cZ q0 q1 q2 q3 q4 q5 u))) (va_Qv (fun v : zs_C => v = (u.1, u.2.1, upd u.2.2.1 j (nI (q + k)), u.2.2.2.1, zs_row u.2.2.2.2 (j * 64 + q) f k)) (zs_e dC dI (zs_wC cI cZ q0 q1 q2 q3 q4 q5) (va_A (zs_wC cI cZ q0 q1 q2 q3 q4 q5 u) sz)) (va_A (zs_wC cI cZ q0 q1 q2 q3 q4 q5 u) sz)) 0 0 (va_A (zs_wC cI cZ q0 q1 q2 q3 q4 q5 u) sz) := by
  obtain ⟨nm, hi, ln, op, wd⟩ := u
  have hq : ln j = nI q := hq
  refine Met.ofW (cc := zb_C_addRow) (maxL := 6) (ret := none) (by decide) rfl ?_
  intro p e s m args below meth c s₁ B hml hv
  obtain ⟨rfl, hsz, hP, hk, hD0⟩ := hv
  have hx := B.exec
  have hb := B.bytes
  have hr := B.returns
  have hts := atoms_spec (ws := .code zy_C_addRow zb_C_addRow 6 none :: zs_w) B.pre
  have hz : ∀ w ∈ zs_w, w.before _ s = true := fun w h => hts w (List.mem_cons_of_mem _ h)
  have hown : s.vm.findClass "ZoneShelf$Contents" = some m.cls := findClass_of_methodNamed B.named
  have hlocks := B.notSynchronized
  subst hsz
  have hD := hD0.self (sz := s.heap.size)
  generalize hAe : va_A (zs_wC cI cZ q0 q1 q2 q3 q4 q5 (nm, hi, ln, op, wd)) s.heap.size = A at hD ⊢
  have hA : ∀ q : Nat, s.heap.size ≤ q → A q := fun q h => by rw [← hAe]; exact Or.inr h
  have hS : va_S A s.heap s.heap [] := va_S.rf
  have hP : va_P (dC, dI) zs_cl [(q0, .inr (1, [.ref q1, .ref q2, .ref q3, .ref q4, .ref q5])), (q1, .inl (cI, 24, .inl nm)), (q2, .inl (cI, 24, .inl hi)), (q3, .inl (cI, 24, .inl ln)), (q4, .inl (cZ, 24, .inl op)), (q5, .inl (cI, 1536, .inl wd))] s.heap := hP
  have hD : va_D A [(q0, .inr (1, [.ref q1, .ref q2, .ref q3, .ref q4, .ref q5])), (q1, .inl (cI, 24, .inl nm)), (q2, .inl (cI, 24, .inl hi)), (q3, .inl (cI, 24, .inl ln)), (q4, .inl (cZ, 24, .inl op)), (q5, .inl (cI, 1536, .inl wd))] := hD
  have hl := lv_entry ([.ref q0, .int (nI j), .int f, .int (nI k)]) (n := 6) (Nat.le_of_ble_eq_true rfl)
  rw [lg_entry_eq]
  generalize (lg_sl ([.ref q0, .int (nI j), .int f, .int (nI k)]) ++ List.replicate (6 - (lg_sl ([.ref q0, .int (nI j), .int f, .int (nI k)])).length) Slot.unset).toArray = ls at hl ⊢
  have hl : lv_has ls 6 [(0, .ref q0), (1, .int (nI j)), (2, .int f), (3, .int (nI k))] := hl
  refine lv_iload_n hx hb zd_C_addRow_0 rfl (lv_at hl 1 rfl) ?_
  refine lv_bipush (v := 64) hx hb zd_C_addRow_1 (by decide) ?_
  refine lv_imul hx hb zd_C_addRow_3 ?_
  refine lv_aload_n hx hb zd_C_addRow_4 rfl (lv_at hl 0 rfl) ?_
  refine va_get (D := (dC, dI)) (ci := 1) (v := .ref q3) (C := "ZoneShelf$Contents") (T := zs_T_C) (N := 5) hx hb hz zs_in_C hown hk.1 hP 0 rfl rfl 2 (by decide) (hz _ zq_42) (fun _ h9 => h9) rfl zd_C_addRow_5 ?_
  refine lv_iload_n hx hb zd_C_addRow_8 rfl (lv_at hl 1 rfl) ?_
  refine zi_ald hx hb hk hP 3 (j := j) rfl (by omega) (by decide) zd_C_addRow_9 ?_
  refine lv_iadd hx hb zd_C_addRow_10 ?_
  refine zi_top (y := nI (j * 64 + q)) (by rw [hq, show (64 : Int32) = nI 64 from rfl, pk_mul, nI_add]) ?_
  refine lv_istore (lv' := [(4, .int (nI (j * 64 + q))), (0, .ref q0), (1, .int (nI j)), (2, .int f), (3, .int (nI k))]) hx hb zd_C_addRow_11 hl (by decide) rfl (fun ls hl => ?_)
  refine lv_iconst (v := 0) hx hb zd_C_addRow_13 (by decide) ?_
  refine lv_istore (lv' := [(5, .int 0), (4, .int (nI (j * 64 + q))), (0, .ref q0), (1, .int (nI j)), (2, .int f), (3, .int (nI k))]) hx hb zd_C_addRow_14 hl (by decide) rfl (fun ls hl => ?_)
  refine zl_w (N := k) (α := Unit) (fun kk ii xx ls H locs => lv_has ls 6 [(5, .int (nI ii)), (4, .int (nI (j * 64 + q))), (0, .ref q0), (1, .int (nI j)), (2, .int f), (3, .int (nI k))] ∧ va_P (dC, dI) zs_cl [(q0, .inr (1, [.ref q1, .ref q2, .ref q3, .ref q4, .ref q5])), (q1, .inl (cI, 24, .inl nm)), (q2, .inl (cI, 24, .inl hi)), (q3, .inl (cI, 24, .inl ln)), (q4, .inl (cZ, 24, .inl op)), (q5, .inl (cI, 1536, .inl (zs_row wd (j * 64 + q) f ii)))] H ∧ va_D A [(q0, .inr (1, [.ref q1, .ref q2, .ref q3, .ref q4, .ref q5])), (q1, .inl (cI, 24, .inl nm)), (q2, .inl (cI, 24, .inl hi)), (q3, .inl (cI, 24, .inl ln)), (q4, .inl (cZ, 24, .inl op)), (q5, .inl (cI, 1536, .inl (zs_row wd (j * 64 + q) f ii)))] ∧ va_S A s.heap H locs) (fun k1 i1 x1 ls H locs e1 hv ih1 => ?_) (fun x1 ls H locs hv => ?_) k 0 () ls s.heap _ (by omega) ⟨lv_sub hl [0, 1, 2, 3, 4, 5] rfl, hP, hD, hS⟩
  · obtain ⟨hl, hP, hD, hS⟩ := hv
    have hl : lv_has ls 6 [(5, .int (nI i1)), (4, .int (nI (j * 64 + q))), (0, .ref q0), (1, .int (nI j)), (2, .int f), (3, .int (nI k))] := hl
    have hP : va_P (dC, dI) zs_cl [(q0, .inr (1, [.ref q1, .ref q2, .ref q3, .ref q4, .ref q5])), (q1, .inl (cI, 24, .inl nm)), (q2, .inl (cI, 24, .inl hi)), (q3, .inl (cI, 24, .inl ln)), (q4, .inl (cZ, 24, .inl op)), (q5, .inl (cI, 1536, .inl (zs_row wd (j * 64 + q) f i1)))] H := hP
    have hD : va_D A [(q0, .inr (1, [.ref q1, .ref q2, .ref q3, .ref q4, .ref q5])), (q1, .inl (cI, 24, .inl nm)), (q2, .inl (cI, 24, .inl hi)), (q3, .inl (cI, 24, .inl ln)), (q4, .inl (cZ, 24, .inl op)), (q5, .inl (cI, 1536, .inl (zs_row wd (j * 64 + q) f i1)))] := hD
    have hlt1 : i1 < k := by omega
    refine lv_iload hx hb zd_C_addRow_16 (lv_at hl 0 rfl) ?_
    refine lv_iload_n hx hb zd_C_addRow_18 rfl (lv_at hl 5 rfl) ?_
    refine zj_in (tgt := 42) (n := k) hx hb zd_C_addRow_19 rfl rfl hlt1 (by omega) ?_
    refine lv_aload_n hx hb zd_C_addRow_22 rfl (lv_at hl 2 rfl) ?_
    refine va_get (D := (dC, dI)) (ci := 1) (v := .ref q5) (C := "ZoneShelf$Contents") (T := zs_T_C) (N := 5) hx hb hz zs_in_C hown hk.1 hP 0 rfl rfl 4 (by decide) (hz _ zq_44) (fun _ h9 => h9) rfl zd_C_addRow_23 ?_
    refine lv_iload hx hb zd_C_addRow_26 (lv_at hl 1 rfl) ?_
    refine lv_iload hx hb zd_C_addRow_28 (lv_at hl 0 rfl) ?_
    refine lv_iadd hx hb zd_C_addRow_30 ?_
    refine zi_top (y := nI (j * 64 + q + i1)) (nI_add _ _) ?_
    refine lv_iload_n hx hb zd_C_addRow_31 rfl (lv_at hl 4 rfl) ?_
    refine lv_iload hx hb zd_C_addRow_32 (lv_at hl 0 rfl) ?_
    refine lv_iadd hx hb zd_C_addRow_34 ?_
    refine zi_ast hx hb hk hP hD hS 5 (j := (j * 64 + q + i1)) rfl (by omega) (by decide) zd_C_addRow_35 (fun H locs hP hD hS => ?_)
    have hP : va_P (dC, dI) zs_cl [(q0, .inr (1, [.ref q1, .ref q2, .ref q3, .ref q4, .ref q5])), (q1, .inl (cI, 24, .inl nm)), (q2, .inl (cI, 24, .inl hi)), (q3, .inl (cI, 24, .inl ln)), (q4, .inl (cZ, 24, .inl op)), (q5, .inl (cI, 1536, .inl (upd (zs_row wd (j * 64 + q) f i1) (j * 64 + q + i1) (f + (nI i1)))))] H := hP
    have hD : va_D A [(q0, .inr (1, [.ref q1, .ref q2, .ref q3, .ref q4, .ref q5])), (q1, .inl (cI, 24, .inl nm)), (q2, .inl (cI, 24, .inl hi)), (q3, .inl (cI, 24, .inl ln)), (q4, .inl (cZ, 24, .inl op)), (q5, .inl (cI, 1536, .inl (upd (zs_row wd (j * 64 + q) f i1) (j * 64 + q + i1) (f + (nI i1)))))] := hD
    refine lv_iinc (k := 0) (v := nI (i1 + 1)) (lv' := [(5, .int (nI (i1 + 1))), (4, .int (nI (j * 64 + q))), (0, .ref q0), (1, .int (nI j)), (2, .int f), (3, .int (nI k))]) hx hb zd_C_addRow_36 hl rfl (zs_inc _) (by decide) rfl (fun ls hl => ?_)
    refine lv_goto (tgt := 16) hx hb zd_C_addRow_39 rfl ?_
    exact ih1 () ls H locs ⟨lv_sub hl [0, 1, 2, 3, 4, 5] rfl, hP, hD, hS⟩
  · obtain ⟨hl, hP, hD, hS⟩ := hv
    have hl : lv_has ls 6 [(5, .int (nI k)), (4, .int (nI (j * 64 + q))), (0, .ref q0), (1, .int (nI j)), (2, .int f), (3, .int (nI k))] := hl
    have hP : va_P (dC, dI) zs_cl [(q0, .inr (1, [.ref q1, .ref q2, .ref q3, .ref q4, .ref q5])), (q1, .inl (cI, 24, .inl nm)), (q2, .inl (cI, 24, .inl hi)), (q3, .inl (cI, 24, .inl ln)), (q4, .inl (cZ, 24, .inl op)), (q5, .inl (cI, 1536, .inl (zs_row wd (j * 64 + q) f k)))] H := hP
    have hD : va_D A [(q0, .inr (1, [.ref q1, .ref q2, .ref q3, .ref q4, .ref q5])), (q1, .inl (cI, 24, .inl nm)), (q2, .inl (cI, 24, .inl hi)), (q3, .inl (cI, 24, .inl ln)), (q4, .inl (cZ, 24, .inl op)), (q5, .inl (cI, 1536, .inl (zs_row wd (j * 64 + q) f k)))] := hD
    refine lv_iload hx hb zd_C_addRow_16 (lv_at hl 0 rfl) ?_
    refine lv_iload_n hx hb zd_C_addRow_18 rfl (lv_at hl 5 rfl) ?_
    refine zj_out (tgt := 42) (n := k) (i := k) hx hb zd_C_addRow_19 rfl rfl (Nat.le_refl _) (by omega) ?_
    refine lv_aload_n hx hb zd_C_addRow_42 rfl (lv_at hl 2 rfl) ?_
    refine va_get (D := (dC, dI)) (ci := 1) (v := .ref q3) (C := "ZoneShelf$Contents") (T := zs_T_C) (N := 5) hx hb hz zs_in_C hown hk.1 hP 0 rfl rfl 2 (by decide) (hz _ zq_42) (fun _ h9 => h9) rfl zd_C_addRow_43 ?_
    refine lv_iload_n hx hb zd_C_addRow_46 rfl (lv_at hl 3 rfl) ?_
    refine lv_dup2_11 hx hb zd_C_addRow_47 rfl rfl ?_
    refine zi_ald hx hb hk hP 3 (j := j) rfl (by omega) (by decide) zd_C_addRow_48 ?_
    refine lv_iload_n hx hb zd_C_addRow_49 rfl (lv_at hl 5 rfl) ?_
    refine lv_iadd hx hb zd_C_addRow_50 ?_
    refine zi_top (y := nI (q + k)) (by rw [hq]; exact nI_add _ _) ?_
    refine zi_ast hx hb hk hP hD hS 3 (j := j) rfl (by omega) (by decide) zd_C_addRow_51 (fun H locs hP hD hS => ?_)
    have hP : va_P (dC, dI) zs_cl [(q0, .inr (1, [.ref q1, .ref q2, .ref q3, .ref q4, .ref q5])), (q1, .inl (cI, 24, .inl nm)), (q2, .inl (cI, 24, .inl hi)), (q3, .inl (cI, 24, .inl (upd ln j (nI (q + k))))), (q4, .inl (cZ, 24, .inl op)), (q5, .inl (cI, 1536, .inl (zs_row wd (j * 64 + q) f k)))] H := hP
    have hD : va_D A [(q0, .inr (1, [.ref q1, .ref q2, .ref q3, .ref q4, .ref q5])), (q1, .inl (cI, 24, .inl nm)), (q2, .inl (cI, 24, .inl hi)), (q3, .inl (cI, 24, .inl (upd ln j (nI (q + k))))), (q4, .inl (cZ, 24, .inl op)), (q5, .inl (cI, 1536, .inl (zs_row wd (j * 64 + q) f k)))] := hD
    exact zw_vret (nm, hi, upd ln j (nI (q + k)), op, zs_row wd (j * 64 + q) f k) hx hb hr hlocks zd_C_addRow_52 rfl hP hD hS
set_option maxHeartbeats 4000000 in
set_option maxRecDepth 100000 in
theorem zc_C_copyFrom (l : Launch) (dC : Nat → ClassId) (dI : Nat → Nat → Nat) (cI cZ : ClassId) (q0 q1 q2 q3 q4 q5 p0 p1 p2 p3 p4 p5 : Nat) (u v : zs_C) (sz : Nat) : Met l zy_C_copyFrom (.code zy_C_copyFrom zb_C_copyFrom 3 none :: zs_w) ({ frames := 1, cells := 0, slots := 0, locals := 26 }) (va_Pc [.ref q0, .ref p0] (zs_s dC dI cI cZ sz (zs_wC cI cZ q0 q1 q2 q3 q4 q5 u ++ zs_wC cI cZ p0 p1 p2 p3 p4 p5 v))) (va_Qv (fun t : zs_C => t = zs_copy v u) (zs_e dC dI (fun t => zs_wC cI cZ q0 q1 q2 q3 q4 q5 t ++ zs_wC cI cZ p0 p1 p2 p3 p4 p5 v) (va_A (zs_wC cI cZ q0 q1 q2 q3 q4 q5 u ++ zs_wC cI cZ p0 p1 p2 p3 p4 p5 v) sz)) (va_A (zs_wC cI cZ q0 q1 q2 q3 q4 q5 u ++ zs_wC cI cZ p0 p1 p2 p3 p4 p5 v) sz)) 0 0 (va_A (zs_wC cI cZ q0 q1 q2 q3 q4 q5 u ++ zs_wC cI cZ p0 p1 p2 p3 p4 p5 v) sz) := by
  obtain ⟨nm, hi, ln, op, wd⟩ := u
  obtain ⟨nm2, hi2, ln2, op2, wd2⟩ := v
  refine Met.ofW (cc := zb_C_copyFrom) (maxL := 3) (ret := none) (by decide) rfl ?_
  intro p e s m args below meth c s₁ B hml hv
  obtain ⟨rfl, hsz, hP, hk, hD0⟩ := hv
  have hx := B.exec
  have hb := B.bytes
  have hr := B.returns
  have hts := atoms_spec (ws := .code zy_C_copyFrom zb_C_copyFrom 3 none :: zs_w) B.pre
  have hz : ∀ w ∈ zs_w, w.before _ s = true := fun w h => hts w (List.mem_cons_of_mem _ h)
  have hown : s.vm.findClass "ZoneShelf$Contents" = some m.cls := findClass_of_methodNamed B.named
  have hlocks := B.notSynchronized
  subst hsz
  have hD := hD0.self (sz := s.heap.size)
  generalize hAe : va_A (zs_wC cI cZ q0 q1 q2 q3 q4 q5 (nm, hi, ln, op, wd) ++ zs_wC cI cZ p0 p1 p2 p3 p4 p5 (nm2, hi2, ln2, op2, wd2)) s.heap.size = A at hD ⊢
  have hA : ∀ q : Nat, s.heap.size ≤ q → A q := fun q h => by rw [← hAe]; exact Or.inr h
  have hS : va_S A s.heap s.heap [] := va_S.rf
  have hP : va_P (dC, dI) zs_cl [(q0, .inr (1, [.ref q1, .ref q2, .ref q3, .ref q4, .ref q5])), (q1, .inl (cI, 24, .inl nm)), (q2, .inl (cI, 24, .inl hi)), (q3, .inl (cI, 24, .inl ln)), (q4, .inl (cZ, 24, .inl op)), (q5, .inl (cI, 1536, .inl wd)), (p0, .inr (1, [.ref p1, .ref p2, .ref p3, .ref p4, .ref p5])), (p1, .inl (cI, 24, .inl nm2)), (p2, .inl (cI, 24, .inl hi2)), (p3, .inl (cI, 24, .inl ln2)), (p4, .inl (cZ, 24, .inl op2)), (p5, .inl (cI, 1536, .inl wd2))] s.heap := hP
  have hD : va_D A [(q0, .inr (1, [.ref q1, .ref q2, .ref q3, .ref q4, .ref q5])), (q1, .inl (cI, 24, .inl nm)), (q2, .inl (cI, 24, .inl hi)), (q3, .inl (cI, 24, .inl ln)), (q4, .inl (cZ, 24, .inl op)), (q5, .inl (cI, 1536, .inl wd)), (p0, .inr (1, [.ref p1, .ref p2, .ref p3, .ref p4, .ref p5])), (p1, .inl (cI, 24, .inl nm2)), (p2, .inl (cI, 24, .inl hi2)), (p3, .inl (cI, 24, .inl ln2)), (p4, .inl (cZ, 24, .inl op2)), (p5, .inl (cI, 1536, .inl wd2))] := hD
  have hl := lv_entry ([.ref q0, .ref p0]) (n := 3) (Nat.le_of_ble_eq_true rfl)
  rw [lg_entry_eq]
  generalize (lg_sl ([.ref q0, .ref p0]) ++ List.replicate (3 - (lg_sl ([.ref q0, .ref p0])).length) Slot.unset).toArray = ls at hl ⊢
  have hl : lv_has ls 3 [(0, .ref q0), (1, .ref p0)] := hl
  refine lv_iconst (v := 0) hx hb zd_C_copyFrom_0 (by decide) ?_
  refine lv_istore_n (lv' := [(2, .int 0), (0, .ref q0), (1, .ref p0)]) hx hb zd_C_copyFrom_1 rfl hl (by decide) rfl (fun ls hl => ?_)
  refine zl_w (N := 24) (α := Unit) (fun kk ii xx ls H locs => lv_has ls 3 [(2, .int (nI ii)), (0, .ref q0), (1, .ref p0)] ∧ va_P (dC, dI) zs_cl [(q0, .inr (1, [.ref q1, .ref q2, .ref q3, .ref q4, .ref q5])), (q1, .inl (cI, 24, .inl (zs_cp nm2 nm ii))), (q2, .inl (cI, 24, .inl (zs_cp hi2 hi ii))), (q3, .inl (cI, 24, .inl (zs_cp ln2 ln ii))), (q4, .inl (cZ, 24, .inl (zs_cz op2 op ii))), (q5, .inl (cI, 1536, .inl wd)), (p0, .inr (1, [.ref p1, .ref p2, .ref p3, .ref p4, .ref p5])), (p1, .inl (cI, 24, .inl nm2)), (p2, .inl (cI, 24, .inl hi2)), (p3, .inl (cI, 24, .inl ln2)), (p4, .inl (cZ, 24, .inl op2)), (p5, .inl (cI, 1536, .inl wd2))] H ∧ va_D A [(q0, .inr (1, [.ref q1, .ref q2, .ref q3, .ref q4, .ref q5])), (q1, .inl (cI, 24, .inl (zs_cp nm2 nm ii))), (q2, .inl (cI, 24, .inl (zs_cp hi2 hi ii))), (q3, .inl (cI, 24, .inl (zs_cp ln2 ln ii))), (q4, .inl (cZ, 24, .inl (zs_cz op2 op ii))), (q5, .inl (cI, 1536, .inl wd)), (p0, .inr (1, [.ref p1, .ref p2, .ref p3, .ref p4, .ref p5])), (p1, .inl (cI, 24, .inl nm2)), (p2, .inl (cI, 24, .inl hi2)), (p3, .inl (cI, 24, .inl ln2)), (p4, .inl (cZ, 24, .inl op2)), (p5, .inl (cI, 1536, .inl wd2))] ∧ va_S A s.heap H locs) (fun k1 i1 x1 ls H locs e1 hv ih1 => ?_) (fun x1 ls H locs hv => ?_) 24 0 () ls s.heap _ rfl ⟨lv_sub hl [0, 1, 2] rfl, by rw [zs_cp_0, zs_cp_0, zs_cp_0, zs_cz_0]; exact hP, by rw [zs_cp_0, zs_cp_0, zs_cp_0, zs_cz_0]; exact hD, hS⟩
  · obtain ⟨hl, hP, hD, hS⟩ := hv
    have hl : lv_has ls 3 [(2, .int (nI i1)), (0, .ref q0), (1, .ref p0)] := hl
    have hP : va_P (dC, dI) zs_cl [(q0, .inr (1, [.ref q1, .ref q2, .ref q3, .ref q4, .ref q5])), (q1, .inl (cI, 24, .inl (zs_cp nm2 nm i1))), (q2, .inl (cI, 24, .inl (zs_cp hi2 hi i1))), (q3, .inl (cI, 24, .inl (zs_cp ln2 ln i1))), (q4, .inl (cZ, 24, .inl (zs_cz op2 op i1))), (q5, .inl (cI, 1536, .inl wd)), (p0, .inr (1, [.ref p1, .ref p2, .ref p3, .ref p4, .ref p5])), (p1, .inl (cI, 24, .inl nm2)), (p2, .inl (cI, 24, .inl hi2)), (p3, .inl (cI, 24, .inl ln2)), (p4, .inl (cZ, 24, .inl op2)), (p5, .inl (cI, 1536, .inl wd2))] H := hP
    have hD : va_D A [(q0, .inr (1, [.ref q1, .ref q2, .ref q3, .ref q4, .ref q5])), (q1, .inl (cI, 24, .inl (zs_cp nm2 nm i1))), (q2, .inl (cI, 24, .inl (zs_cp hi2 hi i1))), (q3, .inl (cI, 24, .inl (zs_cp ln2 ln i1))), (q4, .inl (cZ, 24, .inl (zs_cz op2 op i1))), (q5, .inl (cI, 1536, .inl wd)), (p0, .inr (1, [.ref p1, .ref p2, .ref p3, .ref p4, .ref p5])), (p1, .inl (cI, 24, .inl nm2)), (p2, .inl (cI, 24, .inl hi2)), (p3, .inl (cI, 24, .inl ln2)), (p4, .inl (cZ, 24, .inl op2)), (p5, .inl (cI, 1536, .inl wd2))] := hD
    have hlt1 : i1 < 24 := by omega
    refine lv_iload_n hx hb zd_C_copyFrom_2 rfl (lv_at hl 0 rfl) ?_
    refine lv_bipush (v := 24) hx hb zd_C_copyFrom_3 (by decide) ?_
    refine zj_in (tgt := 62) (n := 24) hx hb zd_C_copyFrom_5 rfl (by decide) hlt1 (by decide) ?_
    refine lv_aload_n hx hb zd_C_copyFrom_8 rfl (lv_at hl 1 rfl) ?_
    refine va_get (D := (dC, dI)) (ci := 1) (v := .ref q1) (C := "ZoneShelf$Contents") (T := zs_T_C) (N := 5) hx hb hz zs_in_C hown hk.1 hP 0 rfl rfl 0 (by decide) (hz _ zq_40) (fun _ h9 => h9) rfl zd_C_copyFrom_9 ?_
    refine lv_iload_n hx hb zd_C_copyFrom_12 rfl (lv_at hl 0 rfl) ?_
    refine lv_aload_n hx hb zd_C_copyFrom_13 rfl (lv_at hl 2 rfl) ?_
    refine va_get (D := (dC, dI)) (ci := 1) (v := .ref p1) (C := "ZoneShelf$Contents") (T := zs_T_C) (N := 5) hx hb hz zs_in_C hown hk.1 hP 6 rfl rfl 0 (by decide) (hz _ zq_40) (fun _ h9 => h9) rfl zd_C_copyFrom_14 ?_
    refine lv_iload_n hx hb zd_C_copyFrom_17 rfl (lv_at hl 0 rfl) ?_
    refine zi_ald hx hb hk hP 7 (j := i1) rfl (by omega) (by decide) zd_C_copyFrom_18 ?_
    refine zi_ast hx hb hk hP hD hS 1 (j := i1) rfl (by omega) (by decide) zd_C_copyFrom_19 (fun H locs hP hD hS => ?_)
    have hP : va_P (dC, dI) zs_cl [(q0, .inr (1, [.ref q1, .ref q2, .ref q3, .ref q4, .ref q5])), (q1, .inl (cI, 24, .inl (upd (zs_cp nm2 nm i1) i1 (nm2 i1)))), (q2, .inl (cI, 24, .inl (zs_cp hi2 hi i1))), (q3, .inl (cI, 24, .inl (zs_cp ln2 ln i1))), (q4, .inl (cZ, 24, .inl (zs_cz op2 op i1))), (q5, .inl (cI, 1536, .inl wd)), (p0, .inr (1, [.ref p1, .ref p2, .ref p3, .ref p4, .ref p5])), (p1, .inl (cI, 24, .inl nm2)), (p2, .inl (cI, 24, .inl hi2)), (p3, .inl (cI, 24, .inl ln2)), (p4, .inl (cZ, 24, .inl op2)), (p5, .inl (cI, 1536, .inl wd2))] H := hP
    have hD : va_D A [(q0, .inr (1, [.ref q1, .ref q2, .ref q3, .ref q4, .ref q5])), (q1, .inl (cI, 24, .inl (upd (zs_cp nm2 nm i1) i1 (nm2 i1)))), (q2, .inl (cI, 24, .inl (zs_cp hi2 hi i1))), (q3, .inl (cI, 24, .inl (zs_cp ln2 ln i1))), (q4, .inl (cZ, 24, .inl (zs_cz op2 op i1))), (q5, .inl (cI, 1536, .inl wd)), (p0, .inr (1, [.ref p1, .ref p2, .ref p3, .ref p4, .ref p5])), (p1, .inl (cI, 24, .inl nm2)), (p2, .inl (cI, 24, .inl hi2)), (p3, .inl (cI, 24, .inl ln2)), (p4, .inl (cZ, 24, .inl op2)), (p5, .inl (cI, 1536, .inl wd2))] := hD
    refine lv_aload_n hx hb zd_C_copyFrom_20 rfl (lv_at hl 1 rfl) ?_
    refine va_get (D := (dC, dI)) (ci := 1) (v := .ref q2) (C := "ZoneShelf$Contents") (T := zs_T_C) (N := 5) hx hb hz zs_in_C hown hk.1 hP 0 rfl rfl 1 (by decide) (hz _ zq_41) (fun _ h9 => h9) rfl zd_C_copyFrom_21 ?_
    refine lv_iload_n hx hb zd_C_copyFrom_24 rfl (lv_at hl 0 rfl) ?_
    refine lv_aload_n hx hb zd_C_copyFrom_25 rfl (lv_at hl 2 rfl) ?_
    refine va_get (D := (dC, dI)) (ci := 1) (v := .ref p2) (C := "ZoneShelf$Contents") (T := zs_T_C) (N := 5) hx hb hz zs_in_C hown hk.1 hP 6 rfl rfl 1 (by decide) (hz _ zq_41) (fun _ h9 => h9) rfl zd_C_copyFrom_26 ?_
    refine lv_iload_n hx hb zd_C_copyFrom_29 rfl (lv_at hl 0 rfl) ?_
    refine zi_ald hx hb hk hP 8 (j := i1) rfl (by omega) (by decide) zd_C_copyFrom_30 ?_
    refine zi_ast hx hb hk hP hD hS 2 (j := i1) rfl (by omega) (by decide) zd_C_copyFrom_31 (fun H locs hP hD hS => ?_)
    have hP : va_P (dC, dI) zs_cl [(q0, .inr (1, [.ref q1, .ref q2, .ref q3, .ref q4, .ref q5])), (q1, .inl (cI, 24, .inl (upd (zs_cp nm2 nm i1) i1 (nm2 i1)))), (q2, .inl (cI, 24, .inl (upd (zs_cp hi2 hi i1) i1 (hi2 i1)))), (q3, .inl (cI, 24, .inl (zs_cp ln2 ln i1))), (q4, .inl (cZ, 24, .inl (zs_cz op2 op i1))), (q5, .inl (cI, 1536, .inl wd)), (p0, .inr (1, [.ref p1, .ref p2, .ref p3, .ref p4, .ref p5])), (p1, .inl (cI, 24, .inl nm2)), (p2, .inl (cI, 24, .inl hi2)), (p3, .inl (cI, 24, .inl ln2)), (p4, .inl (cZ, 24, .inl op2)), (p5, .inl (cI, 1536, .inl wd2))] H := hP
    have hD : va_D A [(q0, .inr (1, [.ref q1, .ref q2, .ref q3, .ref q4, .ref q5])), (q1, .inl (cI, 24, .inl (upd (zs_cp nm2 nm i1) i1 (nm2 i1)))), (q2, .inl (cI, 24, .inl (upd (zs_cp hi2 hi i1) i1 (hi2 i1)))), (q3, .inl (cI, 24, .inl (zs_cp ln2 ln i1))), (q4, .inl (cZ, 24, .inl (zs_cz op2 op i1))), (q5, .inl (cI, 1536, .inl wd)), (p0, .inr (1, [.ref p1, .ref p2, .ref p3, .ref p4, .ref p5])), (p1, .inl (cI, 24, .inl nm2)), (p2, .inl (cI, 24, .inl hi2)), (p3, .inl (cI, 24, .inl ln2)), (p4, .inl (cZ, 24, .inl op2)), (p5, .inl (cI, 1536, .inl wd2))] := hD
    refine lv_aload_n hx hb zd_C_copyFrom_32 rfl (lv_at hl 1 rfl) ?_
    refine va_get (D := (dC, dI)) (ci := 1) (v := .ref q3) (C := "ZoneShelf$Contents") (T := zs_T_C) (N := 5) hx hb hz zs_in_C hown hk.1 hP 0 rfl rfl 2 (by decide) (hz _ zq_42) (fun _ h9 => h9) rfl zd_C_copyFrom_33 ?_
    refine lv_iload_n hx hb zd_C_copyFrom_36 rfl (lv_at hl 0 rfl) ?_
    refine lv_aload_n hx hb zd_C_copyFrom_37 rfl (lv_at hl 2 rfl) ?_
    refine va_get (D := (dC, dI)) (ci := 1) (v := .ref p3) (C := "ZoneShelf$Contents") (T := zs_T_C) (N := 5) hx hb hz zs_in_C hown hk.1 hP 6 rfl rfl 2 (by decide) (hz _ zq_42) (fun _ h9 => h9) rfl zd_C_copyFrom_38 ?_
    refine lv_iload_n hx hb zd_C_copyFrom_41 rfl (lv_at hl 0 rfl) ?_
    refine zi_ald hx hb hk hP 9 (j := i1) rfl (by omega) (by decide) zd_C_copyFrom_42 ?_
    refine zi_ast hx hb hk hP hD hS 3 (j := i1) rfl (by omega) (by decide) zd_C_copyFrom_43 (fun H locs hP hD hS => ?_)
    have hP : va_P (dC, dI) zs_cl [(q0, .inr (1, [.ref q1, .ref q2, .ref q3, .ref q4, .ref q5])), (q1, .inl (cI, 24, .inl (upd (zs_cp nm2 nm i1) i1 (nm2 i1)))), (q2, .inl (cI, 24, .inl (upd (zs_cp hi2 hi i1) i1 (hi2 i1)))), (q3, .inl (cI, 24, .inl (upd (zs_cp ln2 ln i1) i1 (ln2 i1)))), (q4, .inl (cZ, 24, .inl (zs_cz op2 op i1))), (q5, .inl (cI, 1536, .inl wd)), (p0, .inr (1, [.ref p1, .ref p2, .ref p3, .ref p4, .ref p5])), (p1, .inl (cI, 24, .inl nm2)), (p2, .inl (cI, 24, .inl hi2)), (p3, .inl (cI, 24, .inl ln2)), (p4, .inl (cZ, 24, .inl op2)), (p5, .inl (cI, 1536, .inl wd2))] H := hP
    have hD : va_D A [(q0, .inr (1, [.ref q1, .ref q2, .ref q3, .ref q4, .ref q5])), (q1, .inl (cI, 24, .inl (upd (zs_cp nm2 nm i1) i1 (nm2 i1)))), (q2, .inl (cI, 24, .inl (upd (zs_cp hi2 hi i1) i1 (hi2 i1)))), (q3, .inl (cI, 24, .inl (upd (zs_cp ln2 ln i1) i1 (ln2 i1)))), (q4, .inl (cZ, 24, .inl (zs_cz op2 op i1))), (q5, .inl (cI, 1536, .inl wd)), (p0, .inr (1, [.ref p1, .ref p2, .ref p3, .ref p4, .ref p5])), (p1, .inl (cI, 24, .inl nm2)), (p2, .inl (cI, 24, .inl hi2)), (p3, .inl (cI, 24, .inl ln2)), (p4, .inl (cZ, 24, .inl op2)), (p5, .inl (cI, 1536, .inl wd2))] := hD
    refine lv_aload_n hx hb zd_C_copyFrom_44 rfl (lv_at hl 1 rfl) ?_
    refine va_get (D := (dC, dI)) (ci := 1) (v := .ref q4) (C := "ZoneShelf$Contents") (T := zs_T_C) (N := 5) hx hb hz zs_in_C hown hk.1 hP 0 rfl rfl 3 (by decide) (hz _ zq_43) (fun _ h9 => h9) rfl zd_C_copyFrom_45 ?_
    refine lv_iload_n hx hb zd_C_copyFrom_48 rfl (lv_at hl 0 rfl) ?_
    refine lv_aload_n hx hb zd_C_copyFrom_49 rfl (lv_at hl 2 rfl) ?_
    refine va_get (D := (dC, dI)) (ci := 1) (v := .ref p4) (C := "ZoneShelf$Contents") (T := zs_T_C) (N := 5) hx hb hz zs_in_C hown hk.1 hP 6 rfl rfl 3 (by decide) (hz _ zq_43) (fun _ h9 => h9) rfl zd_C_copyFrom_50 ?_
    refine lv_iload_n hx hb zd_C_copyFrom_53 rfl (lv_at hl 0 rfl) ?_
    refine zi_zld hx hb hk hP 10 (j := i1) rfl (by omega) (by decide) zd_C_copyFrom_54 ?_
    refine zi_zst hx hb hk hP hD hS 4 (j := i1) rfl (by omega) (by decide) zd_C_copyFrom_55 (fun H locs hP hD hS => ?_)
    have hP : va_P (dC, dI) zs_cl [(q0, .inr (1, [.ref q1, .ref q2, .ref q3, .ref q4, .ref q5])), (q1, .inl (cI, 24, .inl (upd (zs_cp nm2 nm i1) i1 (nm2 i1)))), (q2, .inl (cI, 24, .inl (upd (zs_cp hi2 hi i1) i1 (hi2 i1)))), (q3, .inl (cI, 24, .inl (upd (zs_cp ln2 ln i1) i1 (ln2 i1)))), (q4, .inl (cZ, 24, .inl (upd (zs_cz op2 op i1) i1 (vp_nar .boolean (op2 i1))))), (q5, .inl (cI, 1536, .inl wd)), (p0, .inr (1, [.ref p1, .ref p2, .ref p3, .ref p4, .ref p5])), (p1, .inl (cI, 24, .inl nm2)), (p2, .inl (cI, 24, .inl hi2)), (p3, .inl (cI, 24, .inl ln2)), (p4, .inl (cZ, 24, .inl op2)), (p5, .inl (cI, 1536, .inl wd2))] H := hP
    have hD : va_D A [(q0, .inr (1, [.ref q1, .ref q2, .ref q3, .ref q4, .ref q5])), (q1, .inl (cI, 24, .inl (upd (zs_cp nm2 nm i1) i1 (nm2 i1)))), (q2, .inl (cI, 24, .inl (upd (zs_cp hi2 hi i1) i1 (hi2 i1)))), (q3, .inl (cI, 24, .inl (upd (zs_cp ln2 ln i1) i1 (ln2 i1)))), (q4, .inl (cZ, 24, .inl (upd (zs_cz op2 op i1) i1 (vp_nar .boolean (op2 i1))))), (q5, .inl (cI, 1536, .inl wd)), (p0, .inr (1, [.ref p1, .ref p2, .ref p3, .ref p4, .ref p5])), (p1, .inl (cI, 24, .inl nm2)), (p2, .inl (cI, 24, .inl hi2)), (p3, .inl (cI, 24, .inl ln2)), (p4, .inl (cZ, 24, .inl op2)), (p5, .inl (cI, 1536, .inl wd2))] := hD
    refine lv_iinc (k := 0) (v := nI (i1 + 1)) (lv' := [(2, .int (nI (i1 + 1))), (0, .ref q0), (1, .ref p0)]) hx hb zd_C_copyFrom_56 hl rfl (zs_inc _) (by decide) rfl (fun ls hl => ?_)
    refine lv_goto (tgt := 2) hx hb zd_C_copyFrom_59 rfl ?_
    rw [zs_cp_s nm2 nm i1, zs_cp_s hi2 hi i1, zs_cp_s ln2 ln i1, zs_cz_s op2 op i1] at hP hD
    exact ih1 () ls H locs ⟨lv_sub hl [0, 1, 2] rfl, hP, hD, hS⟩
  · obtain ⟨hl, hP, hD, hS⟩ := hv
    have hl : lv_has ls 3 [(2, .int (nI 24)), (0, .ref q0), (1, .ref p0)] := hl
    have hP : va_P (dC, dI) zs_cl [(q0, .inr (1, [.ref q1, .ref q2, .ref q3, .ref q4, .ref q5])), (q1, .inl (cI, 24, .inl (zs_cp nm2 nm 24))), (q2, .inl (cI, 24, .inl (zs_cp hi2 hi 24))), (q3, .inl (cI, 24, .inl (zs_cp ln2 ln 24))), (q4, .inl (cZ, 24, .inl (zs_cz op2 op 24))), (q5, .inl (cI, 1536, .inl wd)), (p0, .inr (1, [.ref p1, .ref p2, .ref p3, .ref p4, .ref p5])), (p1, .inl (cI, 24, .inl nm2)), (p2, .inl (cI, 24, .inl hi2)), (p3, .inl (cI, 24, .inl ln2)), (p4, .inl (cZ, 24, .inl op2)), (p5, .inl (cI, 1536, .inl wd2))] H := hP
    have hD : va_D A [(q0, .inr (1, [.ref q1, .ref q2, .ref q3, .ref q4, .ref q5])), (q1, .inl (cI, 24, .inl (zs_cp nm2 nm 24))), (q2, .inl (cI, 24, .inl (zs_cp hi2 hi 24))), (q3, .inl (cI, 24, .inl (zs_cp ln2 ln 24))), (q4, .inl (cZ, 24, .inl (zs_cz op2 op 24))), (q5, .inl (cI, 1536, .inl wd)), (p0, .inr (1, [.ref p1, .ref p2, .ref p3, .ref p4, .ref p5])), (p1, .inl (cI, 24, .inl nm2)), (p2, .inl (cI, 24, .inl hi2)), (p3, .inl (cI, 24, .inl ln2)), (p4, .inl (cZ, 24, .inl op2)), (p5, .inl (cI, 1536, .inl wd2))] := hD
    refine lv_iload_n hx hb zd_C_copyFrom_2 rfl (lv_at hl 0 rfl) ?_
    refine lv_bipush (v := 24) hx hb zd_C_copyFrom_3 (by decide) ?_
    refine zj_out (tgt := 62) (n := 24) (i := 24) hx hb zd_C_copyFrom_5 rfl (by decide) (Nat.le_refl _) (by decide) ?_
    refine lv_aload_n hx hb zd_C_copyFrom_62 rfl (lv_at hl 2 rfl) ?_
    refine va_get (D := (dC, dI)) (ci := 1) (v := .ref p5) (C := "ZoneShelf$Contents") (T := zs_T_C) (N := 5) hx hb hz zs_in_C hown hk.1 hP 6 rfl rfl 4 (by decide) (hz _ zq_44) (fun _ h9 => h9) rfl zd_C_copyFrom_63 ?_
    refine lv_iconst (v := 0) hx hb zd_C_copyFrom_66 (by decide) ?_
    refine lv_aload_n hx hb zd_C_copyFrom_67 rfl (lv_at hl 1 rfl) ?_
    refine va_get (D := (dC, dI)) (ci := 1) (v := .ref q5) (C := "ZoneShelf$Contents") (T := zs_T_C) (N := 5) hx hb hz zs_in_C hown hk.1 hP 0 rfl rfl 4 (by decide) (hz _ zq_44) (fun _ h9 => h9) rfl zd_C_copyFrom_68 ?_
    refine lv_iconst (v := 0) hx hb zd_C_copyFrom_71 (by decide) ?_
    refine lv_aload_n hx hb zd_C_copyFrom_72 rfl (lv_at hl 1 rfl) ?_
    refine va_get (D := (dC, dI)) (ci := 1) (v := .ref q5) (C := "ZoneShelf$Contents") (T := zs_T_C) (N := 5) hx hb hz zs_in_C hown hk.1 hP 0 rfl rfl 4 (by decide) (hz _ zq_44) (fun _ h9 => h9) rfl zd_C_copyFrom_73 ?_
    refine va_alen hx hb hk.1 hP 5 0 rfl rfl (v := nI 1536) rfl zd_C_copyFrom_76 ?_
    refine va_copyi (sp := 0) (dp := 0) (n := nI 1536) hx hb (hml.trans hl.1.symm) hown (hz _ zq_122) (hz _ zq_124) (hz _ zq_123) (hz _ zq_23) hk.1 hP hD hS 11 5 0 0 rfl rfl rfl rfl rfl (by decide) (by decide) (by decide) (by decide) (by decide) (fun _ _ => rfl) (Nat.le_of_ble_eq_true rfl) (Nat.le_of_ble_eq_true rfl) zd_C_copyFrom_77 (fun H locs hP hD hS => ?_)
    have hP : va_P (dC, dI) zs_cl [(q0, .inr (1, [.ref q1, .ref q2, .ref q3, .ref q4, .ref q5])), (q1, .inl (cI, 24, .inl (zs_cp nm2 nm 24))), (q2, .inl (cI, 24, .inl (zs_cp hi2 hi 24))), (q3, .inl (cI, 24, .inl (zs_cp ln2 ln 24))), (q4, .inl (cZ, 24, .inl (zs_cz op2 op 24))), (q5, .inl (cI, 1536, .inl (va_cpy wd2 wd 0 0 1536))), (p0, .inr (1, [.ref p1, .ref p2, .ref p3, .ref p4, .ref p5])), (p1, .inl (cI, 24, .inl nm2)), (p2, .inl (cI, 24, .inl hi2)), (p3, .inl (cI, 24, .inl ln2)), (p4, .inl (cZ, 24, .inl op2)), (p5, .inl (cI, 1536, .inl wd2))] H := hP
    have hD : va_D A [(q0, .inr (1, [.ref q1, .ref q2, .ref q3, .ref q4, .ref q5])), (q1, .inl (cI, 24, .inl (zs_cp nm2 nm 24))), (q2, .inl (cI, 24, .inl (zs_cp hi2 hi 24))), (q3, .inl (cI, 24, .inl (zs_cp ln2 ln 24))), (q4, .inl (cZ, 24, .inl (zs_cz op2 op 24))), (q5, .inl (cI, 1536, .inl (va_cpy wd2 wd 0 0 1536))), (p0, .inr (1, [.ref p1, .ref p2, .ref p3, .ref p4, .ref p5])), (p1, .inl (cI, 24, .inl nm2)), (p2, .inl (cI, 24, .inl hi2)), (p3, .inl (cI, 24, .inl ln2)), (p4, .inl (cZ, 24, .inl op2)), (p5, .inl (cI, 1536, .inl wd2))] := hD
    exact zw_vret (zs_copy (nm2, hi2, ln2, op2, wd2) (nm, hi, ln, op, wd)) hx hb hr hlocks zd_C_copyFrom_80 rfl hP hD hS
end
section
set_option maxHeartbeats 4000000 in
set_option maxRecDepth 100000 in
theorem zc_X_isName (l : Launch) (dC : Nat → ClassId) (dI : Nat → Nat → Nat) (cI cZ : ClassId) (n : Int32) : Met l zy_X_isName (.code zy_X_isName zb_X_isName 1 (some .boolean) :: zs_w) ({ frames := 0, cells := 0, slots := 0, locals := 0 }) (va_Pc [.int n] (fun _ => True)) (vp_Si (fun r => r = zs_b (zs_nam n))) 0 0 (fun _ => False) := by
  refine Met.ofW (cc := zb_X_isName) (maxL := 1) (ret := (some .boolean)) (by decide) rfl ?_
  intro p e s m args below meth c s₁ B hml hv
  obtain ⟨rfl, -⟩ := hv
  have hx := B.exec
  have hb := B.bytes
  have hr := B.returns
  have hts := atoms_spec (ws := .code zy_X_isName zb_X_isName 1 (some .boolean) :: zs_w) B.pre
  have hz : ∀ w ∈ zs_w, w.before _ s = true := fun w h => hts w (List.mem_cons_of_mem _ h)
  have hown : s.vm.findClass "ZoneShelf" = some m.cls := findClass_of_methodNamed B.named
  have hlocks := B.notSynchronized
  have hl := lv_entry ([.int n]) (n := 1) (Nat.le_of_ble_eq_true rfl)
  rw [lg_entry_eq]
  generalize (lg_sl ([.int n]) ++ List.replicate (1 - (lg_sl ([.int n])).length) Slot.unset).toArray = ls at hl ⊢
  have hl : lv_has ls 1 [(0, .int n)] := hl
  refine lv_iload_n hx hb zd_X_isName_0 rfl (lv_at hl 0 rfl) ?_
  refine lv_if_lt (tgt := 15) hx hb zd_X_isName_1 rfl (fun h1 => ?_) (fun h1 => ?_)
  · refine lv_iconst (v := 0) hx hb zd_X_isName_15 (by decide) ?_
    exact zr_zret hx hb hr hlocks zd_X_isName_16 rfl (show 0 = zs_b (zs_nam n) from by simp [zs_nam, zs_b, h1])
  · refine lv_iload_n hx hb zd_X_isName_4 rfl (lv_at hl 0 rfl) ?_
    refine lv_sipush (v := 9999) hx hb zd_X_isName_5 (by decide) ?_
    refine lv_icmp_gt (tgt := 15) hx hb zd_X_isName_8 rfl (fun h2 => ?_) (fun h2 => ?_)
    · refine lv_iconst (v := 0) hx hb zd_X_isName_15 (by decide) ?_
      exact zr_zret hx hb hr hlocks zd_X_isName_16 rfl (show 0 = zs_b (zs_nam n) from by simp [zs_nam, zs_b, h1, h2])
    · refine lv_iconst (v := 1) hx hb zd_X_isName_11 (by decide) ?_
      refine lv_goto (tgt := 16) hx hb zd_X_isName_12 rfl ?_
      exact zr_zret hx hb hr hlocks zd_X_isName_16 rfl (show 1 = zs_b (zs_nam n) from by simp [zs_nam, zs_b, h1, h2])
set_option maxHeartbeats 4000000 in
set_option maxRecDepth 100000 in
theorem zc_X_isHint (l : Launch) (dC : Nat → ClassId) (dI : Nat → Nat → Nat) (cI cZ : ClassId) (n : Int32) : Met l zy_X_isHint (.code zy_X_isHint zb_X_isHint 1 (some .boolean) :: zs_w) ({ frames := 0, cells := 0, slots := 0, locals := 0 }) (va_Pc [.int n] (fun _ => True)) (vp_Si (fun r => r = zs_b (zs_hin n))) 0 0 (fun _ => False) := by
  refine Met.ofW (cc := zb_X_isHint) (maxL := 1) (ret := (some .boolean)) (by decide) rfl ?_
  intro p e s m args below meth c s₁ B hml hv
  obtain ⟨rfl, -⟩ := hv
  have hx := B.exec
  have hb := B.bytes
  have hr := B.returns
  have hts := atoms_spec (ws := .code zy_X_isHint zb_X_isHint 1 (some .boolean) :: zs_w) B.pre
  have hz : ∀ w ∈ zs_w, w.before _ s = true := fun w h => hts w (List.mem_cons_of_mem _ h)
  have hown : s.vm.findClass "ZoneShelf" = some m.cls := findClass_of_methodNamed B.named
  have hlocks := B.notSynchronized
  have hl := lv_entry ([.int n]) (n := 1) (Nat.le_of_ble_eq_true rfl)
  rw [lg_entry_eq]
  generalize (lg_sl ([.int n]) ++ List.replicate (1 - (lg_sl ([.int n])).length) Slot.unset).toArray = ls at hl ⊢
  have hl : lv_has ls 1 [(0, .int n)] := hl
  refine lv_iload_n hx hb zd_X_isHint_0 rfl (lv_at hl 0 rfl) ?_
  refine lv_if_lt (tgt := 13) hx hb zd_X_isHint_1 rfl (fun h1 => ?_) (fun h1 => ?_)
  · refine lv_iconst (v := 0) hx hb zd_X_isHint_13 (by decide) ?_
    exact zr_zret hx hb hr hlocks zd_X_isHint_14 rfl (show 0 = zs_b (zs_hin n) from by simp [zs_hin, zs_b, h1])
  · refine lv_iload_n hx hb zd_X_isHint_4 rfl (lv_at hl 0 rfl) ?_
    refine lv_iconst (v := 3) hx hb zd_X_isHint_5 (by decide) ?_
    refine lv_icmp_gt (tgt := 13) hx hb zd_X_isHint_6 rfl (fun h2 => ?_) (fun h2 => ?_)
    · refine lv_iconst (v := 0) hx hb zd_X_isHint_13 (by decide) ?_
      exact zr_zret hx hb hr hlocks zd_X_isHint_14 rfl (show 0 = zs_b (zs_hin n) from by simp [zs_hin, zs_b, h1, h2])
    · refine lv_iconst (v := 1) hx hb zd_X_isHint_9 (by decide) ?_
      refine lv_goto (tgt := 14) hx hb zd_X_isHint_10 rfl ?_
      exact zr_zret hx hb hr hlocks zd_X_isHint_14 rfl (show 1 = zs_b (zs_hin n) from by simp [zs_hin, zs_b, h1, h2])
set_option maxHeartbeats 4000000 in
set_option maxRecDepth 100000 in
theorem zc_X_isThere (l : Launch) (dC : Nat → ClassId) (dI : Nat → Nat → Nat) (cI cZ : ClassId) (a : Nat → Nat) (u : zs_X) (n : Int32) : Met l zy_X_isThere (.code zy_X_isThere zb_X_isThere 2 (some .boolean) :: zs_w) ({ frames := 1, cells := 0, slots := 0, locals := 21 }) (va_Pc [.ref (a 0), .int n] (zs_r dC dI cI cZ (zs_wX cI cZ a u))) (vp_Si (fun r => r = zs_b (zs_is u.1 u.2.1.1 n))) 0 0 (fun _ => False) := by
  obtain ⟨up, ⟨nm, hi, ln, op, wd⟩, ⟨nm2, hi2, ln2, op2, wd2⟩⟩ := u
  refine Met.ofW (cc := zb_X_isThere) (maxL := 2) (ret := (some .boolean)) (by decide) rfl ?_
  intro p e s m args below meth c s₁ B hml hv
  obtain ⟨rfl, hP, hk⟩ := hv
  have hx := B.exec
  have hb := B.bytes
  have hr := B.returns
  have hts := atoms_spec (ws := .code zy_X_isThere zb_X_isThere 2 (some .boolean) :: zs_w) B.pre
  have hz : ∀ w ∈ zs_w, w.before _ s = true := fun w h => hts w (List.mem_cons_of_mem _ h)
  have hown : s.vm.findClass "ZoneShelf" = some m.cls := findClass_of_methodNamed B.named
  have hlocks := B.notSynchronized
  have hP : va_P (dC, dI) zs_cl [(a 0, .inr (0, [.ref (a 1), .ref (a 7), .int (zs_b up)])), (a 1, .inr (1, [.ref (a 2), .ref (a 3), .ref (a 4), .ref (a 5), .ref (a 6)])), (a 2, .inl (cI, 24, .inl nm)), (a 3, .inl (cI, 24, .inl hi)), (a 4, .inl (cI, 24, .inl ln)), (a 5, .inl (cZ, 24, .inl op)), (a 6, .inl (cI, 1536, .inl wd)), (a 7, .inr (1, [.ref (a 8), .ref (a 9), .ref (a 10), .ref (a 11), .ref (a 12)])), (a 8, .inl (cI, 24, .inl nm2)), (a 9, .inl (cI, 24, .inl hi2)), (a 10, .inl (cI, 24, .inl ln2)), (a 11, .inl (cZ, 24, .inl op2)), (a 12, .inl (cI, 1536, .inl wd2))] s.heap := hP
  have hl := lv_entry ([.ref (a 0), .int n]) (n := 2) (Nat.le_of_ble_eq_true rfl)
  rw [lg_entry_eq]
  generalize (lg_sl ([.ref (a 0), .int n]) ++ List.replicate (2 - (lg_sl ([.ref (a 0), .int n])).length) Slot.unset).toArray = ls at hl ⊢
  have hl : lv_has ls 2 [(0, .ref (a 0)), (1, .int n)] := hl
  refine lv_aload_n hx hb zd_X_isThere_0 rfl (lv_at hl 0 rfl) ?_
  refine va_get (D := (dC, dI)) (ci := 0) (v := .int (zs_b up)) (C := "ZoneShelf") (T := zs_T_X) (N := 3) hx hb hz zs_in_X hown hk.1 hP 0 rfl rfl 2 (by decide) (hz _ zq_54) (fun _ h9 => h9) rfl zd_X_isThere_1 ?_
  refine zi_eq (tgt := 32) hx hb zd_X_isThere_4 rfl (fun h1 => ?_) (fun h1 => ?_)
  · subst h1
    refine lv_iconst (v := 0) hx hb zd_X_isThere_32 (by decide) ?_
    exact zr_zret hx hb hr hlocks zd_X_isThere_33 rfl (show 0 = zs_b (zs_is false nm n) from by simp [zs_is, zs_b])
  · subst h1
    refine lv_iload_n hx hb zd_X_isThere_7 rfl (lv_at hl 1 rfl) ?_
    refine lv_if_lt (tgt := 32) hx hb zd_X_isThere_8 rfl (fun h2 => ?_) (fun h2 => ?_)
    · refine lv_iconst (v := 0) hx hb zd_X_isThere_32 (by decide) ?_
      exact zr_zret hx hb hr hlocks zd_X_isThere_33 rfl (show 0 = zs_b (zs_is true nm n) from by simp [zs_is, zs_b, h2])
    · refine lv_iload_n hx hb zd_X_isThere_11 rfl (lv_at hl 1 rfl) ?_
      refine lv_bipush (v := 24) hx hb zd_X_isThere_12 (by decide) ?_
      refine lv_icmp_ge (tgt := 32) hx hb zd_X_isThere_14 rfl (fun h3 => ?_) (fun h3 => ?_)
      · refine lv_iconst (v := 0) hx hb zd_X_isThere_32 (by decide) ?_
        exact zr_zret hx hb hr hlocks zd_X_isThere_33 rfl (show 0 = zs_b (zs_is true nm n) from by simp [zs_is, zs_b, h2, h3])
      · obtain ⟨j, hj, rfl⟩ := zs_ix h2 h3
        refine lv_aload_n hx hb zd_X_isThere_17 rfl (lv_at hl 0 rfl) ?_
        refine va_get (D := (dC, dI)) (ci := 0) (v := .ref (a 1)) (C := "ZoneShelf") (T := zs_T_X) (N := 3) hx hb hz zs_in_X hown hk.1 hP 0 rfl rfl 0 (by decide) (hz _ zq_52) (fun _ h9 => h9) rfl zd_X_isThere_18 ?_
        refine lv_iload_n hx hb zd_X_isThere_21 rfl (lv_at hl 1 rfl) ?_
        refine zc_rN (rest := []) [.int (nI j)] hx hb hml hown hz (zc_C_isTaken l dC dI cI cZ (a 1) (a 2) (a 3) (a 4) (a 5) (a 6) (nm, hi, ln, op, wd) j hj) zf_C_isTaken rfl rfl zv_9 zq_76 zq_3 ⟨Nat.le_of_ble_eq_true rfl, Nat.le_of_ble_eq_true rfl⟩ hk (hP.sub [1, 2, 3, 4, 5, 6] rfl) 0 1 rfl rfl rfl rfl hl.1 rfl (Nat.le_of_ble_eq_true rfl) zd_X_isThere_22 ⟨Nat.zero_le _, Nat.zero_le _⟩ (fun r4 e5 => ?_)
        obtain rfl : r4 = zs_b (zs_t nm j) := e5
        refine zi_eq (tgt := 32) hx hb zd_X_isThere_25 rfl (fun h6 => ?_) (fun h6 => ?_)
        · refine lv_iconst (v := 0) hx hb zd_X_isThere_32 (by decide) ?_
          exact zr_zret hx hb hr hlocks zd_X_isThere_33 rfl (show 0 = zs_b (zs_is true nm (nI j)) from by simp [zs_is, zs_b, h2, h3, nI_clamp (show j < 2 ^ 31 by omega), h6])
        · refine lv_iconst (v := 1) hx hb zd_X_isThere_28 (by decide) ?_
          refine lv_goto (tgt := 33) hx hb zd_X_isThere_29 rfl ?_
          exact zr_zret hx hb hr hlocks zd_X_isThere_33 rfl (show 1 = zs_b (zs_is true nm (nI j)) from by simp [zs_is, zs_b, h2, h3, nI_clamp (show j < 2 ^ 31 by omega), h6])
set_option maxHeartbeats 4000000 in
set_option maxRecDepth 100000 in
theorem zc_X_isFreeName (l : Launch) (dC : Nat → ClassId) (dI : Nat → Nat → Nat) (cI cZ : ClassId) (a : Nat → Nat) (u : zs_X) (n : Int32) : Met l zy_X_isFreeName (.code zy_X_isFreeName zb_X_isFreeName 2 (some .boolean) :: zs_w) ({ frames := 1, cells := 0, slots := 0, locals := 22 }) (va_Pc [.ref (a 0), .int n] (zs_r dC dI cI cZ (zs_wX cI cZ a u))) (vp_Si (fun r => r = zs_b (zs_fr u.2.1.1 n))) 0 0 (fun _ => False) := by
  obtain ⟨up, ⟨nm, hi, ln, op, wd⟩, ⟨nm2, hi2, ln2, op2, wd2⟩⟩ := u
  refine Met.ofW (cc := zb_X_isFreeName) (maxL := 2) (ret := (some .boolean)) (by decide) rfl ?_
  intro p e s m args below meth c s₁ B hml hv
  obtain ⟨rfl, hP, hk⟩ := hv
  have hx := B.exec
  have hb := B.bytes
  have hr := B.returns
  have hts := atoms_spec (ws := .code zy_X_isFreeName zb_X_isFreeName 2 (some .boolean) :: zs_w) B.pre
  have hz : ∀ w ∈ zs_w, w.before _ s = true := fun w h => hts w (List.mem_cons_of_mem _ h)
  have hown : s.vm.findClass "ZoneShelf" = some m.cls := findClass_of_methodNamed B.named
  have hlocks := B.notSynchronized
  have hP : va_P (dC, dI) zs_cl [(a 0, .inr (0, [.ref (a 1), .ref (a 7), .int (zs_b up)])), (a 1, .inr (1, [.ref (a 2), .ref (a 3), .ref (a 4), .ref (a 5), .ref (a 6)])), (a 2, .inl (cI, 24, .inl nm)), (a 3, .inl (cI, 24, .inl hi)), (a 4, .inl (cI, 24, .inl ln)), (a 5, .inl (cZ, 24, .inl op)), (a 6, .inl (cI, 1536, .inl wd)), (a 7, .inr (1, [.ref (a 8), .ref (a 9), .ref (a 10), .ref (a 11), .ref (a 12)])), (a 8, .inl (cI, 24, .inl nm2)), (a 9, .inl (cI, 24, .inl hi2)), (a 10, .inl (cI, 24, .inl ln2)), (a 11, .inl (cZ, 24, .inl op2)), (a 12, .inl (cI, 1536, .inl wd2))] s.heap := hP
  have hl := lv_entry ([.ref (a 0), .int n]) (n := 2) (Nat.le_of_ble_eq_true rfl)
  rw [lg_entry_eq]
  generalize (lg_sl ([.ref (a 0), .int n]) ++ List.replicate (2 - (lg_sl ([.ref (a 0), .int n])).length) Slot.unset).toArray = ls at hl ⊢
  have hl : lv_has ls 2 [(0, .ref (a 0)), (1, .int n)] := hl
  refine lv_iload_n hx hb zd_X_isFreeName_0 rfl (lv_at hl 1 rfl) ?_
  refine zc_rS (rest := []) [.int n] hx hb hml hown hz (zc_X_isName l dC dI cI cZ n) zf_X_isName rfl rfl zq_65 zq_66 ⟨Nat.le_of_ble_eq_true rfl, Nat.le_of_ble_eq_true rfl⟩ rfl hl.1 rfl (Nat.le_of_ble_eq_true rfl) zd_X_isFreeName_1 ⟨Nat.zero_le _, Nat.zero_le _⟩ (fun r1 e2 => ?_)
  obtain rfl : r1 = zs_b (zs_nam n) := e2
  refine zi_eq (tgt := 23) hx hb zd_X_isFreeName_4 rfl (fun h3 => ?_) (fun h3 => ?_)
  · refine lv_iconst (v := 0) hx hb zd_X_isFreeName_23 (by decide) ?_
    exact zr_zret hx hb hr hlocks zd_X_isFreeName_24 rfl (show 0 = zs_b (zs_fr nm n) from by simp [zs_fr, zs_b, h3])
  · refine lv_aload_n hx hb zd_X_isFreeName_7 rfl (lv_at hl 0 rfl) ?_
    refine va_get (D := (dC, dI)) (ci := 0) (v := .ref (a 1)) (C := "ZoneShelf") (T := zs_T_X) (N := 3) hx hb hz zs_in_X hown hk.1 hP 0 rfl rfl 0 (by decide) (hz _ zq_52) (fun _ h9 => h9) rfl zd_X_isFreeName_8 ?_
    refine lv_iload_n hx hb zd_X_isFreeName_11 rfl (lv_at hl 1 rfl) ?_
    refine zc_rN (rest := []) [.int n] hx hb hml hown hz (zc_C_numberOf l dC dI cI cZ (a 1) (a 2) (a 3) (a 4) (a 5) (a 6) (nm, hi, ln, op, wd) n) zf_C_numberOf rfl rfl zv_6 zq_68 zq_1 ⟨Nat.le_of_ble_eq_true rfl, Nat.le_of_ble_eq_true rfl⟩ hk (hP.sub [1, 2, 3, 4, 5, 6] rfl) 0 1 rfl rfl rfl rfl hl.1 rfl (Nat.le_of_ble_eq_true rfl) zd_X_isFreeName_12 ⟨Nat.zero_le _, Nat.zero_le _⟩ (fun r4 e5 => ?_)
    obtain rfl : r4 = zs_num nm n 24 0 := e5
    refine lv_iconst (v := (-1)) hx hb zd_X_isFreeName_15 (by decide) ?_
    refine lv_icmp_ne (tgt := 23) hx hb zd_X_isFreeName_16 rfl (fun h6 => ?_) (fun h6 => ?_)
    · refine lv_iconst (v := 0) hx hb zd_X_isFreeName_23 (by decide) ?_
      exact zr_zret hx hb hr hlocks zd_X_isFreeName_24 rfl (show 0 = zs_b (zs_fr nm n) from by simp [zs_fr, zs_b, h3, h6])
    · refine lv_iconst (v := 1) hx hb zd_X_isFreeName_19 (by decide) ?_
      refine lv_goto (tgt := 24) hx hb zd_X_isFreeName_20 rfl ?_
      exact zr_zret hx hb hr hlocks zd_X_isFreeName_24 rfl (show 1 = zs_b (zs_fr nm n) from by simp [zs_fr, zs_b, h3, h6])
set_option maxHeartbeats 4000000 in
set_option maxRecDepth 100000 in
theorem zc_X_roomIn (l : Launch) (dC : Nat → ClassId) (dI : Nat → Nat → Nat) (cI cZ : ClassId) (a : Nat → Nat) (u : zs_X) (j : Nat) (hj : j < 24) : Met l zy_X_roomIn (.code zy_X_roomIn zb_X_roomIn 2 (some .int) :: zs_w) ({ frames := 1, cells := 0, slots := 0, locals := 22 }) (va_Pc [.ref (a 0), .int (nI j)] (zs_r dC dI cI cZ (zs_wX cI cZ a u))) (vp_Si (fun r => r = zs_rm u.2.1.2.2.1 j)) 0 0 (fun _ => False) := by
  obtain ⟨up, ⟨nm, hi, ln, op, wd⟩, ⟨nm2, hi2, ln2, op2, wd2⟩⟩ := u
  refine Met.ofW (cc := zb_X_roomIn) (maxL := 2) (ret := (some .int)) (by decide) rfl ?_
  intro p e s m args below meth c s₁ B hml hv
  obtain ⟨rfl, hP, hk⟩ := hv
  have hx := B.exec
  have hb := B.bytes
  have hr := B.returns
  have hts := atoms_spec (ws := .code zy_X_roomIn zb_X_roomIn 2 (some .int) :: zs_w) B.pre
  have hz : ∀ w ∈ zs_w, w.before _ s = true := fun w h => hts w (List.mem_cons_of_mem _ h)
  have hown : s.vm.findClass "ZoneShelf" = some m.cls := findClass_of_methodNamed B.named
  have hlocks := B.notSynchronized
  have hP : va_P (dC, dI) zs_cl [(a 0, .inr (0, [.ref (a 1), .ref (a 7), .int (zs_b up)])), (a 1, .inr (1, [.ref (a 2), .ref (a 3), .ref (a 4), .ref (a 5), .ref (a 6)])), (a 2, .inl (cI, 24, .inl nm)), (a 3, .inl (cI, 24, .inl hi)), (a 4, .inl (cI, 24, .inl ln)), (a 5, .inl (cZ, 24, .inl op)), (a 6, .inl (cI, 1536, .inl wd)), (a 7, .inr (1, [.ref (a 8), .ref (a 9), .ref (a 10), .ref (a 11), .ref (a 12)])), (a 8, .inl (cI, 24, .inl nm2)), (a 9, .inl (cI, 24, .inl hi2)), (a 10, .inl (cI, 24, .inl ln2)), (a 11, .inl (cZ, 24, .inl op2)), (a 12, .inl (cI, 1536, .inl wd2))] s.heap := hP
  have hl := lv_entry ([.ref (a 0), .int (nI j)]) (n := 2) (Nat.le_of_ble_eq_true rfl)
  rw [lg_entry_eq]
  generalize (lg_sl ([.ref (a 0), .int (nI j)]) ++ List.replicate (2 - (lg_sl ([.ref (a 0), .int (nI j)])).length) Slot.unset).toArray = ls at hl ⊢
  have hl : lv_has ls 2 [(0, .ref (a 0)), (1, .int (nI j))] := hl
  refine lv_bipush (v := 64) hx hb zd_X_roomIn_0 (by decide) ?_
  refine lv_aload_n hx hb zd_X_roomIn_2 rfl (lv_at hl 0 rfl) ?_
  refine va_get (D := (dC, dI)) (ci := 0) (v := .ref (a 1)) (C := "ZoneShelf") (T := zs_T_X) (N := 3) hx hb hz zs_in_X hown hk.1 hP 0 rfl rfl 0 (by decide) (hz _ zq_52) (fun _ h9 => h9) rfl zd_X_roomIn_3 ?_
  refine va_getN (D := (dC, dI)) (ci := 1) (v := .ref (a 4)) (C := "ZoneShelf$Contents") (T := zs_T_C) (N := 5) hx hb hz zs_in_C hown hk.1 hP 1 rfl rfl 2 (by decide) (va_Nw.use rfl (hk.2 _ zv_3)) (fun _ h9 => h9) rfl zd_X_roomIn_6 ?_
  refine lv_iload_n hx hb zd_X_roomIn_9 rfl (lv_at hl 1 rfl) ?_
  refine zi_ald hx hb hk hP 4 (j := j) rfl (by omega) (by decide) zd_X_roomIn_10 ?_
  refine lv_isub hx hb zd_X_roomIn_11 ?_
  refine lv_sipush (v := 200) hx hb zd_X_roomIn_12 (by decide) ?_
  refine lv_aload_n hx hb zd_X_roomIn_15 rfl (lv_at hl 0 rfl) ?_
  refine va_get (D := (dC, dI)) (ci := 0) (v := .ref (a 1)) (C := "ZoneShelf") (T := zs_T_X) (N := 3) hx hb hz zs_in_X hown hk.1 hP 0 rfl rfl 0 (by decide) (hz _ zq_52) (fun _ h9 => h9) rfl zd_X_roomIn_16 ?_
  refine zc_rN (rest := [.int 200, .int (64 - (ln j))]) [] hx hb hml hown hz (zc_C_countWords l dC dI cI cZ (a 1) (a 2) (a 3) (a 4) (a 5) (a 6) (nm, hi, ln, op, wd) ) zf_C_countWords rfl rfl zv_10 zq_94 zq_7 ⟨Nat.le_of_ble_eq_true rfl, Nat.le_of_ble_eq_true rfl⟩ hk (hP.sub [1, 2, 3, 4, 5, 6] rfl) 0 1 rfl rfl rfl rfl hl.1 rfl (Nat.le_of_ble_eq_true rfl) zd_X_roomIn_19 ⟨Nat.zero_le _, Nat.zero_le _⟩ (fun r1 e2 => ?_)
  obtain rfl : r1 = zs_sum ln 24 0 0 := e2
  refine lv_isub hx hb zd_X_roomIn_22 ?_
  refine va_mmin hx hb (hml.trans hl.1.symm) hown (hz _ zq_96) (hz _ zq_97) (hz _ zq_22) (hz _ zq_98) (Nat.le_of_ble_eq_true rfl) (Nat.le_of_ble_eq_true rfl) (Nat.zero_le _) (Nat.zero_le _) zd_X_roomIn_23 ?_
  exact zr_iret hx hb hr hlocks zd_X_roomIn_26 (show (if 200 - (zs_sum ln 24 0 0) < 64 - (ln j) then 200 - (zs_sum ln 24 0 0) else 64 - (ln j)) = zs_rm ln j from by rfl)
set_option maxHeartbeats 4000000 in
set_option maxRecDepth 100000 in
theorem zc_X_tidy (l : Launch) (dC : Nat → ClassId) (dI : Nat → Nat → Nat) (cI cZ : ClassId) (a : Nat → Nat) (u : zs_X)  : Met l zy_X_tidy (.code zy_X_tidy zb_X_tidy 1 (some .boolean) :: zs_w) ({ frames := 0, cells := 0, slots := 0, locals := 0 }) (va_Pc [.ref (a 0)] (zs_r dC dI cI cZ (zs_wX cI cZ a u))) (vp_Si (fun r => r = zs_b u.1)) 0 0 (fun _ => False) := by
  obtain ⟨up, ⟨nm, hi, ln, op, wd⟩, ⟨nm2, hi2, ln2, op2, wd2⟩⟩ := u
  refine Met.ofW (cc := zb_X_tidy) (maxL := 1) (ret := (some .boolean)) (by decide) rfl ?_
  intro p e s m args below meth c s₁ B hml hv
  obtain ⟨rfl, hP, hk⟩ := hv
  have hx := B.exec
  have hb := B.bytes
  have hr := B.returns
  have hts := atoms_spec (ws := .code zy_X_tidy zb_X_tidy 1 (some .boolean) :: zs_w) B.pre
  have hz : ∀ w ∈ zs_w, w.before _ s = true := fun w h => hts w (List.mem_cons_of_mem _ h)
  have hown : s.vm.findClass "ZoneShelf" = some m.cls := findClass_of_methodNamed B.named
  have hlocks := B.notSynchronized
  have hP : va_P (dC, dI) zs_cl [(a 0, .inr (0, [.ref (a 1), .ref (a 7), .int (zs_b up)])), (a 1, .inr (1, [.ref (a 2), .ref (a 3), .ref (a 4), .ref (a 5), .ref (a 6)])), (a 2, .inl (cI, 24, .inl nm)), (a 3, .inl (cI, 24, .inl hi)), (a 4, .inl (cI, 24, .inl ln)), (a 5, .inl (cZ, 24, .inl op)), (a 6, .inl (cI, 1536, .inl wd)), (a 7, .inr (1, [.ref (a 8), .ref (a 9), .ref (a 10), .ref (a 11), .ref (a 12)])), (a 8, .inl (cI, 24, .inl nm2)), (a 9, .inl (cI, 24, .inl hi2)), (a 10, .inl (cI, 24, .inl ln2)), (a 11, .inl (cZ, 24, .inl op2)), (a 12, .inl (cI, 1536, .inl wd2))] s.heap := hP
  have hl := lv_entry ([.ref (a 0)]) (n := 1) (Nat.le_of_ble_eq_true rfl)
  rw [lg_entry_eq]
  generalize (lg_sl ([.ref (a 0)]) ++ List.replicate (1 - (lg_sl ([.ref (a 0)])).length) Slot.unset).toArray = ls at hl ⊢
  have hl : lv_has ls 1 [(0, .ref (a 0))] := hl
  refine lv_aload_n hx hb zd_X_tidy_0 rfl (lv_at hl 0 rfl) ?_
  refine va_get (D := (dC, dI)) (ci := 0) (v := .int (zs_b up)) (C := "ZoneShelf") (T := zs_T_X) (N := 3) hx hb hz zs_in_X hown hk.1 hP 0 rfl rfl 2 (by decide) (hz _ zq_54) (fun _ h9 => h9) rfl zd_X_tidy_1 ?_
  exact zr_zret hx hb hr hlocks zd_X_tidy_4 (zs_b_n _) (show (zs_b up) = zs_b up from by rfl)
set_option maxHeartbeats 4000000 in
set_option maxRecDepth 100000 in
theorem zc_X_isUp (l : Launch) (dC : Nat → ClassId) (dI : Nat → Nat → Nat) (cI cZ : ClassId) (a : Nat → Nat) (u : zs_X)  : Met l zy_X_isUp (.code zy_X_isUp zb_X_isUp 1 (some .boolean) :: zs_w) ({ frames := 0, cells := 0, slots := 0, locals := 0 }) (va_Pc [.ref (a 0)] (zs_r dC dI cI cZ (zs_wX cI cZ a u))) (vp_Si (fun r => r = zs_b u.1)) 0 0 (fun _ => False) := by
  obtain ⟨up, ⟨nm, hi, ln, op, wd⟩, ⟨nm2, hi2, ln2, op2, wd2⟩⟩ := u
  refine Met.ofW (cc := zb_X_isUp) (maxL := 1) (ret := (some .boolean)) (by decide) rfl ?_
  intro p e s m args below meth c s₁ B hml hv
  obtain ⟨rfl, hP, hk⟩ := hv
  have hx := B.exec
  have hb := B.bytes
  have hr := B.returns
  have hts := atoms_spec (ws := .code zy_X_isUp zb_X_isUp 1 (some .boolean) :: zs_w) B.pre
  have hz : ∀ w ∈ zs_w, w.before _ s = true := fun w h => hts w (List.mem_cons_of_mem _ h)
  have hown : s.vm.findClass "ZoneShelf" = some m.cls := findClass_of_methodNamed B.named
  have hlocks := B.notSynchronized
  have hP : va_P (dC, dI) zs_cl [(a 0, .inr (0, [.ref (a 1), .ref (a 7), .int (zs_b up)])), (a 1, .inr (1, [.ref (a 2), .ref (a 3), .ref (a 4), .ref (a 5), .ref (a 6)])), (a 2, .inl (cI, 24, .inl nm)), (a 3, .inl (cI, 24, .inl hi)), (a 4, .inl (cI, 24, .inl ln)), (a 5, .inl (cZ, 24, .inl op)), (a 6, .inl (cI, 1536, .inl wd)), (a 7, .inr (1, [.ref (a 8), .ref (a 9), .ref (a 10), .ref (a 11), .ref (a 12)])), (a 8, .inl (cI, 24, .inl nm2)), (a 9, .inl (cI, 24, .inl hi2)), (a 10, .inl (cI, 24, .inl ln2)), (a 11, .inl (cZ, 24, .inl op2)), (a 12, .inl (cI, 1536, .inl wd2))] s.heap := hP
  have hl := lv_entry ([.ref (a 0)]) (n := 1) (Nat.le_of_ble_eq_true rfl)
  rw [lg_entry_eq]
  generalize (lg_sl ([.ref (a 0)]) ++ List.replicate (1 - (lg_sl ([.ref (a 0)])).length) Slot.unset).toArray = ls at hl ⊢
  have hl : lv_has ls 1 [(0, .ref (a 0))] := hl
  refine lv_aload_n hx hb zd_X_isUp_0 rfl (lv_at hl 0 rfl) ?_
  refine va_get (D := (dC, dI)) (ci := 0) (v := .int (zs_b up)) (C := "ZoneShelf") (T := zs_T_X) (N := 3) hx hb hz zs_in_X hown hk.1 hP 0 rfl rfl 2 (by decide) (hz _ zq_54) (fun _ h9 => h9) rfl zd_X_isUp_1 ?_
  exact zr_zret hx hb hr hlocks zd_X_isUp_4 (zs_b_n _) (show (zs_b up) = zs_b up from by rfl)
set_option maxHeartbeats 4000000 in
set_option maxRecDepth 100000 in
theorem zc_X_objects (l : Launch) (dC : Nat → ClassId) (dI : Nat → Nat → Nat) (cI cZ : ClassId) (a : Nat → Nat) (u : zs_X)  : Met l zy_X_objects (.code zy_X_objects zb_X_objects 1 (some .int) :: zs_w) ({ frames := 2, cells := 0, slots := 0, locals := 43 }) (va_Pc [.ref (a 0)] (zs_r dC dI cI cZ (zs_wX cI cZ a u))) (vp_Si (fun r => r = zs_objects u)) 0 0 (fun _ => False) := by
  obtain ⟨up, ⟨nm, hi, ln, op, wd⟩, ⟨nm2, hi2, ln2, op2, wd2⟩⟩ := u
  refine Met.ofW (cc := zb_X_objects) (maxL := 1) (ret := (some .int)) (by decide) rfl ?_
  intro p e s m args below meth c s₁ B hml hv
  obtain ⟨rfl, hP, hk⟩ := hv
  have hx := B.exec
  have hb := B.bytes
  have hr := B.returns
  have hts := atoms_spec (ws := .code zy_X_objects zb_X_objects 1 (some .int) :: zs_w) B.pre
  have hz : ∀ w ∈ zs_w, w.before _ s = true := fun w h => hts w (List.mem_cons_of_mem _ h)
  have hown : s.vm.findClass "ZoneShelf" = some m.cls := findClass_of_methodNamed B.named
  have hlocks := B.notSynchronized
  have hP : va_P (dC, dI) zs_cl [(a 0, .inr (0, [.ref (a 1), .ref (a 7), .int (zs_b up)])), (a 1, .inr (1, [.ref (a 2), .ref (a 3), .ref (a 4), .ref (a 5), .ref (a 6)])), (a 2, .inl (cI, 24, .inl nm)), (a 3, .inl (cI, 24, .inl hi)), (a 4, .inl (cI, 24, .inl ln)), (a 5, .inl (cZ, 24, .inl op)), (a 6, .inl (cI, 1536, .inl wd)), (a 7, .inr (1, [.ref (a 8), .ref (a 9), .ref (a 10), .ref (a 11), .ref (a 12)])), (a 8, .inl (cI, 24, .inl nm2)), (a 9, .inl (cI, 24, .inl hi2)), (a 10, .inl (cI, 24, .inl ln2)), (a 11, .inl (cZ, 24, .inl op2)), (a 12, .inl (cI, 1536, .inl wd2))] s.heap := hP
  have hl := lv_entry ([.ref (a 0)]) (n := 1) (Nat.le_of_ble_eq_true rfl)
  rw [lg_entry_eq]
  generalize (lg_sl ([.ref (a 0)]) ++ List.replicate (1 - (lg_sl ([.ref (a 0)])).length) Slot.unset).toArray = ls at hl ⊢
  have hl : lv_has ls 1 [(0, .ref (a 0))] := hl
  refine lv_aload_n hx hb zd_X_objects_0 rfl (lv_at hl 0 rfl) ?_
  refine va_get (D := (dC, dI)) (ci := 0) (v := .int (zs_b up)) (C := "ZoneShelf") (T := zs_T_X) (N := 3) hx hb hz zs_in_X hown hk.1 hP 0 rfl rfl 2 (by decide) (hz _ zq_54) (fun _ h9 => h9) rfl zd_X_objects_1 ?_
  refine zi_eq (tgt := 17) hx hb zd_X_objects_4 rfl (fun h1 => ?_) (fun h1 => ?_)
  · subst h1
    refine lv_iconst (v := 0) hx hb zd_X_objects_17 (by decide) ?_
    exact zr_iret hx hb hr hlocks zd_X_objects_18 (show 0 = zs_objects (false, (nm, hi, ln, op, wd), (nm2, hi2, ln2, op2, wd2)) from by simp [zs_objects])
  · subst h1
    refine lv_aload_n hx hb zd_X_objects_7 rfl (lv_at hl 0 rfl) ?_
    refine va_get (D := (dC, dI)) (ci := 0) (v := .ref (a 1)) (C := "ZoneShelf") (T := zs_T_X) (N := 3) hx hb hz zs_in_X hown hk.1 hP 0 rfl rfl 0 (by decide) (hz _ zq_52) (fun _ h9 => h9) rfl zd_X_objects_8 ?_
    refine zc_rN (rest := []) [] hx hb hml hown hz (zc_C_countObjects l dC dI cI cZ (a 1) (a 2) (a 3) (a 4) (a 5) (a 6) (nm, hi, ln, op, wd) ) zf_C_countObjects rfl rfl zv_14 zq_150 zq_11 ⟨Nat.le_of_ble_eq_true rfl, Nat.le_of_ble_eq_true rfl⟩ hk (hP.sub [1, 2, 3, 4, 5, 6] rfl) 0 1 rfl rfl rfl rfl hl.1 rfl (Nat.le_of_ble_eq_true rfl) zd_X_objects_11 ⟨Nat.zero_le _, Nat.zero_le _⟩ (fun r2 e3 => ?_)
    obtain rfl : r2 = zs_cnt nm 24 0 0 := e3
    refine lv_goto (tgt := 18) hx hb zd_X_objects_14 rfl ?_
    exact zr_iret hx hb hr hlocks zd_X_objects_18 (show (zs_cnt nm 24 0 0) = zs_objects (true, (nm, hi, ln, op, wd), (nm2, hi2, ln2, op2, wd2)) from by simp [zs_objects])
set_option maxHeartbeats 4000000 in
set_option maxRecDepth 100000 in
theorem zc_X_room (l : Launch) (dC : Nat → ClassId) (dI : Nat → Nat → Nat) (cI cZ : ClassId) (a : Nat → Nat) (u : zs_X)  : Met l zy_X_room (.code zy_X_room zb_X_room 1 (some .int) :: zs_w) ({ frames := 1, cells := 0, slots := 0, locals := 22 }) (va_Pc [.ref (a 0)] (zs_r dC dI cI cZ (zs_wX cI cZ a u))) (vp_Si (fun r => r = zs_room u)) 0 0 (fun _ => False) := by
  obtain ⟨up, ⟨nm, hi, ln, op, wd⟩, ⟨nm2, hi2, ln2, op2, wd2⟩⟩ := u
  refine Met.ofW (cc := zb_X_room) (maxL := 1) (ret := (some .int)) (by decide) rfl ?_
  intro p e s m args below meth c s₁ B hml hv
  obtain ⟨rfl, hP, hk⟩ := hv
  have hx := B.exec
  have hb := B.bytes
  have hr := B.returns
  have hts := atoms_spec (ws := .code zy_X_room zb_X_room 1 (some .int) :: zs_w) B.pre
  have hz : ∀ w ∈ zs_w, w.before _ s = true := fun w h => hts w (List.mem_cons_of_mem _ h)
  have hown : s.vm.findClass "ZoneShelf" = some m.cls := findClass_of_methodNamed B.named
  have hlocks := B.notSynchronized
  have hP : va_P (dC, dI) zs_cl [(a 0, .inr (0, [.ref (a 1), .ref (a 7), .int (zs_b up)])), (a 1, .inr (1, [.ref (a 2), .ref (a 3), .ref (a 4), .ref (a 5), .ref (a 6)])), (a 2, .inl (cI, 24, .inl nm)), (a 3, .inl (cI, 24, .inl hi)), (a 4, .inl (cI, 24, .inl ln)), (a 5, .inl (cZ, 24, .inl op)), (a 6, .inl (cI, 1536, .inl wd)), (a 7, .inr (1, [.ref (a 8), .ref (a 9), .ref (a 10), .ref (a 11), .ref (a 12)])), (a 8, .inl (cI, 24, .inl nm2)), (a 9, .inl (cI, 24, .inl hi2)), (a 10, .inl (cI, 24, .inl ln2)), (a 11, .inl (cZ, 24, .inl op2)), (a 12, .inl (cI, 1536, .inl wd2))] s.heap := hP
  have hl := lv_entry ([.ref (a 0)]) (n := 1) (Nat.le_of_ble_eq_true rfl)
  rw [lg_entry_eq]
  generalize (lg_sl ([.ref (a 0)]) ++ List.replicate (1 - (lg_sl ([.ref (a 0)])).length) Slot.unset).toArray = ls at hl ⊢
  have hl : lv_has ls 1 [(0, .ref (a 0))] := hl
  refine lv_aload_n hx hb zd_X_room_0 rfl (lv_at hl 0 rfl) ?_
  refine va_get (D := (dC, dI)) (ci := 0) (v := .int (zs_b up)) (C := "ZoneShelf") (T := zs_T_X) (N := 3) hx hb hz zs_in_X hown hk.1 hP 0 rfl rfl 2 (by decide) (hz _ zq_54) (fun _ h9 => h9) rfl zd_X_room_1 ?_
  refine zi_eq (tgt := 21) hx hb zd_X_room_4 rfl (fun h1 => ?_) (fun h1 => ?_)
  · subst h1
    refine lv_iconst (v := 0) hx hb zd_X_room_21 (by decide) ?_
    exact zr_iret hx hb hr hlocks zd_X_room_22 (show 0 = zs_room (false, (nm, hi, ln, op, wd), (nm2, hi2, ln2, op2, wd2)) from by simp [zs_room])
  · subst h1
    refine lv_sipush (v := 200) hx hb zd_X_room_7 (by decide) ?_
    refine lv_aload_n hx hb zd_X_room_10 rfl (lv_at hl 0 rfl) ?_
    refine va_get (D := (dC, dI)) (ci := 0) (v := .ref (a 1)) (C := "ZoneShelf") (T := zs_T_X) (N := 3) hx hb hz zs_in_X hown hk.1 hP 0 rfl rfl 0 (by decide) (hz _ zq_52) (fun _ h9 => h9) rfl zd_X_room_11 ?_
    refine zc_rN (rest := [.int 200]) [] hx hb hml hown hz (zc_C_countWords l dC dI cI cZ (a 1) (a 2) (a 3) (a 4) (a 5) (a 6) (nm, hi, ln, op, wd) ) zf_C_countWords rfl rfl zv_10 zq_94 zq_7 ⟨Nat.le_of_ble_eq_true rfl, Nat.le_of_ble_eq_true rfl⟩ hk (hP.sub [1, 2, 3, 4, 5, 6] rfl) 0 1 rfl rfl rfl rfl hl.1 rfl (Nat.le_of_ble_eq_true rfl) zd_X_room_14 ⟨Nat.zero_le _, Nat.zero_le _⟩ (fun r2 e3 => ?_)
    obtain rfl : r2 = zs_sum ln 24 0 0 := e3
    refine lv_isub hx hb zd_X_room_17 ?_
    refine lv_goto (tgt := 22) hx hb zd_X_room_18 rfl ?_
    exact zr_iret hx hb hr hlocks zd_X_room_22 (show (200 - (zs_sum ln 24 0 0)) = zs_room (true, (nm, hi, ln, op, wd), (nm2, hi2, ln2, op2, wd2)) from by simp [zs_room])
set_option maxHeartbeats 4000000 in
set_option maxRecDepth 100000 in
theorem zc_X_find (l : Launch) (dC : Nat → ClassId) (dI : Nat → Nat → Nat) (cI cZ : ClassId) (a : Nat → Nat) (u : zs_X) (n : Int32) : Met l zy_X_find (.code zy_X_find zb_X_find 2 (some .int) :: zs_w) ({ frames := 1, cells := 0, slots := 0, locals := 22 }) (va_Pc [.ref (a 0), .int n] (zs_r dC dI cI cZ (zs_wX cI cZ a u))) (vp_Si (fun r => r = zs_find u n)) 0 0 (fun _ => False) := by
  obtain ⟨up, ⟨nm, hi, ln, op, wd⟩, ⟨nm2, hi2, ln2, op2, wd2⟩⟩ := u
  refine Met.ofW (cc := zb_X_find) (maxL := 2) (ret := (some .int)) (by decide) rfl ?_
  intro p e s m args below meth c s₁ B hml hv
  obtain ⟨rfl, hP, hk⟩ := hv
  have hx := B.exec
  have hb := B.bytes
  have hr := B.returns
  have hts := atoms_spec (ws := .code zy_X_find zb_X_find 2 (some .int) :: zs_w) B.pre
  have hz : ∀ w ∈ zs_w, w.before _ s = true := fun w h => hts w (List.mem_cons_of_mem _ h)
  have hown : s.vm.findClass "ZoneShelf" = some m.cls := findClass_of_methodNamed B.named
  have hlocks := B.notSynchronized
  have hP : va_P (dC, dI) zs_cl [(a 0, .inr (0, [.ref (a 1), .ref (a 7), .int (zs_b up)])), (a 1, .inr (1, [.ref (a 2), .ref (a 3), .ref (a 4), .ref (a 5), .ref (a 6)])), (a 2, .inl (cI, 24, .inl nm)), (a 3, .inl (cI, 24, .inl hi)), (a 4, .inl (cI, 24, .inl ln)), (a 5, .inl (cZ, 24, .inl op)), (a 6, .inl (cI, 1536, .inl wd)), (a 7, .inr (1, [.ref (a 8), .ref (a 9), .ref (a 10), .ref (a 11), .ref (a 12)])), (a 8, .inl (cI, 24, .inl nm2)), (a 9, .inl (cI, 24, .inl hi2)), (a 10, .inl (cI, 24, .inl ln2)), (a 11, .inl (cZ, 24, .inl op2)), (a 12, .inl (cI, 1536, .inl wd2))] s.heap := hP
  have hl := lv_entry ([.ref (a 0), .int n]) (n := 2) (Nat.le_of_ble_eq_true rfl)
  rw [lg_entry_eq]
  generalize (lg_sl ([.ref (a 0), .int n]) ++ List.replicate (2 - (lg_sl ([.ref (a 0), .int n])).length) Slot.unset).toArray = ls at hl ⊢
  have hl : lv_has ls 2 [(0, .ref (a 0)), (1, .int n)] := hl
  refine lv_aload_n hx hb zd_X_find_0 rfl (lv_at hl 0 rfl) ?_
  refine va_get (D := (dC, dI)) (ci := 0) (v := .int (zs_b up)) (C := "ZoneShelf") (T := zs_T_X) (N := 3) hx hb hz zs_in_X hown hk.1 hP 0 rfl rfl 2 (by decide) (hz _ zq_54) (fun _ h9 => h9) rfl zd_X_find_1 ?_
  refine zi_eq (tgt := 25) hx hb zd_X_find_4 rfl (fun h1 => ?_) (fun h1 => ?_)
  · subst h1
    refine lv_iconst (v := (-1)) hx hb zd_X_find_25 (by decide) ?_
    exact zr_iret hx hb hr hlocks zd_X_find_26 (show (-1) = zs_find (false, (nm, hi, ln, op, wd), (nm2, hi2, ln2, op2, wd2)) n from by simp [zs_find])
  · subst h1
    refine lv_iload_n hx hb zd_X_find_7 rfl (lv_at hl 1 rfl) ?_
    refine zc_rS (rest := []) [.int n] hx hb hml hown hz (zc_X_isName l dC dI cI cZ n) zf_X_isName rfl rfl zq_65 zq_66 ⟨Nat.le_of_ble_eq_true rfl, Nat.le_of_ble_eq_true rfl⟩ rfl hl.1 rfl (Nat.le_of_ble_eq_true rfl) zd_X_find_8 ⟨Nat.zero_le _, Nat.zero_le _⟩ (fun r2 e3 => ?_)
    obtain rfl : r2 = zs_b (zs_nam n) := e3
    refine zi_eq (tgt := 25) hx hb zd_X_find_11 rfl (fun h4 => ?_) (fun h4 => ?_)
    · refine lv_iconst (v := (-1)) hx hb zd_X_find_25 (by decide) ?_
      exact zr_iret hx hb hr hlocks zd_X_find_26 (show (-1) = zs_find (true, (nm, hi, ln, op, wd), (nm2, hi2, ln2, op2, wd2)) n from by simp [zs_find, h4])
    · refine lv_aload_n hx hb zd_X_find_14 rfl (lv_at hl 0 rfl) ?_
      refine va_get (D := (dC, dI)) (ci := 0) (v := .ref (a 1)) (C := "ZoneShelf") (T := zs_T_X) (N := 3) hx hb hz zs_in_X hown hk.1 hP 0 rfl rfl 0 (by decide) (hz _ zq_52) (fun _ h9 => h9) rfl zd_X_find_15 ?_
      refine lv_iload_n hx hb zd_X_find_18 rfl (lv_at hl 1 rfl) ?_
      refine zc_rN (rest := []) [.int n] hx hb hml hown hz (zc_C_numberOf l dC dI cI cZ (a 1) (a 2) (a 3) (a 4) (a 5) (a 6) (nm, hi, ln, op, wd) n) zf_C_numberOf rfl rfl zv_6 zq_68 zq_1 ⟨Nat.le_of_ble_eq_true rfl, Nat.le_of_ble_eq_true rfl⟩ hk (hP.sub [1, 2, 3, 4, 5, 6] rfl) 0 1 rfl rfl rfl rfl hl.1 rfl (Nat.le_of_ble_eq_true rfl) zd_X_find_19 ⟨Nat.zero_le _, Nat.zero_le _⟩ (fun r5 e6 => ?_)
      obtain rfl : r5 = zs_num nm n 24 0 := e6
      refine lv_goto (tgt := 26) hx hb zd_X_find_22 rfl ?_
      exact zr_iret hx hb hr hlocks zd_X_find_26 (show (zs_num nm n 24 0) = zs_find (true, (nm, hi, ln, op, wd), (nm2, hi2, ln2, op2, wd2)) n from by simp [zs_find, h4])
set_option maxHeartbeats 4000000 in
set_option maxRecDepth 100000 in
theorem zc_X_list (l : Launch) (dC : Nat → ClassId) (dI : Nat → Nat → Nat) (cI cZ : ClassId) (a : Nat → Nat) (u : zs_X) (k : Int32) : Met l zy_X_list (.code zy_X_list zb_X_list 2 (some .int) :: zs_w) ({ frames := 3, cells := 0, slots := 0, locals := 66 }) (va_Pc [.ref (a 0), .int k] (zs_r dC dI cI cZ (zs_wX cI cZ a u))) (vp_Si (fun r => r = zs_list u k)) 0 0 (fun _ => False) := by
  obtain ⟨up, ⟨nm, hi, ln, op, wd⟩, ⟨nm2, hi2, ln2, op2, wd2⟩⟩ := u
  refine Met.ofW (cc := zb_X_list) (maxL := 2) (ret := (some .int)) (by decide) rfl ?_
  intro p e s m args below meth c s₁ B hml hv
  obtain ⟨rfl, hP, hk⟩ := hv
  have hx := B.exec
  have hb := B.bytes
  have hr := B.returns
  have hts := atoms_spec (ws := .code zy_X_list zb_X_list 2 (some .int) :: zs_w) B.pre
  have hz : ∀ w ∈ zs_w, w.before _ s = true := fun w h => hts w (List.mem_cons_of_mem _ h)
  have hown : s.vm.findClass "ZoneShelf" = some m.cls := findClass_of_methodNamed B.named
  have hlocks := B.notSynchronized
  have hP : va_P (dC, dI) zs_cl [(a 0, .inr (0, [.ref (a 1), .ref (a 7), .int (zs_b up)])), (a 1, .inr (1, [.ref (a 2), .ref (a 3), .ref (a 4), .ref (a 5), .ref (a 6)])), (a 2, .inl (cI, 24, .inl nm)), (a 3, .inl (cI, 24, .inl hi)), (a 4, .inl (cI, 24, .inl ln)), (a 5, .inl (cZ, 24, .inl op)), (a 6, .inl (cI, 1536, .inl wd)), (a 7, .inr (1, [.ref (a 8), .ref (a 9), .ref (a 10), .ref (a 11), .ref (a 12)])), (a 8, .inl (cI, 24, .inl nm2)), (a 9, .inl (cI, 24, .inl hi2)), (a 10, .inl (cI, 24, .inl ln2)), (a 11, .inl (cZ, 24, .inl op2)), (a 12, .inl (cI, 1536, .inl wd2))] s.heap := hP
  have hl := lv_entry ([.ref (a 0), .int k]) (n := 2) (Nat.le_of_ble_eq_true rfl)
  rw [lg_entry_eq]
  generalize (lg_sl ([.ref (a 0), .int k]) ++ List.replicate (2 - (lg_sl ([.ref (a 0), .int k])).length) Slot.unset).toArray = ls at hl ⊢
  have hl : lv_has ls 2 [(0, .ref (a 0)), (1, .int k)] := hl
  refine lv_aload_n hx hb zd_X_list_0 rfl (lv_at hl 0 rfl) ?_
  refine va_get (D := (dC, dI)) (ci := 0) (v := .int (zs_b up)) (C := "ZoneShelf") (T := zs_T_X) (N := 3) hx hb hz zs_in_X hown hk.1 hP 0 rfl rfl 2 (by decide) (hz _ zq_54) (fun _ h9 => h9) rfl zd_X_list_1 ?_
  refine zi_eq (tgt := 18) hx hb zd_X_list_4 rfl (fun h1 => ?_) (fun h1 => ?_)
  · subst h1
    refine lv_iconst (v := (-1)) hx hb zd_X_list_18 (by decide) ?_
    exact zr_iret hx hb hr hlocks zd_X_list_19 (show (-1) = zs_list (false, (nm, hi, ln, op, wd), (nm2, hi2, ln2, op2, wd2)) k from by simp [zs_list])
  · subst h1
    refine lv_aload_n hx hb zd_X_list_7 rfl (lv_at hl 0 rfl) ?_
    refine va_get (D := (dC, dI)) (ci := 0) (v := .ref (a 1)) (C := "ZoneShelf") (T := zs_T_X) (N := 3) hx hb hz zs_in_X hown hk.1 hP 0 rfl rfl 0 (by decide) (hz _ zq_52) (fun _ h9 => h9) rfl zd_X_list_8 ?_
    refine lv_iload_n hx hb zd_X_list_11 rfl (lv_at hl 1 rfl) ?_
    refine zc_rN (rest := []) [.int k] hx hb hml hown hz (zc_C_numberAtRank l dC dI cI cZ (a 1) (a 2) (a 3) (a 4) (a 5) (a 6) (nm, hi, ln, op, wd) k) zf_C_numberAtRank rfl rfl zv_15 zq_172 zq_12 ⟨Nat.le_of_ble_eq_true rfl, Nat.le_of_ble_eq_true rfl⟩ hk (hP.sub [1, 2, 3, 4, 5, 6] rfl) 0 1 rfl rfl rfl rfl hl.1 rfl (Nat.le_of_ble_eq_true rfl) zd_X_list_12 ⟨Nat.zero_le _, Nat.zero_le _⟩ (fun r2 e3 => ?_)
    obtain rfl : r2 = zs_rank nm k 24 0 := e3
    refine lv_goto (tgt := 19) hx hb zd_X_list_15 rfl ?_
    exact zr_iret hx hb hr hlocks zd_X_list_19 (show (zs_rank nm k 24 0) = zs_list (true, (nm, hi, ln, op, wd), (nm2, hi2, ln2, op2, wd2)) k from by simp [zs_list])
set_option maxHeartbeats 4000000 in
set_option maxRecDepth 100000 in
theorem zc_X_object (l : Launch) (dC : Nat → ClassId) (dI : Nat → Nat → Nat) (cI cZ : ClassId) (a : Nat → Nat) (u : zs_X) (o w : Int32) : Met l zy_X_object (.code zy_X_object zb_X_object 3 (some .int) :: zs_w) ({ frames := 2, cells := 0, slots := 0, locals := 42 }) (va_Pc [.ref (a 0), .int o, .int w] (zs_r dC dI cI cZ (zs_wX cI cZ a u))) (vp_Si (fun r => r = zs_object u o w)) 0 0 (fun _ => False) := by
  obtain ⟨up, ⟨nm, hi, ln, op, wd⟩, ⟨nm2, hi2, ln2, op2, wd2⟩⟩ := u
  refine Met.ofW (cc := zb_X_object) (maxL := 3) (ret := (some .int)) (by decide) rfl ?_
  intro p e s m args below meth c s₁ B hml hv
  obtain ⟨rfl, hP, hk⟩ := hv
  have hx := B.exec
  have hb := B.bytes
  have hr := B.returns
  have hts := atoms_spec (ws := .code zy_X_object zb_X_object 3 (some .int) :: zs_w) B.pre
  have hz : ∀ w ∈ zs_w, w.before _ s = true := fun w h => hts w (List.mem_cons_of_mem _ h)
  have hown : s.vm.findClass "ZoneShelf" = some m.cls := findClass_of_methodNamed B.named
  have hlocks := B.notSynchronized
  have hP : va_P (dC, dI) zs_cl [(a 0, .inr (0, [.ref (a 1), .ref (a 7), .int (zs_b up)])), (a 1, .inr (1, [.ref (a 2), .ref (a 3), .ref (a 4), .ref (a 5), .ref (a 6)])), (a 2, .inl (cI, 24, .inl nm)), (a 3, .inl (cI, 24, .inl hi)), (a 4, .inl (cI, 24, .inl ln)), (a 5, .inl (cZ, 24, .inl op)), (a 6, .inl (cI, 1536, .inl wd)), (a 7, .inr (1, [.ref (a 8), .ref (a 9), .ref (a 10), .ref (a 11), .ref (a 12)])), (a 8, .inl (cI, 24, .inl nm2)), (a 9, .inl (cI, 24, .inl hi2)), (a 10, .inl (cI, 24, .inl ln2)), (a 11, .inl (cZ, 24, .inl op2)), (a 12, .inl (cI, 1536, .inl wd2))] s.heap := hP
  have hl := lv_entry ([.ref (a 0), .int o, .int w]) (n := 3) (Nat.le_of_ble_eq_true rfl)
  rw [lg_entry_eq]
  generalize (lg_sl ([.ref (a 0), .int o, .int w]) ++ List.replicate (3 - (lg_sl ([.ref (a 0), .int o, .int w])).length) Slot.unset).toArray = ls at hl ⊢
  have hl : lv_has ls 3 [(0, .ref (a 0)), (1, .int o), (2, .int w)] := hl
  refine lv_aload_n hx hb zd_X_object_0 rfl (lv_at hl 0 rfl) ?_
  refine lv_iload_n hx hb zd_X_object_1 rfl (lv_at hl 1 rfl) ?_
  refine zc_rV (rest := []) [.int o] hx hb hml hown hz (zc_X_isThere l dC dI cI cZ a (up, (nm, hi, ln, op, wd), (nm2, hi2, ln2, op2, wd2)) o) zf_X_isThere rfl rfl zq_88 zq_89 zq_5 ⟨Nat.le_of_ble_eq_true rfl, Nat.le_of_ble_eq_true rfl⟩ hk (hP.sub [0, 1, 2, 3, 4, 5, 6, 7, 8, 9, 10, 11, 12] rfl) 0 0 rfl rfl rfl rfl hl.1 rfl (Nat.le_of_ble_eq_true rfl) zd_X_object_2 ⟨Nat.zero_le _, Nat.zero_le _⟩ (fun r1 e2 => ?_)
  obtain rfl : r1 = zs_b (zs_is up nm o) := e2
  refine zi_ne (tgt := 10) hx hb zd_X_object_5 rfl (fun h3 => ?_) (fun h3 => ?_)
  · obtain ⟨j, hj, rfl, hup, htk⟩ := zs_is_t h3
    refine lv_iload_n hx hb zd_X_object_10 rfl (lv_at hl 2 rfl) ?_
    by_cases c0 : w = 0
    · refine lv_tableIn (off := 29) (tgt := 40) hx hb zd_X_object_11 (by rw [c0]; decide) (by rw [c0]; decide) (by rw [c0]; rfl) rfl ?_
      refine lv_aload_n hx hb zd_X_object_40 rfl (lv_at hl 0 rfl) ?_
      refine va_get (D := (dC, dI)) (ci := 0) (v := .ref (a 1)) (C := "ZoneShelf") (T := zs_T_X) (N := 3) hx hb hz zs_in_X hown hk.1 hP 0 rfl rfl 0 (by decide) (hz _ zq_52) (fun _ h9 => h9) rfl zd_X_object_41 ?_
      refine va_getN (D := (dC, dI)) (ci := 1) (v := .ref (a 2)) (C := "ZoneShelf$Contents") (T := zs_T_C) (N := 5) hx hb hz zs_in_C hown hk.1 hP 1 rfl rfl 0 (by decide) (va_Nw.use rfl (hk.2 _ zv_1)) (fun _ h9 => h9) rfl zd_X_object_44 ?_
      refine lv_iload_n hx hb zd_X_object_47 rfl (lv_at hl 1 rfl) ?_
      refine zi_ald hx hb hk hP 2 (j := j) rfl (by omega) (by decide) zd_X_object_48 ?_
      exact zr_iret hx hb hr hlocks zd_X_object_49 (show (nm j) = zs_object (up, (nm, hi, ln, op, wd), (nm2, hi2, ln2, op2, wd2)) (nI j) w from by simp only [zs_object]; rw [if_pos h3, if_pos c0, nI_clamp (show j < 2 ^ 31 by omega)])
    · by_cases c1 : w = 1
      · refine lv_tableIn (off := 39) (tgt := 50) hx hb zd_X_object_11 (by rw [c1]; decide) (by rw [c1]; decide) (by rw [c1]; rfl) rfl ?_
        refine lv_aload_n hx hb zd_X_object_50 rfl (lv_at hl 0 rfl) ?_
        refine va_get (D := (dC, dI)) (ci := 0) (v := .ref (a 1)) (C := "ZoneShelf") (T := zs_T_X) (N := 3) hx hb hz zs_in_X hown hk.1 hP 0 rfl rfl 0 (by decide) (hz _ zq_52) (fun _ h9 => h9) rfl zd_X_object_51 ?_
        refine va_getN (D := (dC, dI)) (ci := 1) (v := .ref (a 3)) (C := "ZoneShelf$Contents") (T := zs_T_C) (N := 5) hx hb hz zs_in_C hown hk.1 hP 1 rfl rfl 1 (by decide) (va_Nw.use rfl (hk.2 _ zv_2)) (fun _ h9 => h9) rfl zd_X_object_54 ?_
        refine lv_iload_n hx hb zd_X_object_57 rfl (lv_at hl 1 rfl) ?_
        refine zi_ald hx hb hk hP 3 (j := j) rfl (by omega) (by decide) zd_X_object_58 ?_
        exact zr_iret hx hb hr hlocks zd_X_object_59 (show (hi j) = zs_object (up, (nm, hi, ln, op, wd), (nm2, hi2, ln2, op2, wd2)) (nI j) w from by simp only [zs_object]; rw [if_pos h3, if_neg c0, if_pos c1, nI_clamp (show j < 2 ^ 31 by omega)])
      · by_cases c2 : w = 2
        · refine lv_tableIn (off := 49) (tgt := 60) hx hb zd_X_object_11 (by rw [c2]; decide) (by rw [c2]; decide) (by rw [c2]; rfl) rfl ?_
          refine lv_aload_n hx hb zd_X_object_60 rfl (lv_at hl 0 rfl) ?_
          refine va_get (D := (dC, dI)) (ci := 0) (v := .ref (a 1)) (C := "ZoneShelf") (T := zs_T_X) (N := 3) hx hb hz zs_in_X hown hk.1 hP 0 rfl rfl 0 (by decide) (hz _ zq_52) (fun _ h9 => h9) rfl zd_X_object_61 ?_
          refine va_getN (D := (dC, dI)) (ci := 1) (v := .ref (a 4)) (C := "ZoneShelf$Contents") (T := zs_T_C) (N := 5) hx hb hz zs_in_C hown hk.1 hP 1 rfl rfl 2 (by decide) (va_Nw.use rfl (hk.2 _ zv_3)) (fun _ h9 => h9) rfl zd_X_object_64 ?_
          refine lv_iload_n hx hb zd_X_object_67 rfl (lv_at hl 1 rfl) ?_
          refine zi_ald hx hb hk hP 4 (j := j) rfl (by omega) (by decide) zd_X_object_68 ?_
          exact zr_iret hx hb hr hlocks zd_X_object_69 (show (ln j) = zs_object (up, (nm, hi, ln, op, wd), (nm2, hi2, ln2, op2, wd2)) (nI j) w from by simp only [zs_object]; rw [if_pos h3, if_neg c0, if_neg c1, if_pos c2, nI_clamp (show j < 2 ^ 31 by omega)])
        · by_cases c3 : w = 3
          · refine lv_tableIn (off := 59) (tgt := 70) hx hb zd_X_object_11 (by rw [c3]; decide) (by rw [c3]; decide) (by rw [c3]; rfl) rfl ?_
            refine lv_aload_n hx hb zd_X_object_70 rfl (lv_at hl 0 rfl) ?_
            refine va_get (D := (dC, dI)) (ci := 0) (v := .ref (a 1)) (C := "ZoneShelf") (T := zs_T_X) (N := 3) hx hb hz zs_in_X hown hk.1 hP 0 rfl rfl 0 (by decide) (hz _ zq_52) (fun _ h9 => h9) rfl zd_X_object_71 ?_
            refine va_getN (D := (dC, dI)) (ci := 1) (v := .ref (a 5)) (C := "ZoneShelf$Contents") (T := zs_T_C) (N := 5) hx hb hz zs_in_C hown hk.1 hP 1 rfl rfl 3 (by decide) (va_Nw.use rfl (hk.2 _ zv_4)) (fun _ h9 => h9) rfl zd_X_object_74 ?_
            refine lv_iload_n hx hb zd_X_object_77 rfl (lv_at hl 1 rfl) ?_
            refine zi_zld hx hb hk hP 5 (j := j) rfl (by omega) (by decide) zd_X_object_78 ?_
            refine lv_if_eq (tgt := 86) hx hb zd_X_object_79 rfl (fun h4 => ?_) (fun h4 => ?_)
            · refine lv_iconst (v := 0) hx hb zd_X_object_86 (by decide) ?_
              exact zr_iret hx hb hr hlocks zd_X_object_87 (show 0 = zs_object (up, (nm, hi, ln, op, wd), (nm2, hi2, ln2, op2, wd2)) (nI j) w from by simp only [zs_object]; rw [if_pos h3, if_neg c0, if_neg c1, if_neg c2, if_pos c3, nI_clamp (show j < 2 ^ 31 by omega), if_pos h4])
            · refine lv_iconst (v := 1) hx hb zd_X_object_82 (by decide) ?_
              refine lv_goto (tgt := 87) hx hb zd_X_object_83 rfl ?_
              exact zr_iret hx hb hr hlocks zd_X_object_87 (show 1 = zs_object (up, (nm, hi, ln, op, wd), (nm2, hi2, ln2, op2, wd2)) (nI j) w from by simp only [zs_object]; rw [if_pos h3, if_neg c0, if_neg c1, if_neg c2, if_pos c3, nI_clamp (show j < 2 ^ 31 by omega), if_neg h4])
          · refine lv_tableOut (tgt := 88) hx hb zd_X_object_11 (zs_sw4 c0 c1 c2 c3) rfl ?_
            refine lv_iconst (v := (-1)) hx hb zd_X_object_88 (by decide) ?_
            exact zr_iret hx hb hr hlocks zd_X_object_89 (show (-1) = zs_object (up, (nm, hi, ln, op, wd), (nm2, hi2, ln2, op2, wd2)) (nI j) w from by simp only [zs_object]; rw [if_pos h3, if_neg c0, if_neg c1, if_neg c2, if_neg c3])
  · refine lv_iconst (v := (-1)) hx hb zd_X_object_8 (by decide) ?_
    exact zr_iret hx hb hr hlocks zd_X_object_9 (show (-1) = zs_object (up, (nm, hi, ln, op, wd), (nm2, hi2, ln2, op2, wd2)) o w from by simp [zs_object, h3])
set_option maxHeartbeats 4000000 in
set_option maxRecDepth 100000 in
theorem zc_X_word (l : Launch) (dC : Nat → ClassId) (dI : Nat → Nat → Nat) (cI cZ : ClassId) (a : Nat → Nat) (u : zs_X) (hok : zs_ok u) (o i : Int32) : Met l zy_X_word (.code zy_X_word zb_X_word 3 (some .int) :: zs_w) ({ frames := 2, cells := 0, slots := 0, locals := 42 }) (va_Pc [.ref (a 0), .int o, .int i] (zs_r dC dI cI cZ (zs_wX cI cZ a u))) (vp_Si (fun r => r = zs_word u o i)) 0 0 (fun _ => False) := by
  obtain ⟨up, ⟨nm, hi, ln, op, wd⟩, ⟨nm2, hi2, ln2, op2, wd2⟩⟩ := u
  have hok : ∀ j, j < 24 → ∃ q : Nat, q ≤ 64 ∧ ln j = nI q := hok
  refine Met.ofW (cc := zb_X_word) (maxL := 3) (ret := (some .int)) (by decide) rfl ?_
  intro p e s m args below meth c s₁ B hml hv
  obtain ⟨rfl, hP, hk⟩ := hv
  have hx := B.exec
  have hb := B.bytes
  have hr := B.returns
  have hts := atoms_spec (ws := .code zy_X_word zb_X_word 3 (some .int) :: zs_w) B.pre
  have hz : ∀ w ∈ zs_w, w.before _ s = true := fun w h => hts w (List.mem_cons_of_mem _ h)
  have hown : s.vm.findClass "ZoneShelf" = some m.cls := findClass_of_methodNamed B.named
  have hlocks := B.notSynchronized
  have hP : va_P (dC, dI) zs_cl [(a 0, .inr (0, [.ref (a 1), .ref (a 7), .int (zs_b up)])), (a 1, .inr (1, [.ref (a 2), .ref (a 3), .ref (a 4), .ref (a 5), .ref (a 6)])), (a 2, .inl (cI, 24, .inl nm)), (a 3, .inl (cI, 24, .inl hi)), (a 4, .inl (cI, 24, .inl ln)), (a 5, .inl (cZ, 24, .inl op)), (a 6, .inl (cI, 1536, .inl wd)), (a 7, .inr (1, [.ref (a 8), .ref (a 9), .ref (a 10), .ref (a 11), .ref (a 12)])), (a 8, .inl (cI, 24, .inl nm2)), (a 9, .inl (cI, 24, .inl hi2)), (a 10, .inl (cI, 24, .inl ln2)), (a 11, .inl (cZ, 24, .inl op2)), (a 12, .inl (cI, 1536, .inl wd2))] s.heap := hP
  have hl := lv_entry ([.ref (a 0), .int o, .int i]) (n := 3) (Nat.le_of_ble_eq_true rfl)
  rw [lg_entry_eq]
  generalize (lg_sl ([.ref (a 0), .int o, .int i]) ++ List.replicate (3 - (lg_sl ([.ref (a 0), .int o, .int i])).length) Slot.unset).toArray = ls at hl ⊢
  have hl : lv_has ls 3 [(0, .ref (a 0)), (1, .int o), (2, .int i)] := hl
  refine lv_aload_n hx hb zd_X_word_0 rfl (lv_at hl 0 rfl) ?_
  refine lv_iload_n hx hb zd_X_word_1 rfl (lv_at hl 1 rfl) ?_
  refine zc_rV (rest := []) [.int o] hx hb hml hown hz (zc_X_isThere l dC dI cI cZ a (up, (nm, hi, ln, op, wd), (nm2, hi2, ln2, op2, wd2)) o) zf_X_isThere rfl rfl zq_88 zq_89 zq_5 ⟨Nat.le_of_ble_eq_true rfl, Nat.le_of_ble_eq_true rfl⟩ hk (hP.sub [0, 1, 2, 3, 4, 5, 6, 7, 8, 9, 10, 11, 12] rfl) 0 0 rfl rfl rfl rfl hl.1 rfl (Nat.le_of_ble_eq_true rfl) zd_X_word_2 ⟨Nat.zero_le _, Nat.zero_le _⟩ (fun r1 e2 => ?_)
  obtain rfl : r1 = zs_b (zs_is up nm o) := e2
  refine zi_eq (tgt := 25) hx hb zd_X_word_5 rfl (fun h3 => ?_) (fun h3 => ?_)
  · refine lv_iconst (v := 0) hx hb zd_X_word_25 (by decide) ?_
    exact zr_iret hx hb hr hlocks zd_X_word_26 (show 0 = zs_word (up, (nm, hi, ln, op, wd), (nm2, hi2, ln2, op2, wd2)) o i from by simp [zs_word, h3])
  · obtain ⟨j, hj, rfl, hup, htk⟩ := zs_is_t h3
    refine lv_iload_n hx hb zd_X_word_8 rfl (lv_at hl 2 rfl) ?_
    refine lv_if_lt (tgt := 25) hx hb zd_X_word_9 rfl (fun h4 => ?_) (fun h4 => ?_)
    · refine lv_iconst (v := 0) hx hb zd_X_word_25 (by decide) ?_
      exact zr_iret hx hb hr hlocks zd_X_word_26 (show 0 = zs_word (up, (nm, hi, ln, op, wd), (nm2, hi2, ln2, op2, wd2)) (nI j) i from by simp only [zs_word]; rw [if_neg (fun q => q.2.1 h4)])
    · refine lv_iload_n hx hb zd_X_word_12 rfl (lv_at hl 2 rfl) ?_
      refine lv_aload_n hx hb zd_X_word_13 rfl (lv_at hl 0 rfl) ?_
      refine va_get (D := (dC, dI)) (ci := 0) (v := .ref (a 1)) (C := "ZoneShelf") (T := zs_T_X) (N := 3) hx hb hz zs_in_X hown hk.1 hP 0 rfl rfl 0 (by decide) (hz _ zq_52) (fun _ h9 => h9) rfl zd_X_word_14 ?_
      refine va_getN (D := (dC, dI)) (ci := 1) (v := .ref (a 4)) (C := "ZoneShelf$Contents") (T := zs_T_C) (N := 5) hx hb hz zs_in_C hown hk.1 hP 1 rfl rfl 2 (by decide) (va_Nw.use rfl (hk.2 _ zv_3)) (fun _ h9 => h9) rfl zd_X_word_17 ?_
      refine lv_iload_n hx hb zd_X_word_20 rfl (lv_at hl 1 rfl) ?_
      refine zi_ald hx hb hk hP 4 (j := j) rfl (by omega) (by decide) zd_X_word_21 ?_
      refine lv_icmp_lt (tgt := 27) hx hb zd_X_word_22 rfl (fun h5 => ?_) (fun h5 => ?_)
      · obtain ⟨q, hq6, hq⟩ := hok j hj
        have hq : ln j = nI q := hq
        obtain ⟨i, hi6, rfl⟩ := zs_wix h4 (hq ▸ h5) hq6
        refine lv_aload_n hx hb zd_X_word_27 rfl (lv_at hl 0 rfl) ?_
        refine va_get (D := (dC, dI)) (ci := 0) (v := .ref (a 1)) (C := "ZoneShelf") (T := zs_T_X) (N := 3) hx hb hz zs_in_X hown hk.1 hP 0 rfl rfl 0 (by decide) (hz _ zq_52) (fun _ h9 => h9) rfl zd_X_word_28 ?_
        refine va_getN (D := (dC, dI)) (ci := 1) (v := .ref (a 6)) (C := "ZoneShelf$Contents") (T := zs_T_C) (N := 5) hx hb hz zs_in_C hown hk.1 hP 1 rfl rfl 4 (by decide) (va_Nw.use rfl (hk.2 _ zv_5)) (fun _ h9 => h9) rfl zd_X_word_31 ?_
        refine lv_iload_n hx hb zd_X_word_34 rfl (lv_at hl 1 rfl) ?_
        refine lv_bipush (v := 64) hx hb zd_X_word_35 (by decide) ?_
        refine lv_imul hx hb zd_X_word_37 ?_
        refine lv_iload_n hx hb zd_X_word_38 rfl (lv_at hl 2 rfl) ?_
        refine lv_iadd hx hb zd_X_word_39 ?_
        refine zi_top (y := nI (j * 64 + i)) (by rw [show (64 : Int32) = nI 64 from rfl, pk_mul, nI_add]) ?_
        refine zi_ald hx hb hk hP 6 (j := (j * 64 + i)) rfl (by omega) (by decide) zd_X_word_40 ?_
        exact zr_iret hx hb hr hlocks zd_X_word_41 (show (wd (j * 64 + i)) = zs_word (up, (nm, hi, ln, op, wd), (nm2, hi2, ln2, op2, wd2)) (nI j) (nI i) from by simp only [zs_word, nI_clamp (show j < 2 ^ 31 by omega), nI_clamp (show i < 2 ^ 31 by omega)]; rw [if_pos ⟨h3, h4, h5⟩])
      · refine lv_iconst (v := 0) hx hb zd_X_word_25 (by decide) ?_
        exact zr_iret hx hb hr hlocks zd_X_word_26 (show 0 = zs_word (up, (nm, hi, ln, op, wd), (nm2, hi2, ln2, op2, wd2)) (nI j) i from by simp only [zs_word, nI_clamp (show j < 2 ^ 31 by omega)]; rw [if_neg (fun q => h5 q.2.2)])
set_option maxHeartbeats 4000000 in
set_option maxRecDepth 100000 in
theorem zc_X_create (l : Launch) (dC : Nat → ClassId) (dI : Nat → Nat → Nat) (cI cZ : ClassId) (a : Nat → Nat) (u : zs_X) (sz : Nat) (n h : Int32) : Met l zy_X_create (.code zy_X_create zb_X_create 4 (some .int) :: zs_w) ({ frames := 2, cells := 0, slots := 0, locals := 43 }) (va_Pc [.ref (a 0), .int n, .int h] (zs_s dC dI cI cZ sz (zs_wX cI cZ a u))) (va_Qi (fun r (v : zs_X) => (r, v) = zs_create u n h) (zs_e dC dI (zs_wX cI cZ a) (va_A (zs_wX cI cZ a u) sz)) (va_A (zs_wX cI cZ a u) sz)) 0 0 (va_A (zs_wX cI cZ a u) sz) := by
  obtain ⟨up, ⟨nm, hi, ln, op, wd⟩, ⟨nm2, hi2, ln2, op2, wd2⟩⟩ := u
  refine Met.ofW (cc := zb_X_create) (maxL := 4) (ret := (some .int)) (by decide) rfl ?_
  intro p e s m args below meth c s₁ B hml hv
  obtain ⟨rfl, hsz, hP, hk, hD0⟩ := hv
  have hx := B.exec
  have hb := B.bytes
  have hr := B.returns
  have hts := atoms_spec (ws := .code zy_X_create zb_X_create 4 (some .int) :: zs_w) B.pre
  have hz : ∀ w ∈ zs_w, w.before _ s = true := fun w h => hts w (List.mem_cons_of_mem _ h)
  have hown : s.vm.findClass "ZoneShelf" = some m.cls := findClass_of_methodNamed B.named
  have hlocks := B.notSynchronized
  subst hsz
  have hD := hD0.self (sz := s.heap.size)
  generalize hAe : va_A (zs_wX cI cZ a (up, (nm, hi, ln, op, wd), (nm2, hi2, ln2, op2, wd2))) s.heap.size = A at hD ⊢
  have hA : ∀ q : Nat, s.heap.size ≤ q → A q := fun q h => by rw [← hAe]; exact Or.inr h
  have hS : va_S A s.heap s.heap [] := va_S.rf
  have hP : va_P (dC, dI) zs_cl [(a 0, .inr (0, [.ref (a 1), .ref (a 7), .int (zs_b up)])), (a 1, .inr (1, [.ref (a 2), .ref (a 3), .ref (a 4), .ref (a 5), .ref (a 6)])), (a 2, .inl (cI, 24, .inl nm)), (a 3, .inl (cI, 24, .inl hi)), (a 4, .inl (cI, 24, .inl ln)), (a 5, .inl (cZ, 24, .inl op)), (a 6, .inl (cI, 1536, .inl wd)), (a 7, .inr (1, [.ref (a 8), .ref (a 9), .ref (a 10), .ref (a 11), .ref (a 12)])), (a 8, .inl (cI, 24, .inl nm2)), (a 9, .inl (cI, 24, .inl hi2)), (a 10, .inl (cI, 24, .inl ln2)), (a 11, .inl (cZ, 24, .inl op2)), (a 12, .inl (cI, 1536, .inl wd2))] s.heap := hP
  have hD : va_D A [(a 0, .inr (0, [.ref (a 1), .ref (a 7), .int (zs_b up)])), (a 1, .inr (1, [.ref (a 2), .ref (a 3), .ref (a 4), .ref (a 5), .ref (a 6)])), (a 2, .inl (cI, 24, .inl nm)), (a 3, .inl (cI, 24, .inl hi)), (a 4, .inl (cI, 24, .inl ln)), (a 5, .inl (cZ, 24, .inl op)), (a 6, .inl (cI, 1536, .inl wd)), (a 7, .inr (1, [.ref (a 8), .ref (a 9), .ref (a 10), .ref (a 11), .ref (a 12)])), (a 8, .inl (cI, 24, .inl nm2)), (a 9, .inl (cI, 24, .inl hi2)), (a 10, .inl (cI, 24, .inl ln2)), (a 11, .inl (cZ, 24, .inl op2)), (a 12, .inl (cI, 1536, .inl wd2))] := hD
  have hl := lv_entry ([.ref (a 0), .int n, .int h]) (n := 4) (Nat.le_of_ble_eq_true rfl)
  rw [lg_entry_eq]
  generalize (lg_sl ([.ref (a 0), .int n, .int h]) ++ List.replicate (4 - (lg_sl ([.ref (a 0), .int n, .int h])).length) Slot.unset).toArray = ls at hl ⊢
  have hl : lv_has ls 4 [(0, .ref (a 0)), (1, .int n), (2, .int h)] := hl
  refine lv_aload_n hx hb zd_X_create_0 rfl (lv_at hl 0 rfl) ?_
  refine va_get (D := (dC, dI)) (ci := 0) (v := .int (zs_b up)) (C := "ZoneShelf") (T := zs_T_X) (N := 3) hx hb hz zs_in_X hown hk.1 hP 0 rfl rfl 2 (by decide) (hz _ zq_54) (fun _ h9 => h9) rfl zd_X_create_1 ?_
  refine zi_eq (tgt := 22) hx hb zd_X_create_4 rfl (fun h1 => ?_) (fun h1 => ?_)
  · subst h1
    refine lv_iconst (v := (-1)) hx hb zd_X_create_22 (by decide) ?_
    exact zw_iret (false, (nm, hi, ln, op, wd), (nm2, hi2, ln2, op2, wd2)) hx hb hr hlocks zd_X_create_23  (show ((-1), (false, (nm, hi, ln, op, wd), (nm2, hi2, ln2, op2, wd2))) = zs_create (false, (nm, hi, ln, op, wd), (nm2, hi2, ln2, op2, wd2)) n h from by simp [zs_create]) hP hD hS
  · subst h1
    refine lv_aload_n hx hb zd_X_create_7 rfl (lv_at hl 0 rfl) ?_
    refine lv_iload_n hx hb zd_X_create_8 rfl (lv_at hl 1 rfl) ?_
    refine zc_rV (rest := []) [.int n] hx hb hml hown hz (zc_X_isFreeName l dC dI cI cZ a (true, (nm, hi, ln, op, wd), (nm2, hi2, ln2, op2, wd2)) n) zf_X_isFreeName rfl rfl zq_62 zq_63 zq_0 ⟨Nat.le_of_ble_eq_true rfl, Nat.le_of_ble_eq_true rfl⟩ hk (hP.sub [0, 1, 2, 3, 4, 5, 6, 7, 8, 9, 10, 11, 12] rfl) 0 0 rfl rfl rfl rfl hl.1 rfl (Nat.le_of_ble_eq_true rfl) zd_X_create_9 ⟨Nat.zero_le _, Nat.zero_le _⟩ (fun r2 e3 => ?_)
    obtain rfl : r2 = zs_b (zs_fr nm n) := e3
    refine zi_eq (tgt := 22) hx hb zd_X_create_12 rfl (fun h4 => ?_) (fun h4 => ?_)
    · refine lv_iconst (v := (-1)) hx hb zd_X_create_22 (by decide) ?_
      exact zw_iret (true, (nm, hi, ln, op, wd), (nm2, hi2, ln2, op2, wd2)) hx hb hr hlocks zd_X_create_23  (show ((-1), (true, (nm, hi, ln, op, wd), (nm2, hi2, ln2, op2, wd2))) = zs_create (true, (nm, hi, ln, op, wd), (nm2, hi2, ln2, op2, wd2)) n h from by simp [zs_create, h4]) hP hD hS
    · refine lv_iload_n hx hb zd_X_create_15 rfl (lv_at hl 2 rfl) ?_
      refine zc_rS (rest := []) [.int h] hx hb hml hown hz (zc_X_isHint l dC dI cI cZ h) zf_X_isHint rfl rfl zq_70 zq_71 ⟨Nat.le_of_ble_eq_true rfl, Nat.le_of_ble_eq_true rfl⟩ rfl hl.1 rfl (Nat.le_of_ble_eq_true rfl) zd_X_create_16 ⟨Nat.zero_le _, Nat.zero_le _⟩ (fun r5 e6 => ?_)
      obtain rfl : r5 = zs_b (zs_hin h) := e6
      refine zi_ne (tgt := 24) hx hb zd_X_create_19 rfl (fun h7 => ?_) (fun h7 => ?_)
      · refine lv_aload_n hx hb zd_X_create_24 rfl (lv_at hl 0 rfl) ?_
        refine va_get (D := (dC, dI)) (ci := 0) (v := .ref (a 1)) (C := "ZoneShelf") (T := zs_T_X) (N := 3) hx hb hz zs_in_X hown hk.1 hP 0 rfl rfl 0 (by decide) (hz _ zq_52) (fun _ h9 => h9) rfl zd_X_create_25 ?_
        refine zc_rN (rest := []) [] hx hb hml hown hz (zc_C_leastFreeNumber l dC dI cI cZ (a 1) (a 2) (a 3) (a 4) (a 5) (a 6) (nm, hi, ln, op, wd) ) zf_C_leastFreeNumber rfl rfl zv_7 zq_73 zq_2 ⟨Nat.le_of_ble_eq_true rfl, Nat.le_of_ble_eq_true rfl⟩ hk (hP.sub [1, 2, 3, 4, 5, 6] rfl) 0 1 rfl rfl rfl rfl hl.1 rfl (Nat.le_of_ble_eq_true rfl) zd_X_create_28 ⟨Nat.zero_le _, Nat.zero_le _⟩ (fun r8 e9 => ?_)
        obtain rfl : r8 = zs_free nm 24 0 := e9
        refine lv_istore_n (lv' := [(3, .int (zs_free nm 24 0)), (0, .ref (a 0)), (1, .int n), (2, .int h)]) hx hb zd_X_create_31 rfl hl (by decide) rfl (fun ls hl => ?_)
        refine lv_iload_n hx hb zd_X_create_32 rfl (lv_at hl 0 rfl) ?_
        refine lv_iconst (v := (-1)) hx hb zd_X_create_33 (by decide) ?_
        refine lv_icmp_eq (tgt := 47) hx hb zd_X_create_34 rfl (fun h10 => ?_) (fun h10 => ?_)
        · refine lv_iload_n hx hb zd_X_create_47 rfl (lv_at hl 0 rfl) ?_
          exact zw_iret (true, (nm, hi, ln, op, wd), (nm2, hi2, ln2, op2, wd2)) hx hb hr hlocks zd_X_create_48  (show (zs_free nm 24 0, (true, (nm, hi, ln, op, wd), (nm2, hi2, ln2, op2, wd2))) = zs_create (true, (nm, hi, ln, op, wd), (nm2, hi2, ln2, op2, wd2)) n h from by simp [zs_create, h4, h7, h10]) hP hD hS
        · obtain ⟨j, hj, hfj⟩ := zs_free_in h10
          have hne : ¬ nI j = -1 := fun z => h10 (hfj.trans z)
          rw [hfj] at hl
          refine lv_aload_n hx hb zd_X_create_37 rfl (lv_at hl 1 rfl) ?_
          refine va_get (D := (dC, dI)) (ci := 0) (v := .ref (a 1)) (C := "ZoneShelf") (T := zs_T_X) (N := 3) hx hb hz zs_in_X hown hk.1 hP 0 rfl rfl 0 (by decide) (hz _ zq_52) (fun _ h9 => h9) rfl zd_X_create_38 ?_
          refine lv_iload_n hx hb zd_X_create_41 rfl (lv_at hl 0 rfl) ?_
          refine lv_iload_n hx hb zd_X_create_42 rfl (lv_at hl 2 rfl) ?_
          refine lv_iload_n hx hb zd_X_create_43 rfl (lv_at hl 3 rfl) ?_
          refine zc_wN (rest := []) (wr := [(a 0, .inr (0, [.ref (a 1), .ref (a 7), .int (zs_b true)])), (a 7, .inr (1, [.ref (a 8), .ref (a 9), .ref (a 10), .ref (a 11), .ref (a 12)])), (a 8, .inl (cI, 24, .inl nm2)), (a 9, .inl (cI, 24, .inl hi2)), (a 10, .inl (cI, 24, .inl ln2)), (a 11, .inl (cZ, 24, .inl op2)), (a 12, .inl (cI, 1536, .inl wd2))]) [.int (nI j), .int n, .int h] hx hb hml hown hz (zc_C_place l dC dI cI cZ (a 1) (a 2) (a 3) (a 4) (a 5) (a 6) (nm, hi, ln, op, wd) s.heap.size j hj n h) zf_C_place rfl rfl zv_8 zq_78 zq_4 ⟨Nat.le_of_ble_eq_true rfl, Nat.le_of_ble_eq_true rfl⟩ hk hP hD hS hA [1, 2, 3, 4, 5, 6] [0, 7, 8, 9, 10, 11, 12] rfl rfl (by decide) (by decide) (by decide) 0 1 rfl rfl rfl rfl hl.1 rfl (Nat.le_of_ble_eq_true rfl) zd_X_create_44 ⟨Nat.zero_le _, Nat.zero_le _⟩ (fun u13 H locs e12 hP hD hS => ?_)
          obtain rfl : u13 = (upd nm j n, upd hi j h, ln, upd op j (vp_nar .boolean 1), wd) := e12
          have hP : va_P (dC, dI) zs_cl [(a 0, .inr (0, [.ref (a 1), .ref (a 7), .int (zs_b true)])), (a 7, .inr (1, [.ref (a 8), .ref (a 9), .ref (a 10), .ref (a 11), .ref (a 12)])), (a 8, .inl (cI, 24, .inl nm2)), (a 9, .inl (cI, 24, .inl hi2)), (a 10, .inl (cI, 24, .inl ln2)), (a 11, .inl (cZ, 24, .inl op2)), (a 12, .inl (cI, 1536, .inl wd2)), (a 1, .inr (1, [.ref (a 2), .ref (a 3), .ref (a 4), .ref (a 5), .ref (a 6)])), (a 2, .inl (cI, 24, .inl (upd nm j n))), (a 3, .inl (cI, 24, .inl (upd hi j h))), (a 4, .inl (cI, 24, .inl ln)), (a 5, .inl (cZ, 24, .inl (upd op j (vp_nar .boolean 1)))), (a 6, .inl (cI, 1536, .inl wd))] H := hP
          have hD : va_D A [(a 0, .inr (0, [.ref (a 1), .ref (a 7), .int (zs_b true)])), (a 7, .inr (1, [.ref (a 8), .ref (a 9), .ref (a 10), .ref (a 11), .ref (a 12)])), (a 8, .inl (cI, 24, .inl nm2)), (a 9, .inl (cI, 24, .inl hi2)), (a 10, .inl (cI, 24, .inl ln2)), (a 11, .inl (cZ, 24, .inl op2)), (a 12, .inl (cI, 1536, .inl wd2)), (a 1, .inr (1, [.ref (a 2), .ref (a 3), .ref (a 4), .ref (a 5), .ref (a 6)])), (a 2, .inl (cI, 24, .inl (upd nm j n))), (a 3, .inl (cI, 24, .inl (upd hi j h))), (a 4, .inl (cI, 24, .inl ln)), (a 5, .inl (cZ, 24, .inl (upd op j (vp_nar .boolean 1)))), (a 6, .inl (cI, 1536, .inl wd))] := hD
          refine lv_iload_n hx hb zd_X_create_47 rfl (lv_at hl 0 rfl) ?_
          exact zw_iret (true, (upd nm j n, upd hi j h, ln, upd op j (vp_nar .boolean 1), wd), (nm2, hi2, ln2, op2, wd2)) hx hb hr hlocks zd_X_create_48  (show (nI j, (true, (upd nm j n, upd hi j h, ln, upd op j (vp_nar .boolean 1), wd), (nm2, hi2, ln2, op2, wd2))) = zs_create (true, (nm, hi, ln, op, wd), (nm2, hi2, ln2, op2, wd2)) n h from by simp [zs_create, h4, h7, hne, hfj, nI_clamp (show j < 2 ^ 31 by omega)]) (hP.sub [0, 7, 8, 9, 10, 11, 12, 1, 2, 3, 4, 5, 6] rfl) (hD.sub [0, 7, 8, 9, 10, 11, 12, 1, 2, 3, 4, 5, 6] (by decide) rfl) hS
      · refine lv_iconst (v := (-1)) hx hb zd_X_create_22 (by decide) ?_
        exact zw_iret (true, (nm, hi, ln, op, wd), (nm2, hi2, ln2, op2, wd2)) hx hb hr hlocks zd_X_create_23  (show ((-1), (true, (nm, hi, ln, op, wd), (nm2, hi2, ln2, op2, wd2))) = zs_create (true, (nm, hi, ln, op, wd), (nm2, hi2, ln2, op2, wd2)) n h from by simp [zs_create, h4, h7]) hP hD hS
set_option maxHeartbeats 4000000 in
set_option maxRecDepth 100000 in
theorem zc_X_appendRow (l : Launch) (dC : Nat → ClassId) (dI : Nat → Nat → Nat) (cI cZ : ClassId) (a : Nat → Nat) (u : zs_X) (sz : Nat) (hok : zs_ok u) (o w k : Int32) : Met l zy_X_appendRow (.code zy_X_appendRow zb_X_appendRow 4 (some .boolean) :: zs_w) ({ frames := 2, cells := 0, slots := 0, locals := 43 }) (va_Pc [.ref (a 0), .int o, .int w, .int k] (zs_s dC dI cI cZ sz (zs_wX cI cZ a u))) (va_Qi (fun r (v : zs_X) => (r, v) = zs_appendRow u o w k) (zs_e dC dI (zs_wX cI cZ a) (va_A (zs_wX cI cZ a u) sz)) (va_A (zs_wX cI cZ a u) sz)) 0 0 (va_A (zs_wX cI cZ a u) sz) := by
  obtain ⟨up, ⟨nm, hi, ln, op, wd⟩, ⟨nm2, hi2, ln2, op2, wd2⟩⟩ := u
  have hok : ∀ j, j < 24 → ∃ q : Nat, q ≤ 64 ∧ ln j = nI q := hok
  refine Met.ofW (cc := zb_X_appendRow) (maxL := 4) (ret := (some .boolean)) (by decide) rfl ?_
  intro p e s m args below meth c s₁ B hml hv
  obtain ⟨rfl, hsz, hP, hk, hD0⟩ := hv
  have hx := B.exec
  have hb := B.bytes
  have hr := B.returns
  have hts := atoms_spec (ws := .code zy_X_appendRow zb_X_appendRow 4 (some .boolean) :: zs_w) B.pre
  have hz : ∀ w ∈ zs_w, w.before _ s = true := fun w h => hts w (List.mem_cons_of_mem _ h)
  have hown : s.vm.findClass "ZoneShelf" = some m.cls := findClass_of_methodNamed B.named
  have hlocks := B.notSynchronized
  subst hsz
  have hD := hD0.self (sz := s.heap.size)
  generalize hAe : va_A (zs_wX cI cZ a (up, (nm, hi, ln, op, wd), (nm2, hi2, ln2, op2, wd2))) s.heap.size = A at hD ⊢
  have hA : ∀ q : Nat, s.heap.size ≤ q → A q := fun q h => by rw [← hAe]; exact Or.inr h
  have hS : va_S A s.heap s.heap [] := va_S.rf
  have hP : va_P (dC, dI) zs_cl [(a 0, .inr (0, [.ref (a 1), .ref (a 7), .int (zs_b up)])), (a 1, .inr (1, [.ref (a 2), .ref (a 3), .ref (a 4), .ref (a 5), .ref (a 6)])), (a 2, .inl (cI, 24, .inl nm)), (a 3, .inl (cI, 24, .inl hi)), (a 4, .inl (cI, 24, .inl ln)), (a 5, .inl (cZ, 24, .inl op)), (a 6, .inl (cI, 1536, .inl wd)), (a 7, .inr (1, [.ref (a 8), .ref (a 9), .ref (a 10), .ref (a 11), .ref (a 12)])), (a 8, .inl (cI, 24, .inl nm2)), (a 9, .inl (cI, 24, .inl hi2)), (a 10, .inl (cI, 24, .inl ln2)), (a 11, .inl (cZ, 24, .inl op2)), (a 12, .inl (cI, 1536, .inl wd2))] s.heap := hP
  have hD : va_D A [(a 0, .inr (0, [.ref (a 1), .ref (a 7), .int (zs_b up)])), (a 1, .inr (1, [.ref (a 2), .ref (a 3), .ref (a 4), .ref (a 5), .ref (a 6)])), (a 2, .inl (cI, 24, .inl nm)), (a 3, .inl (cI, 24, .inl hi)), (a 4, .inl (cI, 24, .inl ln)), (a 5, .inl (cZ, 24, .inl op)), (a 6, .inl (cI, 1536, .inl wd)), (a 7, .inr (1, [.ref (a 8), .ref (a 9), .ref (a 10), .ref (a 11), .ref (a 12)])), (a 8, .inl (cI, 24, .inl nm2)), (a 9, .inl (cI, 24, .inl hi2)), (a 10, .inl (cI, 24, .inl ln2)), (a 11, .inl (cZ, 24, .inl op2)), (a 12, .inl (cI, 1536, .inl wd2))] := hD
  have hl := lv_entry ([.ref (a 0), .int o, .int w, .int k]) (n := 4) (Nat.le_of_ble_eq_true rfl)
  rw [lg_entry_eq]
  generalize (lg_sl ([.ref (a 0), .int o, .int w, .int k]) ++ List.replicate (4 - (lg_sl ([.ref (a 0), .int o, .int w, .int k])).length) Slot.unset).toArray = ls at hl ⊢
  have hl : lv_has ls 4 [(0, .ref (a 0)), (1, .int o), (2, .int w), (3, .int k)] := hl
  refine lv_aload_n hx hb zd_X_appendRow_0 rfl (lv_at hl 0 rfl) ?_
  refine lv_iload_n hx hb zd_X_appendRow_1 rfl (lv_at hl 1 rfl) ?_
  refine zc_rV (rest := []) [.int o] hx hb hml hown hz (zc_X_isThere l dC dI cI cZ a (up, (nm, hi, ln, op, wd), (nm2, hi2, ln2, op2, wd2)) o) zf_X_isThere rfl rfl zq_88 zq_89 zq_5 ⟨Nat.le_of_ble_eq_true rfl, Nat.le_of_ble_eq_true rfl⟩ hk (hP.sub [0, 1, 2, 3, 4, 5, 6, 7, 8, 9, 10, 11, 12] rfl) 0 0 rfl rfl rfl rfl hl.1 rfl (Nat.le_of_ble_eq_true rfl) zd_X_appendRow_2 ⟨Nat.zero_le _, Nat.zero_le _⟩ (fun r1 e2 => ?_)
  obtain rfl : r1 = zs_b (zs_is up nm o) := e2
  refine zi_eq (tgt := 34) hx hb zd_X_appendRow_5 rfl (fun h3 => ?_) (fun h3 => ?_)
  · refine lv_iconst (v := 0) hx hb zd_X_appendRow_34 (by decide) ?_
    exact zw_zret (up, (nm, hi, ln, op, wd), (nm2, hi2, ln2, op2, wd2)) hx hb hr hlocks zd_X_appendRow_35 rfl (show (0, (up, (nm, hi, ln, op, wd), (nm2, hi2, ln2, op2, wd2))) = zs_appendRow (up, (nm, hi, ln, op, wd), (nm2, hi2, ln2, op2, wd2)) o w k from by simp [zs_appendRow, zs_okr, h3]) hP hD hS
  · obtain ⟨j, hj, rfl, hup, htk⟩ := zs_is_t h3
    refine lv_aload_n hx hb zd_X_appendRow_8 rfl (lv_at hl 0 rfl) ?_
    refine va_get (D := (dC, dI)) (ci := 0) (v := .ref (a 1)) (C := "ZoneShelf") (T := zs_T_X) (N := 3) hx hb hz zs_in_X hown hk.1 hP 0 rfl rfl 0 (by decide) (hz _ zq_52) (fun _ h9 => h9) rfl zd_X_appendRow_9 ?_
    refine va_getN (D := (dC, dI)) (ci := 1) (v := .ref (a 5)) (C := "ZoneShelf$Contents") (T := zs_T_C) (N := 5) hx hb hz zs_in_C hown hk.1 hP 1 rfl rfl 3 (by decide) (va_Nw.use rfl (hk.2 _ zv_4)) (fun _ h9 => h9) rfl zd_X_appendRow_12 ?_
    refine lv_iload_n hx hb zd_X_appendRow_15 rfl (lv_at hl 1 rfl) ?_
    refine zi_zld hx hb hk hP 5 (j := j) rfl (by omega) (by decide) zd_X_appendRow_16 ?_
    refine lv_if_eq (tgt := 34) hx hb zd_X_appendRow_17 rfl (fun h4 => ?_) (fun h4 => ?_)
    · refine lv_iconst (v := 0) hx hb zd_X_appendRow_34 (by decide) ?_
      exact zw_zret (up, (nm, hi, ln, op, wd), (nm2, hi2, ln2, op2, wd2)) hx hb hr hlocks zd_X_appendRow_35 rfl (show (0, (up, (nm, hi, ln, op, wd), (nm2, hi2, ln2, op2, wd2))) = zs_appendRow (up, (nm, hi, ln, op, wd), (nm2, hi2, ln2, op2, wd2)) (nI j) w k from by simp [zs_appendRow, zs_okr, h3, nI_clamp (show j < 2 ^ 31 by omega), h4]) hP hD hS
    · refine lv_iload_n hx hb zd_X_appendRow_20 rfl (lv_at hl 3 rfl) ?_
      refine lv_iconst (v := 1) hx hb zd_X_appendRow_21 (by decide) ?_
      refine lv_icmp_lt (tgt := 34) hx hb zd_X_appendRow_22 rfl (fun h5 => ?_) (fun h5 => ?_)
      · refine lv_iconst (v := 0) hx hb zd_X_appendRow_34 (by decide) ?_
        exact zw_zret (up, (nm, hi, ln, op, wd), (nm2, hi2, ln2, op2, wd2)) hx hb hr hlocks zd_X_appendRow_35 rfl (show (0, (up, (nm, hi, ln, op, wd), (nm2, hi2, ln2, op2, wd2))) = zs_appendRow (up, (nm, hi, ln, op, wd), (nm2, hi2, ln2, op2, wd2)) (nI j) w k from by simp [zs_appendRow, zs_okr, h3, nI_clamp (show j < 2 ^ 31 by omega), h4, h5]) hP hD hS
      · refine lv_iload_n hx hb zd_X_appendRow_25 rfl (lv_at hl 3 rfl) ?_
        refine lv_aload_n hx hb zd_X_appendRow_26 rfl (lv_at hl 0 rfl) ?_
        refine lv_iload_n hx hb zd_X_appendRow_27 rfl (lv_at hl 1 rfl) ?_
        refine zc_rV (rest := [.int k]) [.int (nI j)] hx hb hml hown hz (zc_X_roomIn l dC dI cI cZ a (up, (nm, hi, ln, op, wd), (nm2, hi2, ln2, op2, wd2)) j hj) zf_X_roomIn rfl rfl zq_91 zq_92 zq_6 ⟨Nat.le_of_ble_eq_true rfl, Nat.le_of_ble_eq_true rfl⟩ hk (hP.sub [0, 1, 2, 3, 4, 5, 6, 7, 8, 9, 10, 11, 12] rfl) 0 0 rfl rfl rfl rfl hl.1 rfl (Nat.le_of_ble_eq_true rfl) zd_X_appendRow_28 ⟨Nat.zero_le _, Nat.zero_le _⟩ (fun r6 e7 => ?_)
        obtain rfl : r6 = zs_rm ln j := e7
        refine lv_icmp_le (tgt := 36) hx hb zd_X_appendRow_31 rfl (fun h8 => ?_) (fun h8 => ?_)
        · obtain ⟨q, hq6, hq⟩ := hok j hj
          obtain ⟨k, hkk, rfl⟩ := zs_fit hq hq6 h5 h8
          refine lv_aload_n hx hb zd_X_appendRow_36 rfl (lv_at hl 0 rfl) ?_
          refine va_get (D := (dC, dI)) (ci := 0) (v := .ref (a 1)) (C := "ZoneShelf") (T := zs_T_X) (N := 3) hx hb hz zs_in_X hown hk.1 hP 0 rfl rfl 0 (by decide) (hz _ zq_52) (fun _ h9 => h9) rfl zd_X_appendRow_37 ?_
          refine lv_iload_n hx hb zd_X_appendRow_40 rfl (lv_at hl 1 rfl) ?_
          refine lv_iload_n hx hb zd_X_appendRow_41 rfl (lv_at hl 2 rfl) ?_
          refine lv_iload_n hx hb zd_X_appendRow_42 rfl (lv_at hl 3 rfl) ?_
          refine zc_wN (rest := []) (wr := [(a 0, .inr (0, [.ref (a 1), .ref (a 7), .int (zs_b up)])), (a 7, .inr (1, [.ref (a 8), .ref (a 9), .ref (a 10), .ref (a 11), .ref (a 12)])), (a 8, .inl (cI, 24, .inl nm2)), (a 9, .inl (cI, 24, .inl hi2)), (a 10, .inl (cI, 24, .inl ln2)), (a 11, .inl (cZ, 24, .inl op2)), (a 12, .inl (cI, 1536, .inl wd2))]) [.int (nI j), .int w, .int (nI k)] hx hb hml hown hz (zc_C_addRow l dC dI cI cZ (a 1) (a 2) (a 3) (a 4) (a 5) (a 6) (nm, hi, ln, op, wd) s.heap.size j q k w hj hq hkk) zf_C_addRow rfl rfl zv_11 zq_99 zq_8 ⟨Nat.le_of_ble_eq_true rfl, Nat.le_of_ble_eq_true rfl⟩ hk hP hD hS hA [1, 2, 3, 4, 5, 6] [0, 7, 8, 9, 10, 11, 12] rfl rfl (by decide) (by decide) (by decide) 0 1 rfl rfl rfl rfl hl.1 rfl (Nat.le_of_ble_eq_true rfl) zd_X_appendRow_43 ⟨Nat.zero_le _, Nat.zero_le _⟩ (fun u11 H locs e10 hP hD hS => ?_)
          obtain rfl : u11 = (nm, hi, upd ln j (nI (q + k)), op, zs_row wd (j * 64 + q) w k) := e10
          have hP : va_P (dC, dI) zs_cl [(a 0, .inr (0, [.ref (a 1), .ref (a 7), .int (zs_b up)])), (a 7, .inr (1, [.ref (a 8), .ref (a 9), .ref (a 10), .ref (a 11), .ref (a 12)])), (a 8, .inl (cI, 24, .inl nm2)), (a 9, .inl (cI, 24, .inl hi2)), (a 10, .inl (cI, 24, .inl ln2)), (a 11, .inl (cZ, 24, .inl op2)), (a 12, .inl (cI, 1536, .inl wd2)), (a 1, .inr (1, [.ref (a 2), .ref (a 3), .ref (a 4), .ref (a 5), .ref (a 6)])), (a 2, .inl (cI, 24, .inl nm)), (a 3, .inl (cI, 24, .inl hi)), (a 4, .inl (cI, 24, .inl (upd ln j (nI (q + k))))), (a 5, .inl (cZ, 24, .inl op)), (a 6, .inl (cI, 1536, .inl (zs_row wd (j * 64 + q) w k)))] H := hP
          have hD : va_D A [(a 0, .inr (0, [.ref (a 1), .ref (a 7), .int (zs_b up)])), (a 7, .inr (1, [.ref (a 8), .ref (a 9), .ref (a 10), .ref (a 11), .ref (a 12)])), (a 8, .inl (cI, 24, .inl nm2)), (a 9, .inl (cI, 24, .inl hi2)), (a 10, .inl (cI, 24, .inl ln2)), (a 11, .inl (cZ, 24, .inl op2)), (a 12, .inl (cI, 1536, .inl wd2)), (a 1, .inr (1, [.ref (a 2), .ref (a 3), .ref (a 4), .ref (a 5), .ref (a 6)])), (a 2, .inl (cI, 24, .inl nm)), (a 3, .inl (cI, 24, .inl hi)), (a 4, .inl (cI, 24, .inl (upd ln j (nI (q + k))))), (a 5, .inl (cZ, 24, .inl op)), (a 6, .inl (cI, 1536, .inl (zs_row wd (j * 64 + q) w k)))] := hD
          refine lv_iconst (v := 1) hx hb zd_X_appendRow_46 (by decide) ?_
          exact zw_zret (up, (nm, hi, upd ln j (nI (q + k)), op, zs_row wd (j * 64 + q) w k), (nm2, hi2, ln2, op2, wd2)) hx hb hr hlocks zd_X_appendRow_47 rfl (show (1, (up, (nm, hi, upd ln j (nI (q + k)), op, zs_row wd (j * 64 + q) w k), (nm2, hi2, ln2, op2, wd2))) = zs_appendRow (up, (nm, hi, ln, op, wd), (nm2, hi2, ln2, op2, wd2)) (nI j) w (nI k) from by simp [zs_appendRow, zs_okr, h3, nI_clamp (show j < 2 ^ 31 by omega), h4, h5, h8, hq, nI_clamp (show q < 2 ^ 31 by omega), nI_clamp (show k < 2 ^ 31 by omega)]) (hP.sub [0, 7, 8, 9, 10, 11, 12, 1, 2, 3, 4, 5, 6] rfl) (hD.sub [0, 7, 8, 9, 10, 11, 12, 1, 2, 3, 4, 5, 6] (by decide) rfl) hS
        · refine lv_iconst (v := 0) hx hb zd_X_appendRow_34 (by decide) ?_
          exact zw_zret (up, (nm, hi, ln, op, wd), (nm2, hi2, ln2, op2, wd2)) hx hb hr hlocks zd_X_appendRow_35 rfl (show (0, (up, (nm, hi, ln, op, wd), (nm2, hi2, ln2, op2, wd2))) = zs_appendRow (up, (nm, hi, ln, op, wd), (nm2, hi2, ln2, op2, wd2)) (nI j) w k from by simp [zs_appendRow, zs_okr, h3, nI_clamp (show j < 2 ^ 31 by omega), h4, h5, h8]) hP hD hS
set_option maxHeartbeats 4000000 in
set_option maxRecDepth 100000 in
theorem zc_X_open (l : Launch) (dC : Nat → ClassId) (dI : Nat → Nat → Nat) (cI cZ : ClassId) (a : Nat → Nat) (u : zs_X) (sz : Nat) (o b : Int32) : Met l zy_X_open (.code zy_X_open zb_X_open 3 (some .boolean) :: zs_w) ({ frames := 2, cells := 0, slots := 0, locals := 42 }) (va_Pc [.ref (a 0), .int o, .int b] (zs_s dC dI cI cZ sz (zs_wX cI cZ a u))) (va_Qi (fun r (v : zs_X) => (r, v) = zs_open u o b) (zs_e dC dI (zs_wX cI cZ a) (va_A (zs_wX cI cZ a u) sz)) (va_A (zs_wX cI cZ a u) sz)) 0 0 (va_A (zs_wX cI cZ a u) sz) := by
  obtain ⟨up, ⟨nm, hi, ln, op, wd⟩, ⟨nm2, hi2, ln2, op2, wd2⟩⟩ := u
  refine Met.ofW (cc := zb_X_open) (maxL := 3) (ret := (some .boolean)) (by decide) rfl ?_
  intro p e s m args below meth c s₁ B hml hv
  obtain ⟨rfl, hsz, hP, hk, hD0⟩ := hv
  have hx := B.exec
  have hb := B.bytes
  have hr := B.returns
  have hts := atoms_spec (ws := .code zy_X_open zb_X_open 3 (some .boolean) :: zs_w) B.pre
  have hz : ∀ w ∈ zs_w, w.before _ s = true := fun w h => hts w (List.mem_cons_of_mem _ h)
  have hown : s.vm.findClass "ZoneShelf" = some m.cls := findClass_of_methodNamed B.named
  have hlocks := B.notSynchronized
  subst hsz
  have hD := hD0.self (sz := s.heap.size)
  generalize hAe : va_A (zs_wX cI cZ a (up, (nm, hi, ln, op, wd), (nm2, hi2, ln2, op2, wd2))) s.heap.size = A at hD ⊢
  have hA : ∀ q : Nat, s.heap.size ≤ q → A q := fun q h => by rw [← hAe]; exact Or.inr h
  have hS : va_S A s.heap s.heap [] := va_S.rf
  have hP : va_P (dC, dI) zs_cl [(a 0, .inr (0, [.ref (a 1), .ref (a 7), .int (zs_b up)])), (a 1, .inr (1, [.ref (a 2), .ref (a 3), .ref (a 4), .ref (a 5), .ref (a 6)])), (a 2, .inl (cI, 24, .inl nm)), (a 3, .inl (cI, 24, .inl hi)), (a 4, .inl (cI, 24, .inl ln)), (a 5, .inl (cZ, 24, .inl op)), (a 6, .inl (cI, 1536, .inl wd)), (a 7, .inr (1, [.ref (a 8), .ref (a 9), .ref (a 10), .ref (a 11), .ref (a 12)])), (a 8, .inl (cI, 24, .inl nm2)), (a 9, .inl (cI, 24, .inl hi2)), (a 10, .inl (cI, 24, .inl ln2)), (a 11, .inl (cZ, 24, .inl op2)), (a 12, .inl (cI, 1536, .inl wd2))] s.heap := hP
  have hD : va_D A [(a 0, .inr (0, [.ref (a 1), .ref (a 7), .int (zs_b up)])), (a 1, .inr (1, [.ref (a 2), .ref (a 3), .ref (a 4), .ref (a 5), .ref (a 6)])), (a 2, .inl (cI, 24, .inl nm)), (a 3, .inl (cI, 24, .inl hi)), (a 4, .inl (cI, 24, .inl ln)), (a 5, .inl (cZ, 24, .inl op)), (a 6, .inl (cI, 1536, .inl wd)), (a 7, .inr (1, [.ref (a 8), .ref (a 9), .ref (a 10), .ref (a 11), .ref (a 12)])), (a 8, .inl (cI, 24, .inl nm2)), (a 9, .inl (cI, 24, .inl hi2)), (a 10, .inl (cI, 24, .inl ln2)), (a 11, .inl (cZ, 24, .inl op2)), (a 12, .inl (cI, 1536, .inl wd2))] := hD
  have hl := lv_entry ([.ref (a 0), .int o, .int b]) (n := 3) (Nat.le_of_ble_eq_true rfl)
  rw [lg_entry_eq]
  generalize (lg_sl ([.ref (a 0), .int o, .int b]) ++ List.replicate (3 - (lg_sl ([.ref (a 0), .int o, .int b])).length) Slot.unset).toArray = ls at hl ⊢
  have hl : lv_has ls 3 [(0, .ref (a 0)), (1, .int o), (2, .int b)] := hl
  refine lv_aload_n hx hb zd_X_open_0 rfl (lv_at hl 0 rfl) ?_
  refine lv_iload_n hx hb zd_X_open_1 rfl (lv_at hl 1 rfl) ?_
  refine zc_rV (rest := []) [.int o] hx hb hml hown hz (zc_X_isThere l dC dI cI cZ a (up, (nm, hi, ln, op, wd), (nm2, hi2, ln2, op2, wd2)) o) zf_X_isThere rfl rfl zq_88 zq_89 zq_5 ⟨Nat.le_of_ble_eq_true rfl, Nat.le_of_ble_eq_true rfl⟩ hk (hP.sub [0, 1, 2, 3, 4, 5, 6, 7, 8, 9, 10, 11, 12] rfl) 0 0 rfl rfl rfl rfl hl.1 rfl (Nat.le_of_ble_eq_true rfl) zd_X_open_2 ⟨Nat.zero_le _, Nat.zero_le _⟩ (fun r1 e2 => ?_)
  obtain rfl : r1 = zs_b (zs_is up nm o) := e2
  refine zi_ne (tgt := 10) hx hb zd_X_open_5 rfl (fun h3 => ?_) (fun h3 => ?_)
  · obtain ⟨j, hj, rfl, hup, htk⟩ := zs_is_t h3
    refine lv_aload_n hx hb zd_X_open_10 rfl (lv_at hl 0 rfl) ?_
    refine va_get (D := (dC, dI)) (ci := 0) (v := .ref (a 1)) (C := "ZoneShelf") (T := zs_T_X) (N := 3) hx hb hz zs_in_X hown hk.1 hP 0 rfl rfl 0 (by decide) (hz _ zq_52) (fun _ h9 => h9) rfl zd_X_open_11 ?_
    refine va_getN (D := (dC, dI)) (ci := 1) (v := .ref (a 5)) (C := "ZoneShelf$Contents") (T := zs_T_C) (N := 5) hx hb hz zs_in_C hown hk.1 hP 1 rfl rfl 3 (by decide) (va_Nw.use rfl (hk.2 _ zv_4)) (fun _ h9 => h9) rfl zd_X_open_14 ?_
    refine lv_iload_n hx hb zd_X_open_17 rfl (lv_at hl 1 rfl) ?_
    refine lv_iload_n hx hb zd_X_open_18 rfl (lv_at hl 2 rfl) ?_
    refine zi_zst hx hb hk hP hD hS 5 (j := j) rfl (by omega) (by decide) zd_X_open_19 (fun H locs hP hD hS => ?_)
    have hP : va_P (dC, dI) zs_cl [(a 0, .inr (0, [.ref (a 1), .ref (a 7), .int (zs_b up)])), (a 1, .inr (1, [.ref (a 2), .ref (a 3), .ref (a 4), .ref (a 5), .ref (a 6)])), (a 2, .inl (cI, 24, .inl nm)), (a 3, .inl (cI, 24, .inl hi)), (a 4, .inl (cI, 24, .inl ln)), (a 5, .inl (cZ, 24, .inl (upd op j (vp_nar .boolean b)))), (a 6, .inl (cI, 1536, .inl wd)), (a 7, .inr (1, [.ref (a 8), .ref (a 9), .ref (a 10), .ref (a 11), .ref (a 12)])), (a 8, .inl (cI, 24, .inl nm2)), (a 9, .inl (cI, 24, .inl hi2)), (a 10, .inl (cI, 24, .inl ln2)), (a 11, .inl (cZ, 24, .inl op2)), (a 12, .inl (cI, 1536, .inl wd2))] H := hP
    have hD : va_D A [(a 0, .inr (0, [.ref (a 1), .ref (a 7), .int (zs_b up)])), (a 1, .inr (1, [.ref (a 2), .ref (a 3), .ref (a 4), .ref (a 5), .ref (a 6)])), (a 2, .inl (cI, 24, .inl nm)), (a 3, .inl (cI, 24, .inl hi)), (a 4, .inl (cI, 24, .inl ln)), (a 5, .inl (cZ, 24, .inl (upd op j (vp_nar .boolean b)))), (a 6, .inl (cI, 1536, .inl wd)), (a 7, .inr (1, [.ref (a 8), .ref (a 9), .ref (a 10), .ref (a 11), .ref (a 12)])), (a 8, .inl (cI, 24, .inl nm2)), (a 9, .inl (cI, 24, .inl hi2)), (a 10, .inl (cI, 24, .inl ln2)), (a 11, .inl (cZ, 24, .inl op2)), (a 12, .inl (cI, 1536, .inl wd2))] := hD
    refine lv_iconst (v := 1) hx hb zd_X_open_20 (by decide) ?_
    exact zw_zret (up, (nm, hi, ln, upd op j (vp_nar .boolean b), wd), (nm2, hi2, ln2, op2, wd2)) hx hb hr hlocks zd_X_open_21 rfl (show (1, (up, (nm, hi, ln, upd op j (vp_nar .boolean b), wd), (nm2, hi2, ln2, op2, wd2))) = zs_open (up, (nm, hi, ln, op, wd), (nm2, hi2, ln2, op2, wd2)) (nI j) b from by simp [zs_open, h3, nI_clamp (show j < 2 ^ 31 by omega)]) hP hD hS
  · refine lv_iconst (v := 0) hx hb zd_X_open_8 (by decide) ?_
    exact zw_zret (up, (nm, hi, ln, op, wd), (nm2, hi2, ln2, op2, wd2)) hx hb hr hlocks zd_X_open_9 rfl (show (0, (up, (nm, hi, ln, op, wd), (nm2, hi2, ln2, op2, wd2))) = zs_open (up, (nm, hi, ln, op, wd), (nm2, hi2, ln2, op2, wd2)) o b from by simp [zs_open, h3]) hP hD hS
set_option maxHeartbeats 4000000 in
set_option maxRecDepth 100000 in
theorem zc_X_remove (l : Launch) (dC : Nat → ClassId) (dI : Nat → Nat → Nat) (cI cZ : ClassId) (a : Nat → Nat) (u : zs_X) (sz : Nat) (o : Int32) : Met l zy_X_remove (.code zy_X_remove zb_X_remove 2 (some .boolean) :: zs_w) ({ frames := 2, cells := 0, slots := 0, locals := 42 }) (va_Pc [.ref (a 0), .int o] (zs_s dC dI cI cZ sz (zs_wX cI cZ a u))) (va_Qi (fun r (v : zs_X) => (r, v) = zs_remove u o) (zs_e dC dI (zs_wX cI cZ a) (va_A (zs_wX cI cZ a u) sz)) (va_A (zs_wX cI cZ a u) sz)) 0 0 (va_A (zs_wX cI cZ a u) sz) := by
  obtain ⟨up, ⟨nm, hi, ln, op, wd⟩, ⟨nm2, hi2, ln2, op2, wd2⟩⟩ := u
  refine Met.ofW (cc := zb_X_remove) (maxL := 2) (ret := (some .boolean)) (by decide) rfl ?_
  intro p e s m args below meth c s₁ B hml hv
  obtain ⟨rfl, hsz, hP, hk, hD0⟩ := hv
  have hx := B.exec
  have hb := B.bytes
  have hr := B.returns
  have hts := atoms_spec (ws := .code zy_X_remove zb_X_remove 2 (some .boolean) :: zs_w) B.pre
  have hz : ∀ w ∈ zs_w, w.before _ s = true := fun w h => hts w (List.mem_cons_of_mem _ h)
  have hown : s.vm.findClass "ZoneShelf" = some m.cls := findClass_of_methodNamed B.named
  have hlocks := B.notSynchronized
  subst hsz
  have hD := hD0.self (sz := s.heap.size)
  generalize hAe : va_A (zs_wX cI cZ a (up, (nm, hi, ln, op, wd), (nm2, hi2, ln2, op2, wd2))) s.heap.size = A at hD ⊢
  have hA : ∀ q : Nat, s.heap.size ≤ q → A q := fun q h => by rw [← hAe]; exact Or.inr h
  have hS : va_S A s.heap s.heap [] := va_S.rf
  have hP : va_P (dC, dI) zs_cl [(a 0, .inr (0, [.ref (a 1), .ref (a 7), .int (zs_b up)])), (a 1, .inr (1, [.ref (a 2), .ref (a 3), .ref (a 4), .ref (a 5), .ref (a 6)])), (a 2, .inl (cI, 24, .inl nm)), (a 3, .inl (cI, 24, .inl hi)), (a 4, .inl (cI, 24, .inl ln)), (a 5, .inl (cZ, 24, .inl op)), (a 6, .inl (cI, 1536, .inl wd)), (a 7, .inr (1, [.ref (a 8), .ref (a 9), .ref (a 10), .ref (a 11), .ref (a 12)])), (a 8, .inl (cI, 24, .inl nm2)), (a 9, .inl (cI, 24, .inl hi2)), (a 10, .inl (cI, 24, .inl ln2)), (a 11, .inl (cZ, 24, .inl op2)), (a 12, .inl (cI, 1536, .inl wd2))] s.heap := hP
  have hD : va_D A [(a 0, .inr (0, [.ref (a 1), .ref (a 7), .int (zs_b up)])), (a 1, .inr (1, [.ref (a 2), .ref (a 3), .ref (a 4), .ref (a 5), .ref (a 6)])), (a 2, .inl (cI, 24, .inl nm)), (a 3, .inl (cI, 24, .inl hi)), (a 4, .inl (cI, 24, .inl ln)), (a 5, .inl (cZ, 24, .inl op)), (a 6, .inl (cI, 1536, .inl wd)), (a 7, .inr (1, [.ref (a 8), .ref (a 9), .ref (a 10), .ref (a 11), .ref (a 12)])), (a 8, .inl (cI, 24, .inl nm2)), (a 9, .inl (cI, 24, .inl hi2)), (a 10, .inl (cI, 24, .inl ln2)), (a 11, .inl (cZ, 24, .inl op2)), (a 12, .inl (cI, 1536, .inl wd2))] := hD
  have hl := lv_entry ([.ref (a 0), .int o]) (n := 2) (Nat.le_of_ble_eq_true rfl)
  rw [lg_entry_eq]
  generalize (lg_sl ([.ref (a 0), .int o]) ++ List.replicate (2 - (lg_sl ([.ref (a 0), .int o])).length) Slot.unset).toArray = ls at hl ⊢
  have hl : lv_has ls 2 [(0, .ref (a 0)), (1, .int o)] := hl
  refine lv_aload_n hx hb zd_X_remove_0 rfl (lv_at hl 0 rfl) ?_
  refine lv_iload_n hx hb zd_X_remove_1 rfl (lv_at hl 1 rfl) ?_
  refine zc_rV (rest := []) [.int o] hx hb hml hown hz (zc_X_isThere l dC dI cI cZ a (up, (nm, hi, ln, op, wd), (nm2, hi2, ln2, op2, wd2)) o) zf_X_isThere rfl rfl zq_88 zq_89 zq_5 ⟨Nat.le_of_ble_eq_true rfl, Nat.le_of_ble_eq_true rfl⟩ hk (hP.sub [0, 1, 2, 3, 4, 5, 6, 7, 8, 9, 10, 11, 12] rfl) 0 0 rfl rfl rfl rfl hl.1 rfl (Nat.le_of_ble_eq_true rfl) zd_X_remove_2 ⟨Nat.zero_le _, Nat.zero_le _⟩ (fun r1 e2 => ?_)
  obtain rfl : r1 = zs_b (zs_is up nm o) := e2
  refine zi_ne (tgt := 10) hx hb zd_X_remove_5 rfl (fun h3 => ?_) (fun h3 => ?_)
  · obtain ⟨j, hj, rfl, hup, htk⟩ := zs_is_t h3
    refine lv_aload_n hx hb zd_X_remove_10 rfl (lv_at hl 0 rfl) ?_
    refine va_get (D := (dC, dI)) (ci := 0) (v := .ref (a 1)) (C := "ZoneShelf") (T := zs_T_X) (N := 3) hx hb hz zs_in_X hown hk.1 hP 0 rfl rfl 0 (by decide) (hz _ zq_52) (fun _ h9 => h9) rfl zd_X_remove_11 ?_
    refine lv_iload_n hx hb zd_X_remove_14 rfl (lv_at hl 1 rfl) ?_
    refine zc_wN (rest := []) (wr := [(a 0, .inr (0, [.ref (a 1), .ref (a 7), .int (zs_b up)])), (a 7, .inr (1, [.ref (a 8), .ref (a 9), .ref (a 10), .ref (a 11), .ref (a 12)])), (a 8, .inl (cI, 24, .inl nm2)), (a 9, .inl (cI, 24, .inl hi2)), (a 10, .inl (cI, 24, .inl ln2)), (a 11, .inl (cZ, 24, .inl op2)), (a 12, .inl (cI, 1536, .inl wd2))]) [.int (nI j)] hx hb hml hown hz (zc_C_takeAway l dC dI cI cZ (a 1) (a 2) (a 3) (a 4) (a 5) (a 6) (nm, hi, ln, op, wd) s.heap.size j hj) zf_C_takeAway rfl rfl zv_12 zq_110 zq_9 ⟨Nat.le_of_ble_eq_true rfl, Nat.le_of_ble_eq_true rfl⟩ hk hP hD hS hA [1, 2, 3, 4, 5, 6] [0, 7, 8, 9, 10, 11, 12] rfl rfl (by decide) (by decide) (by decide) 0 1 rfl rfl rfl rfl hl.1 rfl (Nat.le_of_ble_eq_true rfl) zd_X_remove_15 ⟨Nat.zero_le _, Nat.zero_le _⟩ (fun u6 H locs e5 hP hD hS => ?_)
    obtain rfl : u6 = (upd nm j (-1), hi, upd ln j 0, op, wd) := e5
    have hP : va_P (dC, dI) zs_cl [(a 0, .inr (0, [.ref (a 1), .ref (a 7), .int (zs_b up)])), (a 7, .inr (1, [.ref (a 8), .ref (a 9), .ref (a 10), .ref (a 11), .ref (a 12)])), (a 8, .inl (cI, 24, .inl nm2)), (a 9, .inl (cI, 24, .inl hi2)), (a 10, .inl (cI, 24, .inl ln2)), (a 11, .inl (cZ, 24, .inl op2)), (a 12, .inl (cI, 1536, .inl wd2)), (a 1, .inr (1, [.ref (a 2), .ref (a 3), .ref (a 4), .ref (a 5), .ref (a 6)])), (a 2, .inl (cI, 24, .inl (upd nm j (-1)))), (a 3, .inl (cI, 24, .inl hi)), (a 4, .inl (cI, 24, .inl (upd ln j 0))), (a 5, .inl (cZ, 24, .inl op)), (a 6, .inl (cI, 1536, .inl wd))] H := hP
    have hD : va_D A [(a 0, .inr (0, [.ref (a 1), .ref (a 7), .int (zs_b up)])), (a 7, .inr (1, [.ref (a 8), .ref (a 9), .ref (a 10), .ref (a 11), .ref (a 12)])), (a 8, .inl (cI, 24, .inl nm2)), (a 9, .inl (cI, 24, .inl hi2)), (a 10, .inl (cI, 24, .inl ln2)), (a 11, .inl (cZ, 24, .inl op2)), (a 12, .inl (cI, 1536, .inl wd2)), (a 1, .inr (1, [.ref (a 2), .ref (a 3), .ref (a 4), .ref (a 5), .ref (a 6)])), (a 2, .inl (cI, 24, .inl (upd nm j (-1)))), (a 3, .inl (cI, 24, .inl hi)), (a 4, .inl (cI, 24, .inl (upd ln j 0))), (a 5, .inl (cZ, 24, .inl op)), (a 6, .inl (cI, 1536, .inl wd))] := hD
    refine lv_iconst (v := 1) hx hb zd_X_remove_18 (by decide) ?_
    exact zw_zret (up, (upd nm j (-1), hi, upd ln j 0, op, wd), (nm2, hi2, ln2, op2, wd2)) hx hb hr hlocks zd_X_remove_19 rfl (show (1, (up, (upd nm j (-1), hi, upd ln j 0, op, wd), (nm2, hi2, ln2, op2, wd2))) = zs_remove (up, (nm, hi, ln, op, wd), (nm2, hi2, ln2, op2, wd2)) (nI j)  from by simp [zs_remove, h3, nI_clamp (show j < 2 ^ 31 by omega)]) (hP.sub [0, 7, 8, 9, 10, 11, 12, 1, 2, 3, 4, 5, 6] rfl) (hD.sub [0, 7, 8, 9, 10, 11, 12, 1, 2, 3, 4, 5, 6] (by decide) rfl) hS
  · refine lv_iconst (v := 0) hx hb zd_X_remove_8 (by decide) ?_
    exact zw_zret (up, (nm, hi, ln, op, wd), (nm2, hi2, ln2, op2, wd2)) hx hb hr hlocks zd_X_remove_9 rfl (show (0, (up, (nm, hi, ln, op, wd), (nm2, hi2, ln2, op2, wd2))) = zs_remove (up, (nm, hi, ln, op, wd), (nm2, hi2, ln2, op2, wd2)) o  from by simp [zs_remove, h3]) hP hD hS
set_option maxHeartbeats 4000000 in
set_option maxRecDepth 100000 in
theorem zc_X_rename (l : Launch) (dC : Nat → ClassId) (dI : Nat → Nat → Nat) (cI cZ : ClassId) (a : Nat → Nat) (u : zs_X) (sz : Nat) (o n : Int32) : Met l zy_X_rename (.code zy_X_rename zb_X_rename 3 (some .boolean) :: zs_w) ({ frames := 2, cells := 0, slots := 0, locals := 43 }) (va_Pc [.ref (a 0), .int o, .int n] (zs_s dC dI cI cZ sz (zs_wX cI cZ a u))) (va_Qi (fun r (v : zs_X) => (r, v) = zs_rename u o n) (zs_e dC dI (zs_wX cI cZ a) (va_A (zs_wX cI cZ a u) sz)) (va_A (zs_wX cI cZ a u) sz)) 0 0 (va_A (zs_wX cI cZ a u) sz) := by
  obtain ⟨up, ⟨nm, hi, ln, op, wd⟩, ⟨nm2, hi2, ln2, op2, wd2⟩⟩ := u
  refine Met.ofW (cc := zb_X_rename) (maxL := 3) (ret := (some .boolean)) (by decide) rfl ?_
  intro p e s m args below meth c s₁ B hml hv
  obtain ⟨rfl, hsz, hP, hk, hD0⟩ := hv
  have hx := B.exec
  have hb := B.bytes
  have hr := B.returns
  have hts := atoms_spec (ws := .code zy_X_rename zb_X_rename 3 (some .boolean) :: zs_w) B.pre
  have hz : ∀ w ∈ zs_w, w.before _ s = true := fun w h => hts w (List.mem_cons_of_mem _ h)
  have hown : s.vm.findClass "ZoneShelf" = some m.cls := findClass_of_methodNamed B.named
  have hlocks := B.notSynchronized
  subst hsz
  have hD := hD0.self (sz := s.heap.size)
  generalize hAe : va_A (zs_wX cI cZ a (up, (nm, hi, ln, op, wd), (nm2, hi2, ln2, op2, wd2))) s.heap.size = A at hD ⊢
  have hA : ∀ q : Nat, s.heap.size ≤ q → A q := fun q h => by rw [← hAe]; exact Or.inr h
  have hS : va_S A s.heap s.heap [] := va_S.rf
  have hP : va_P (dC, dI) zs_cl [(a 0, .inr (0, [.ref (a 1), .ref (a 7), .int (zs_b up)])), (a 1, .inr (1, [.ref (a 2), .ref (a 3), .ref (a 4), .ref (a 5), .ref (a 6)])), (a 2, .inl (cI, 24, .inl nm)), (a 3, .inl (cI, 24, .inl hi)), (a 4, .inl (cI, 24, .inl ln)), (a 5, .inl (cZ, 24, .inl op)), (a 6, .inl (cI, 1536, .inl wd)), (a 7, .inr (1, [.ref (a 8), .ref (a 9), .ref (a 10), .ref (a 11), .ref (a 12)])), (a 8, .inl (cI, 24, .inl nm2)), (a 9, .inl (cI, 24, .inl hi2)), (a 10, .inl (cI, 24, .inl ln2)), (a 11, .inl (cZ, 24, .inl op2)), (a 12, .inl (cI, 1536, .inl wd2))] s.heap := hP
  have hD : va_D A [(a 0, .inr (0, [.ref (a 1), .ref (a 7), .int (zs_b up)])), (a 1, .inr (1, [.ref (a 2), .ref (a 3), .ref (a 4), .ref (a 5), .ref (a 6)])), (a 2, .inl (cI, 24, .inl nm)), (a 3, .inl (cI, 24, .inl hi)), (a 4, .inl (cI, 24, .inl ln)), (a 5, .inl (cZ, 24, .inl op)), (a 6, .inl (cI, 1536, .inl wd)), (a 7, .inr (1, [.ref (a 8), .ref (a 9), .ref (a 10), .ref (a 11), .ref (a 12)])), (a 8, .inl (cI, 24, .inl nm2)), (a 9, .inl (cI, 24, .inl hi2)), (a 10, .inl (cI, 24, .inl ln2)), (a 11, .inl (cZ, 24, .inl op2)), (a 12, .inl (cI, 1536, .inl wd2))] := hD
  have hl := lv_entry ([.ref (a 0), .int o, .int n]) (n := 3) (Nat.le_of_ble_eq_true rfl)
  rw [lg_entry_eq]
  generalize (lg_sl ([.ref (a 0), .int o, .int n]) ++ List.replicate (3 - (lg_sl ([.ref (a 0), .int o, .int n])).length) Slot.unset).toArray = ls at hl ⊢
  have hl : lv_has ls 3 [(0, .ref (a 0)), (1, .int o), (2, .int n)] := hl
  refine lv_aload_n hx hb zd_X_rename_0 rfl (lv_at hl 0 rfl) ?_
  refine lv_iload_n hx hb zd_X_rename_1 rfl (lv_at hl 1 rfl) ?_
  refine zc_rV (rest := []) [.int o] hx hb hml hown hz (zc_X_isThere l dC dI cI cZ a (up, (nm, hi, ln, op, wd), (nm2, hi2, ln2, op2, wd2)) o) zf_X_isThere rfl rfl zq_88 zq_89 zq_5 ⟨Nat.le_of_ble_eq_true rfl, Nat.le_of_ble_eq_true rfl⟩ hk (hP.sub [0, 1, 2, 3, 4, 5, 6, 7, 8, 9, 10, 11, 12] rfl) 0 0 rfl rfl rfl rfl hl.1 rfl (Nat.le_of_ble_eq_true rfl) zd_X_rename_2 ⟨Nat.zero_le _, Nat.zero_le _⟩ (fun r1 e2 => ?_)
  obtain rfl : r1 = zs_b (zs_is up nm o) := e2
  refine zi_eq (tgt := 16) hx hb zd_X_rename_5 rfl (fun h3 => ?_) (fun h3 => ?_)
  · refine lv_iconst (v := 0) hx hb zd_X_rename_16 (by decide) ?_
    exact zw_zret (up, (nm, hi, ln, op, wd), (nm2, hi2, ln2, op2, wd2)) hx hb hr hlocks zd_X_rename_17 rfl (show (0, (up, (nm, hi, ln, op, wd), (nm2, hi2, ln2, op2, wd2))) = zs_rename (up, (nm, hi, ln, op, wd), (nm2, hi2, ln2, op2, wd2)) o n from by simp [zs_rename, h3]) hP hD hS
  · obtain ⟨j, hj, rfl, hup, htk⟩ := zs_is_t h3
    refine lv_aload_n hx hb zd_X_rename_8 rfl (lv_at hl 0 rfl) ?_
    refine lv_iload_n hx hb zd_X_rename_9 rfl (lv_at hl 2 rfl) ?_
    refine zc_rV (rest := []) [.int n] hx hb hml hown hz (zc_X_isFreeName l dC dI cI cZ a (up, (nm, hi, ln, op, wd), (nm2, hi2, ln2, op2, wd2)) n) zf_X_isFreeName rfl rfl zq_62 zq_63 zq_0 ⟨Nat.le_of_ble_eq_true rfl, Nat.le_of_ble_eq_true rfl⟩ hk (hP.sub [0, 1, 2, 3, 4, 5, 6, 7, 8, 9, 10, 11, 12] rfl) 0 0 rfl rfl rfl rfl hl.1 rfl (Nat.le_of_ble_eq_true rfl) zd_X_rename_10 ⟨Nat.zero_le _, Nat.zero_le _⟩ (fun r4 e5 => ?_)
    obtain rfl : r4 = zs_b (zs_fr nm n) := e5
    refine zi_ne (tgt := 18) hx hb zd_X_rename_13 rfl (fun h6 => ?_) (fun h6 => ?_)
    · refine lv_aload_n hx hb zd_X_rename_18 rfl (lv_at hl 0 rfl) ?_
      refine va_get (D := (dC, dI)) (ci := 0) (v := .ref (a 1)) (C := "ZoneShelf") (T := zs_T_X) (N := 3) hx hb hz zs_in_X hown hk.1 hP 0 rfl rfl 0 (by decide) (hz _ zq_52) (fun _ h9 => h9) rfl zd_X_rename_19 ?_
      refine va_getN (D := (dC, dI)) (ci := 1) (v := .ref (a 2)) (C := "ZoneShelf$Contents") (T := zs_T_C) (N := 5) hx hb hz zs_in_C hown hk.1 hP 1 rfl rfl 0 (by decide) (va_Nw.use rfl (hk.2 _ zv_1)) (fun _ h9 => h9) rfl zd_X_rename_22 ?_
      refine lv_iload_n hx hb zd_X_rename_25 rfl (lv_at hl 1 rfl) ?_
      refine lv_iload_n hx hb zd_X_rename_26 rfl (lv_at hl 2 rfl) ?_
      refine zi_ast hx hb hk hP hD hS 2 (j := j) rfl (by omega) (by decide) zd_X_rename_27 (fun H locs hP hD hS => ?_)
      have hP : va_P (dC, dI) zs_cl [(a 0, .inr (0, [.ref (a 1), .ref (a 7), .int (zs_b up)])), (a 1, .inr (1, [.ref (a 2), .ref (a 3), .ref (a 4), .ref (a 5), .ref (a 6)])), (a 2, .inl (cI, 24, .inl (upd nm j n))), (a 3, .inl (cI, 24, .inl hi)), (a 4, .inl (cI, 24, .inl ln)), (a 5, .inl (cZ, 24, .inl op)), (a 6, .inl (cI, 1536, .inl wd)), (a 7, .inr (1, [.ref (a 8), .ref (a 9), .ref (a 10), .ref (a 11), .ref (a 12)])), (a 8, .inl (cI, 24, .inl nm2)), (a 9, .inl (cI, 24, .inl hi2)), (a 10, .inl (cI, 24, .inl ln2)), (a 11, .inl (cZ, 24, .inl op2)), (a 12, .inl (cI, 1536, .inl wd2))] H := hP
      have hD : va_D A [(a 0, .inr (0, [.ref (a 1), .ref (a 7), .int (zs_b up)])), (a 1, .inr (1, [.ref (a 2), .ref (a 3), .ref (a 4), .ref (a 5), .ref (a 6)])), (a 2, .inl (cI, 24, .inl (upd nm j n))), (a 3, .inl (cI, 24, .inl hi)), (a 4, .inl (cI, 24, .inl ln)), (a 5, .inl (cZ, 24, .inl op)), (a 6, .inl (cI, 1536, .inl wd)), (a 7, .inr (1, [.ref (a 8), .ref (a 9), .ref (a 10), .ref (a 11), .ref (a 12)])), (a 8, .inl (cI, 24, .inl nm2)), (a 9, .inl (cI, 24, .inl hi2)), (a 10, .inl (cI, 24, .inl ln2)), (a 11, .inl (cZ, 24, .inl op2)), (a 12, .inl (cI, 1536, .inl wd2))] := hD
      refine lv_iconst (v := 1) hx hb zd_X_rename_28 (by decide) ?_
      exact zw_zret (up, (upd nm j n, hi, ln, op, wd), (nm2, hi2, ln2, op2, wd2)) hx hb hr hlocks zd_X_rename_29 rfl (show (1, (up, (upd nm j n, hi, ln, op, wd), (nm2, hi2, ln2, op2, wd2))) = zs_rename (up, (nm, hi, ln, op, wd), (nm2, hi2, ln2, op2, wd2)) (nI j) n from by simp [zs_rename, h3, nI_clamp (show j < 2 ^ 31 by omega), h6]) hP hD hS
    · refine lv_iconst (v := 0) hx hb zd_X_rename_16 (by decide) ?_
      exact zw_zret (up, (nm, hi, ln, op, wd), (nm2, hi2, ln2, op2, wd2)) hx hb hr hlocks zd_X_rename_17 rfl (show (0, (up, (nm, hi, ln, op, wd), (nm2, hi2, ln2, op2, wd2))) = zs_rename (up, (nm, hi, ln, op, wd), (nm2, hi2, ln2, op2, wd2)) (nI j) n from by simp [zs_rename, h3, nI_clamp (show j < 2 ^ 31 by omega), h6]) hP hD hS
set_option maxHeartbeats 4000000 in
set_option maxRecDepth 100000 in
theorem zc_X_sync (l : Launch) (dC : Nat → ClassId) (dI : Nat → Nat → Nat) (cI cZ : ClassId) (a : Nat → Nat) (u : zs_X) (sz : Nat)  : Met l zy_X_sync (.code zy_X_sync zb_X_sync 1 (some .boolean) :: zs_w) ({ frames := 2, cells := 0, slots := 0, locals := 48 }) (va_Pc [.ref (a 0)] (zs_s dC dI cI cZ sz (zs_wX cI cZ a u))) (va_Qi (fun r (v : zs_X) => (r, v) = zs_sync u) (zs_e dC dI (zs_wX cI cZ a) (va_A (zs_wX cI cZ a u) sz)) (va_A (zs_wX cI cZ a u) sz)) 0 0 (va_A (zs_wX cI cZ a u) sz) := by
  obtain ⟨up, ⟨nm, hi, ln, op, wd⟩, ⟨nm2, hi2, ln2, op2, wd2⟩⟩ := u
  refine Met.ofW (cc := zb_X_sync) (maxL := 1) (ret := (some .boolean)) (by decide) rfl ?_
  intro p e s m args below meth c s₁ B hml hv
  obtain ⟨rfl, hsz, hP, hk, hD0⟩ := hv
  have hx := B.exec
  have hb := B.bytes
  have hr := B.returns
  have hts := atoms_spec (ws := .code zy_X_sync zb_X_sync 1 (some .boolean) :: zs_w) B.pre
  have hz : ∀ w ∈ zs_w, w.before _ s = true := fun w h => hts w (List.mem_cons_of_mem _ h)
  have hown : s.vm.findClass "ZoneShelf" = some m.cls := findClass_of_methodNamed B.named
  have hlocks := B.notSynchronized
  subst hsz
  have hD := hD0.self (sz := s.heap.size)
  generalize hAe : va_A (zs_wX cI cZ a (up, (nm, hi, ln, op, wd), (nm2, hi2, ln2, op2, wd2))) s.heap.size = A at hD ⊢
  have hA : ∀ q : Nat, s.heap.size ≤ q → A q := fun q h => by rw [← hAe]; exact Or.inr h
  have hS : va_S A s.heap s.heap [] := va_S.rf
  have hP : va_P (dC, dI) zs_cl [(a 0, .inr (0, [.ref (a 1), .ref (a 7), .int (zs_b up)])), (a 1, .inr (1, [.ref (a 2), .ref (a 3), .ref (a 4), .ref (a 5), .ref (a 6)])), (a 2, .inl (cI, 24, .inl nm)), (a 3, .inl (cI, 24, .inl hi)), (a 4, .inl (cI, 24, .inl ln)), (a 5, .inl (cZ, 24, .inl op)), (a 6, .inl (cI, 1536, .inl wd)), (a 7, .inr (1, [.ref (a 8), .ref (a 9), .ref (a 10), .ref (a 11), .ref (a 12)])), (a 8, .inl (cI, 24, .inl nm2)), (a 9, .inl (cI, 24, .inl hi2)), (a 10, .inl (cI, 24, .inl ln2)), (a 11, .inl (cZ, 24, .inl op2)), (a 12, .inl (cI, 1536, .inl wd2))] s.heap := hP
  have hD : va_D A [(a 0, .inr (0, [.ref (a 1), .ref (a 7), .int (zs_b up)])), (a 1, .inr (1, [.ref (a 2), .ref (a 3), .ref (a 4), .ref (a 5), .ref (a 6)])), (a 2, .inl (cI, 24, .inl nm)), (a 3, .inl (cI, 24, .inl hi)), (a 4, .inl (cI, 24, .inl ln)), (a 5, .inl (cZ, 24, .inl op)), (a 6, .inl (cI, 1536, .inl wd)), (a 7, .inr (1, [.ref (a 8), .ref (a 9), .ref (a 10), .ref (a 11), .ref (a 12)])), (a 8, .inl (cI, 24, .inl nm2)), (a 9, .inl (cI, 24, .inl hi2)), (a 10, .inl (cI, 24, .inl ln2)), (a 11, .inl (cZ, 24, .inl op2)), (a 12, .inl (cI, 1536, .inl wd2))] := hD
  have hl := lv_entry ([.ref (a 0)]) (n := 1) (Nat.le_of_ble_eq_true rfl)
  rw [lg_entry_eq]
  generalize (lg_sl ([.ref (a 0)]) ++ List.replicate (1 - (lg_sl ([.ref (a 0)])).length) Slot.unset).toArray = ls at hl ⊢
  have hl : lv_has ls 1 [(0, .ref (a 0))] := hl
  refine lv_aload_n hx hb zd_X_sync_0 rfl (lv_at hl 0 rfl) ?_
  refine va_get (D := (dC, dI)) (ci := 0) (v := .int (zs_b up)) (C := "ZoneShelf") (T := zs_T_X) (N := 3) hx hb hz zs_in_X hown hk.1 hP 0 rfl rfl 2 (by decide) (hz _ zq_54) (fun _ h9 => h9) rfl zd_X_sync_1 ?_
  refine zi_ne (tgt := 9) hx hb zd_X_sync_4 rfl (fun h1 => ?_) (fun h1 => ?_)
  · subst h1
    refine lv_aload_n hx hb zd_X_sync_9 rfl (lv_at hl 0 rfl) ?_
    refine va_get (D := (dC, dI)) (ci := 0) (v := .ref (a 7)) (C := "ZoneShelf") (T := zs_T_X) (N := 3) hx hb hz zs_in_X hown hk.1 hP 0 rfl rfl 1 (by decide) (hz _ zq_53) (fun _ h9 => h9) rfl zd_X_sync_10 ?_
    refine lv_aload_n hx hb zd_X_sync_13 rfl (lv_at hl 0 rfl) ?_
    refine va_get (D := (dC, dI)) (ci := 0) (v := .ref (a 1)) (C := "ZoneShelf") (T := zs_T_X) (N := 3) hx hb hz zs_in_X hown hk.1 hP 0 rfl rfl 0 (by decide) (hz _ zq_52) (fun _ h9 => h9) rfl zd_X_sync_14 ?_
    refine zc_wN (rest := []) (wr := [(a 0, .inr (0, [.ref (a 1), .ref (a 7), .int (zs_b true)]))]) [.ref (a 1)] hx hb hml hown hz (zc_C_copyFrom l dC dI cI cZ (a 7) (a 8) (a 9) (a 10) (a 11) (a 12) (a 1) (a 2) (a 3) (a 4) (a 5) (a 6) (nm2, hi2, ln2, op2, wd2) (nm, hi, ln, op, wd) s.heap.size) zf_C_copyFrom rfl rfl zv_13 zq_120 zq_10 ⟨Nat.le_of_ble_eq_true rfl, Nat.le_of_ble_eq_true rfl⟩ hk hP hD hS hA [7, 8, 9, 10, 11, 12, 1, 2, 3, 4, 5, 6] [0] rfl rfl (by decide) (by decide) (by decide) 0 1 rfl rfl rfl rfl hl.1 rfl (Nat.le_of_ble_eq_true rfl) zd_X_sync_17 ⟨Nat.zero_le _, Nat.zero_le _⟩ (fun u4 H locs e3 hP hD hS => ?_)
    obtain rfl : u4 = zs_copy (nm, hi, ln, op, wd) (nm2, hi2, ln2, op2, wd2) := e3
    have hP : va_P (dC, dI) zs_cl [(a 0, .inr (0, [.ref (a 1), .ref (a 7), .int (zs_b true)])), (a 7, .inr (1, [.ref (a 8), .ref (a 9), .ref (a 10), .ref (a 11), .ref (a 12)])), (a 8, .inl (cI, 24, .inl (zs_cp nm nm2 24))), (a 9, .inl (cI, 24, .inl (zs_cp hi hi2 24))), (a 10, .inl (cI, 24, .inl (zs_cp ln ln2 24))), (a 11, .inl (cZ, 24, .inl (zs_cz op op2 24))), (a 12, .inl (cI, 1536, .inl (va_cpy wd wd2 0 0 1536))), (a 1, .inr (1, [.ref (a 2), .ref (a 3), .ref (a 4), .ref (a 5), .ref (a 6)])), (a 2, .inl (cI, 24, .inl nm)), (a 3, .inl (cI, 24, .inl hi)), (a 4, .inl (cI, 24, .inl ln)), (a 5, .inl (cZ, 24, .inl op)), (a 6, .inl (cI, 1536, .inl wd))] H := hP
    have hD : va_D A [(a 0, .inr (0, [.ref (a 1), .ref (a 7), .int (zs_b true)])), (a 7, .inr (1, [.ref (a 8), .ref (a 9), .ref (a 10), .ref (a 11), .ref (a 12)])), (a 8, .inl (cI, 24, .inl (zs_cp nm nm2 24))), (a 9, .inl (cI, 24, .inl (zs_cp hi hi2 24))), (a 10, .inl (cI, 24, .inl (zs_cp ln ln2 24))), (a 11, .inl (cZ, 24, .inl (zs_cz op op2 24))), (a 12, .inl (cI, 1536, .inl (va_cpy wd wd2 0 0 1536))), (a 1, .inr (1, [.ref (a 2), .ref (a 3), .ref (a 4), .ref (a 5), .ref (a 6)])), (a 2, .inl (cI, 24, .inl nm)), (a 3, .inl (cI, 24, .inl hi)), (a 4, .inl (cI, 24, .inl ln)), (a 5, .inl (cZ, 24, .inl op)), (a 6, .inl (cI, 1536, .inl wd))] := hD
    refine lv_iconst (v := 1) hx hb zd_X_sync_20 (by decide) ?_
    exact zw_zret (true, (nm, hi, ln, op, wd), (zs_cp nm nm2 24, zs_cp hi hi2 24, zs_cp ln ln2 24, zs_cz op op2 24, va_cpy wd wd2 0 0 1536)) hx hb hr hlocks zd_X_sync_21 rfl (show (1, (true, (nm, hi, ln, op, wd), (zs_cp nm nm2 24, zs_cp hi hi2 24, zs_cp ln ln2 24, zs_cz op op2 24, va_cpy wd wd2 0 0 1536))) = zs_sync (true, (nm, hi, ln, op, wd), (nm2, hi2, ln2, op2, wd2)) from by simp [zs_sync, zs_copy]) (hP.sub [0, 7, 8, 9, 10, 11, 12, 1, 2, 3, 4, 5, 6] rfl) (hD.sub [0, 7, 8, 9, 10, 11, 12, 1, 2, 3, 4, 5, 6] (by decide) rfl) hS
  · subst h1
    refine lv_iconst (v := 0) hx hb zd_X_sync_7 (by decide) ?_
    exact zw_zret (false, (nm, hi, ln, op, wd), (nm2, hi2, ln2, op2, wd2)) hx hb hr hlocks zd_X_sync_8 rfl (show (0, (false, (nm, hi, ln, op, wd), (nm2, hi2, ln2, op2, wd2))) = zs_sync (false, (nm, hi, ln, op, wd), (nm2, hi2, ln2, op2, wd2)) from by simp [zs_sync, zs_copy]) hP hD hS
set_option maxHeartbeats 4000000 in
set_option maxRecDepth 100000 in
theorem zc_X_cut (l : Launch) (dC : Nat → ClassId) (dI : Nat → Nat → Nat) (cI cZ : ClassId) (a : Nat → Nat) (u : zs_X) (sz : Nat)  : Met l zy_X_cut (.code zy_X_cut zb_X_cut 1 (some .boolean) :: zs_w) ({ frames := 0, cells := 0, slots := 0, locals := 0 }) (va_Pc [.ref (a 0)] (zs_s dC dI cI cZ sz (zs_wX cI cZ a u))) (va_Qi (fun r (v : zs_X) => (r, v) = zs_cut u) (zs_e dC dI (zs_wX cI cZ a) (va_A (zs_wX cI cZ a u) sz)) (va_A (zs_wX cI cZ a u) sz)) 0 0 (va_A (zs_wX cI cZ a u) sz) := by
  obtain ⟨up, ⟨nm, hi, ln, op, wd⟩, ⟨nm2, hi2, ln2, op2, wd2⟩⟩ := u
  refine Met.ofW (cc := zb_X_cut) (maxL := 1) (ret := (some .boolean)) (by decide) rfl ?_
  intro p e s m args below meth c s₁ B hml hv
  obtain ⟨rfl, hsz, hP, hk, hD0⟩ := hv
  have hx := B.exec
  have hb := B.bytes
  have hr := B.returns
  have hts := atoms_spec (ws := .code zy_X_cut zb_X_cut 1 (some .boolean) :: zs_w) B.pre
  have hz : ∀ w ∈ zs_w, w.before _ s = true := fun w h => hts w (List.mem_cons_of_mem _ h)
  have hown : s.vm.findClass "ZoneShelf" = some m.cls := findClass_of_methodNamed B.named
  have hlocks := B.notSynchronized
  subst hsz
  have hD := hD0.self (sz := s.heap.size)
  generalize hAe : va_A (zs_wX cI cZ a (up, (nm, hi, ln, op, wd), (nm2, hi2, ln2, op2, wd2))) s.heap.size = A at hD ⊢
  have hA : ∀ q : Nat, s.heap.size ≤ q → A q := fun q h => by rw [← hAe]; exact Or.inr h
  have hS : va_S A s.heap s.heap [] := va_S.rf
  have hP : va_P (dC, dI) zs_cl [(a 0, .inr (0, [.ref (a 1), .ref (a 7), .int (zs_b up)])), (a 1, .inr (1, [.ref (a 2), .ref (a 3), .ref (a 4), .ref (a 5), .ref (a 6)])), (a 2, .inl (cI, 24, .inl nm)), (a 3, .inl (cI, 24, .inl hi)), (a 4, .inl (cI, 24, .inl ln)), (a 5, .inl (cZ, 24, .inl op)), (a 6, .inl (cI, 1536, .inl wd)), (a 7, .inr (1, [.ref (a 8), .ref (a 9), .ref (a 10), .ref (a 11), .ref (a 12)])), (a 8, .inl (cI, 24, .inl nm2)), (a 9, .inl (cI, 24, .inl hi2)), (a 10, .inl (cI, 24, .inl ln2)), (a 11, .inl (cZ, 24, .inl op2)), (a 12, .inl (cI, 1536, .inl wd2))] s.heap := hP
  have hD : va_D A [(a 0, .inr (0, [.ref (a 1), .ref (a 7), .int (zs_b up)])), (a 1, .inr (1, [.ref (a 2), .ref (a 3), .ref (a 4), .ref (a 5), .ref (a 6)])), (a 2, .inl (cI, 24, .inl nm)), (a 3, .inl (cI, 24, .inl hi)), (a 4, .inl (cI, 24, .inl ln)), (a 5, .inl (cZ, 24, .inl op)), (a 6, .inl (cI, 1536, .inl wd)), (a 7, .inr (1, [.ref (a 8), .ref (a 9), .ref (a 10), .ref (a 11), .ref (a 12)])), (a 8, .inl (cI, 24, .inl nm2)), (a 9, .inl (cI, 24, .inl hi2)), (a 10, .inl (cI, 24, .inl ln2)), (a 11, .inl (cZ, 24, .inl op2)), (a 12, .inl (cI, 1536, .inl wd2))] := hD
  have hl := lv_entry ([.ref (a 0)]) (n := 1) (Nat.le_of_ble_eq_true rfl)
  rw [lg_entry_eq]
  generalize (lg_sl ([.ref (a 0)]) ++ List.replicate (1 - (lg_sl ([.ref (a 0)])).length) Slot.unset).toArray = ls at hl ⊢
  have hl : lv_has ls 1 [(0, .ref (a 0))] := hl
  refine lv_aload_n hx hb zd_X_cut_0 rfl (lv_at hl 0 rfl) ?_
  refine va_get (D := (dC, dI)) (ci := 0) (v := .int (zs_b up)) (C := "ZoneShelf") (T := zs_T_X) (N := 3) hx hb hz zs_in_X hown hk.1 hP 0 rfl rfl 2 (by decide) (hz _ zq_54) (fun _ h9 => h9) rfl zd_X_cut_1 ?_
  refine zi_ne (tgt := 9) hx hb zd_X_cut_4 rfl (fun h1 => ?_) (fun h1 => ?_)
  · subst h1
    refine lv_aload_n hx hb zd_X_cut_9 rfl (lv_at hl 0 rfl) ?_
    refine lv_iconst (v := 0) hx hb zd_X_cut_10 (by decide) ?_
    refine va_put (D := (dC, dI)) (ci := 0) (v := .int 0) (ty := .boolean) (C := "ZoneShelf") (T := zs_T_X) (N := 3) hx hb hz zs_in_X zs_t_X zs_tok_X zs_nok_X hown hk.1 hP hD hS 0 rfl rfl 2 (by decide) (hz _ zq_54) (fun _ h9 => h9) rfl (by decide +kernel) rfl rfl (Nat.le_of_ble_eq_true rfl) zd_X_cut_11 (fun H locs hP hD hS => ?_)
    have hP : va_P (dC, dI) zs_cl [(a 0, .inr (0, [.ref (a 1), .ref (a 7), .int (zs_b false)])), (a 1, .inr (1, [.ref (a 2), .ref (a 3), .ref (a 4), .ref (a 5), .ref (a 6)])), (a 2, .inl (cI, 24, .inl nm)), (a 3, .inl (cI, 24, .inl hi)), (a 4, .inl (cI, 24, .inl ln)), (a 5, .inl (cZ, 24, .inl op)), (a 6, .inl (cI, 1536, .inl wd)), (a 7, .inr (1, [.ref (a 8), .ref (a 9), .ref (a 10), .ref (a 11), .ref (a 12)])), (a 8, .inl (cI, 24, .inl nm2)), (a 9, .inl (cI, 24, .inl hi2)), (a 10, .inl (cI, 24, .inl ln2)), (a 11, .inl (cZ, 24, .inl op2)), (a 12, .inl (cI, 1536, .inl wd2))] H := hP
    have hD : va_D A [(a 0, .inr (0, [.ref (a 1), .ref (a 7), .int (zs_b false)])), (a 1, .inr (1, [.ref (a 2), .ref (a 3), .ref (a 4), .ref (a 5), .ref (a 6)])), (a 2, .inl (cI, 24, .inl nm)), (a 3, .inl (cI, 24, .inl hi)), (a 4, .inl (cI, 24, .inl ln)), (a 5, .inl (cZ, 24, .inl op)), (a 6, .inl (cI, 1536, .inl wd)), (a 7, .inr (1, [.ref (a 8), .ref (a 9), .ref (a 10), .ref (a 11), .ref (a 12)])), (a 8, .inl (cI, 24, .inl nm2)), (a 9, .inl (cI, 24, .inl hi2)), (a 10, .inl (cI, 24, .inl ln2)), (a 11, .inl (cZ, 24, .inl op2)), (a 12, .inl (cI, 1536, .inl wd2))] := hD
    refine lv_iconst (v := 1) hx hb zd_X_cut_14 (by decide) ?_
    exact zw_zret (false, (nm, hi, ln, op, wd), (nm2, hi2, ln2, op2, wd2)) hx hb hr hlocks zd_X_cut_15 rfl (show (1, (false, (nm, hi, ln, op, wd), (nm2, hi2, ln2, op2, wd2))) = zs_cut (true, (nm, hi, ln, op, wd), (nm2, hi2, ln2, op2, wd2)) from by simp [zs_cut]) hP hD hS
  · subst h1
    refine lv_iconst (v := 0) hx hb zd_X_cut_7 (by decide) ?_
    exact zw_zret (false, (nm, hi, ln, op, wd), (nm2, hi2, ln2, op2, wd2)) hx hb hr hlocks zd_X_cut_8 rfl (show (0, (false, (nm, hi, ln, op, wd), (nm2, hi2, ln2, op2, wd2))) = zs_cut (false, (nm, hi, ln, op, wd), (nm2, hi2, ln2, op2, wd2)) from by simp [zs_cut]) hP hD hS
set_option maxHeartbeats 4000000 in
set_option maxRecDepth 100000 in
theorem zc_X_mount (l : Launch) (dC : Nat → ClassId) (dI : Nat → Nat → Nat) (cI cZ : ClassId) (a : Nat → Nat) (u : zs_X) (sz : Nat)  : Met l zy_X_mount (.code zy_X_mount zb_X_mount 1 (some .boolean) :: zs_w) ({ frames := 2, cells := 0, slots := 0, locals := 48 }) (va_Pc [.ref (a 0)] (zs_s dC dI cI cZ sz (zs_wX cI cZ a u))) (va_Qi (fun r (v : zs_X) => (r, v) = zs_mount u) (zs_e dC dI (zs_wX cI cZ a) (va_A (zs_wX cI cZ a u) sz)) (va_A (zs_wX cI cZ a u) sz)) 0 0 (va_A (zs_wX cI cZ a u) sz) := by
  obtain ⟨up, ⟨nm, hi, ln, op, wd⟩, ⟨nm2, hi2, ln2, op2, wd2⟩⟩ := u
  refine Met.ofW (cc := zb_X_mount) (maxL := 1) (ret := (some .boolean)) (by decide) rfl ?_
  intro p e s m args below meth c s₁ B hml hv
  obtain ⟨rfl, hsz, hP, hk, hD0⟩ := hv
  have hx := B.exec
  have hb := B.bytes
  have hr := B.returns
  have hts := atoms_spec (ws := .code zy_X_mount zb_X_mount 1 (some .boolean) :: zs_w) B.pre
  have hz : ∀ w ∈ zs_w, w.before _ s = true := fun w h => hts w (List.mem_cons_of_mem _ h)
  have hown : s.vm.findClass "ZoneShelf" = some m.cls := findClass_of_methodNamed B.named
  have hlocks := B.notSynchronized
  subst hsz
  have hD := hD0.self (sz := s.heap.size)
  generalize hAe : va_A (zs_wX cI cZ a (up, (nm, hi, ln, op, wd), (nm2, hi2, ln2, op2, wd2))) s.heap.size = A at hD ⊢
  have hA : ∀ q : Nat, s.heap.size ≤ q → A q := fun q h => by rw [← hAe]; exact Or.inr h
  have hS : va_S A s.heap s.heap [] := va_S.rf
  have hP : va_P (dC, dI) zs_cl [(a 0, .inr (0, [.ref (a 1), .ref (a 7), .int (zs_b up)])), (a 1, .inr (1, [.ref (a 2), .ref (a 3), .ref (a 4), .ref (a 5), .ref (a 6)])), (a 2, .inl (cI, 24, .inl nm)), (a 3, .inl (cI, 24, .inl hi)), (a 4, .inl (cI, 24, .inl ln)), (a 5, .inl (cZ, 24, .inl op)), (a 6, .inl (cI, 1536, .inl wd)), (a 7, .inr (1, [.ref (a 8), .ref (a 9), .ref (a 10), .ref (a 11), .ref (a 12)])), (a 8, .inl (cI, 24, .inl nm2)), (a 9, .inl (cI, 24, .inl hi2)), (a 10, .inl (cI, 24, .inl ln2)), (a 11, .inl (cZ, 24, .inl op2)), (a 12, .inl (cI, 1536, .inl wd2))] s.heap := hP
  have hD : va_D A [(a 0, .inr (0, [.ref (a 1), .ref (a 7), .int (zs_b up)])), (a 1, .inr (1, [.ref (a 2), .ref (a 3), .ref (a 4), .ref (a 5), .ref (a 6)])), (a 2, .inl (cI, 24, .inl nm)), (a 3, .inl (cI, 24, .inl hi)), (a 4, .inl (cI, 24, .inl ln)), (a 5, .inl (cZ, 24, .inl op)), (a 6, .inl (cI, 1536, .inl wd)), (a 7, .inr (1, [.ref (a 8), .ref (a 9), .ref (a 10), .ref (a 11), .ref (a 12)])), (a 8, .inl (cI, 24, .inl nm2)), (a 9, .inl (cI, 24, .inl hi2)), (a 10, .inl (cI, 24, .inl ln2)), (a 11, .inl (cZ, 24, .inl op2)), (a 12, .inl (cI, 1536, .inl wd2))] := hD
  have hl := lv_entry ([.ref (a 0)]) (n := 1) (Nat.le_of_ble_eq_true rfl)
  rw [lg_entry_eq]
  generalize (lg_sl ([.ref (a 0)]) ++ List.replicate (1 - (lg_sl ([.ref (a 0)])).length) Slot.unset).toArray = ls at hl ⊢
  have hl : lv_has ls 1 [(0, .ref (a 0))] := hl
  refine lv_aload_n hx hb zd_X_mount_0 rfl (lv_at hl 0 rfl) ?_
  refine va_get (D := (dC, dI)) (ci := 0) (v := .int (zs_b up)) (C := "ZoneShelf") (T := zs_T_X) (N := 3) hx hb hz zs_in_X hown hk.1 hP 0 rfl rfl 2 (by decide) (hz _ zq_54) (fun _ h9 => h9) rfl zd_X_mount_1 ?_
  refine zi_eq (tgt := 9) hx hb zd_X_mount_4 rfl (fun h1 => ?_) (fun h1 => ?_)
  · subst h1
    refine lv_aload_n hx hb zd_X_mount_9 rfl (lv_at hl 0 rfl) ?_
    refine va_get (D := (dC, dI)) (ci := 0) (v := .ref (a 1)) (C := "ZoneShelf") (T := zs_T_X) (N := 3) hx hb hz zs_in_X hown hk.1 hP 0 rfl rfl 0 (by decide) (hz _ zq_52) (fun _ h9 => h9) rfl zd_X_mount_10 ?_
    refine lv_aload_n hx hb zd_X_mount_13 rfl (lv_at hl 0 rfl) ?_
    refine va_get (D := (dC, dI)) (ci := 0) (v := .ref (a 7)) (C := "ZoneShelf") (T := zs_T_X) (N := 3) hx hb hz zs_in_X hown hk.1 hP 0 rfl rfl 1 (by decide) (hz _ zq_53) (fun _ h9 => h9) rfl zd_X_mount_14 ?_
    refine zc_wN (rest := []) (wr := [(a 0, .inr (0, [.ref (a 1), .ref (a 7), .int (zs_b false)]))]) [.ref (a 7)] hx hb hml hown hz (zc_C_copyFrom l dC dI cI cZ (a 1) (a 2) (a 3) (a 4) (a 5) (a 6) (a 7) (a 8) (a 9) (a 10) (a 11) (a 12) (nm, hi, ln, op, wd) (nm2, hi2, ln2, op2, wd2) s.heap.size) zf_C_copyFrom rfl rfl zv_13 zq_120 zq_10 ⟨Nat.le_of_ble_eq_true rfl, Nat.le_of_ble_eq_true rfl⟩ hk hP hD hS hA [1, 2, 3, 4, 5, 6, 7, 8, 9, 10, 11, 12] [0] rfl rfl (by decide) (by decide) (by decide) 0 1 rfl rfl rfl rfl hl.1 rfl (Nat.le_of_ble_eq_true rfl) zd_X_mount_17 ⟨Nat.zero_le _, Nat.zero_le _⟩ (fun u4 H locs e3 hP hD hS => ?_)
    obtain rfl : u4 = zs_copy (nm2, hi2, ln2, op2, wd2) (nm, hi, ln, op, wd) := e3
    have hP : va_P (dC, dI) zs_cl [(a 0, .inr (0, [.ref (a 1), .ref (a 7), .int (zs_b false)])), (a 1, .inr (1, [.ref (a 2), .ref (a 3), .ref (a 4), .ref (a 5), .ref (a 6)])), (a 2, .inl (cI, 24, .inl (zs_cp nm2 nm 24))), (a 3, .inl (cI, 24, .inl (zs_cp hi2 hi 24))), (a 4, .inl (cI, 24, .inl (zs_cp ln2 ln 24))), (a 5, .inl (cZ, 24, .inl (zs_cz op2 op 24))), (a 6, .inl (cI, 1536, .inl (va_cpy wd2 wd 0 0 1536))), (a 7, .inr (1, [.ref (a 8), .ref (a 9), .ref (a 10), .ref (a 11), .ref (a 12)])), (a 8, .inl (cI, 24, .inl nm2)), (a 9, .inl (cI, 24, .inl hi2)), (a 10, .inl (cI, 24, .inl ln2)), (a 11, .inl (cZ, 24, .inl op2)), (a 12, .inl (cI, 1536, .inl wd2))] H := hP
    have hD : va_D A [(a 0, .inr (0, [.ref (a 1), .ref (a 7), .int (zs_b false)])), (a 1, .inr (1, [.ref (a 2), .ref (a 3), .ref (a 4), .ref (a 5), .ref (a 6)])), (a 2, .inl (cI, 24, .inl (zs_cp nm2 nm 24))), (a 3, .inl (cI, 24, .inl (zs_cp hi2 hi 24))), (a 4, .inl (cI, 24, .inl (zs_cp ln2 ln 24))), (a 5, .inl (cZ, 24, .inl (zs_cz op2 op 24))), (a 6, .inl (cI, 1536, .inl (va_cpy wd2 wd 0 0 1536))), (a 7, .inr (1, [.ref (a 8), .ref (a 9), .ref (a 10), .ref (a 11), .ref (a 12)])), (a 8, .inl (cI, 24, .inl nm2)), (a 9, .inl (cI, 24, .inl hi2)), (a 10, .inl (cI, 24, .inl ln2)), (a 11, .inl (cZ, 24, .inl op2)), (a 12, .inl (cI, 1536, .inl wd2))] := hD
    refine lv_aload_n hx hb zd_X_mount_20 rfl (lv_at hl 0 rfl) ?_
    refine lv_iconst (v := 1) hx hb zd_X_mount_21 (by decide) ?_
    refine va_put (D := (dC, dI)) (ci := 0) (v := .int 1) (ty := .boolean) (C := "ZoneShelf") (T := zs_T_X) (N := 3) hx hb hz zs_in_X zs_t_X zs_tok_X zs_nok_X hown hk.1 hP hD hS 0 rfl rfl 2 (by decide) (hz _ zq_54) (fun _ h9 => h9) rfl (by decide +kernel) rfl rfl (Nat.le_of_ble_eq_true rfl) zd_X_mount_22 (fun H locs hP hD hS => ?_)
    have hP : va_P (dC, dI) zs_cl [(a 0, .inr (0, [.ref (a 1), .ref (a 7), .int (zs_b true)])), (a 1, .inr (1, [.ref (a 2), .ref (a 3), .ref (a 4), .ref (a 5), .ref (a 6)])), (a 2, .inl (cI, 24, .inl (zs_cp nm2 nm 24))), (a 3, .inl (cI, 24, .inl (zs_cp hi2 hi 24))), (a 4, .inl (cI, 24, .inl (zs_cp ln2 ln 24))), (a 5, .inl (cZ, 24, .inl (zs_cz op2 op 24))), (a 6, .inl (cI, 1536, .inl (va_cpy wd2 wd 0 0 1536))), (a 7, .inr (1, [.ref (a 8), .ref (a 9), .ref (a 10), .ref (a 11), .ref (a 12)])), (a 8, .inl (cI, 24, .inl nm2)), (a 9, .inl (cI, 24, .inl hi2)), (a 10, .inl (cI, 24, .inl ln2)), (a 11, .inl (cZ, 24, .inl op2)), (a 12, .inl (cI, 1536, .inl wd2))] H := hP
    have hD : va_D A [(a 0, .inr (0, [.ref (a 1), .ref (a 7), .int (zs_b true)])), (a 1, .inr (1, [.ref (a 2), .ref (a 3), .ref (a 4), .ref (a 5), .ref (a 6)])), (a 2, .inl (cI, 24, .inl (zs_cp nm2 nm 24))), (a 3, .inl (cI, 24, .inl (zs_cp hi2 hi 24))), (a 4, .inl (cI, 24, .inl (zs_cp ln2 ln 24))), (a 5, .inl (cZ, 24, .inl (zs_cz op2 op 24))), (a 6, .inl (cI, 1536, .inl (va_cpy wd2 wd 0 0 1536))), (a 7, .inr (1, [.ref (a 8), .ref (a 9), .ref (a 10), .ref (a 11), .ref (a 12)])), (a 8, .inl (cI, 24, .inl nm2)), (a 9, .inl (cI, 24, .inl hi2)), (a 10, .inl (cI, 24, .inl ln2)), (a 11, .inl (cZ, 24, .inl op2)), (a 12, .inl (cI, 1536, .inl wd2))] := hD
    refine lv_iconst (v := 1) hx hb zd_X_mount_25 (by decide) ?_
    exact zw_zret (true, (zs_cp nm2 nm 24, zs_cp hi2 hi 24, zs_cp ln2 ln 24, zs_cz op2 op 24, va_cpy wd2 wd 0 0 1536), (nm2, hi2, ln2, op2, wd2)) hx hb hr hlocks zd_X_mount_26 rfl (show (1, (true, (zs_cp nm2 nm 24, zs_cp hi2 hi 24, zs_cp ln2 ln 24, zs_cz op2 op 24, va_cpy wd2 wd 0 0 1536), (nm2, hi2, ln2, op2, wd2))) = zs_mount (false, (nm, hi, ln, op, wd), (nm2, hi2, ln2, op2, wd2)) from by simp [zs_mount, zs_copy]) hP hD hS
  · subst h1
    refine lv_iconst (v := 0) hx hb zd_X_mount_7 (by decide) ?_
    exact zw_zret (true, (nm, hi, ln, op, wd), (nm2, hi2, ln2, op2, wd2)) hx hb hr hlocks zd_X_mount_8 rfl (show (0, (true, (nm, hi, ln, op, wd), (nm2, hi2, ln2, op2, wd2))) = zs_mount (true, (nm, hi, ln, op, wd), (nm2, hi2, ln2, op2, wd2)) from by simp [zs_mount, zs_copy]) hP hD hS
set_option maxHeartbeats 4000000 in
set_option maxRecDepth 100000 in
theorem zc_X_append (l : Launch) (dC : Nat → ClassId) (dI : Nat → Nat → Nat) (cI cZ : ClassId) (a : Nat → Nat) (u : zs_X) (sz : Nat) (hok : zs_ok u) (o w : Int32) : Met l zy_X_append (.code zy_X_append zb_X_append 3 (some .boolean) :: zs_w) ({ frames := 3, cells := 0, slots := 0, locals := 66 }) (va_Pc [.ref (a 0), .int o, .int w] (zs_s dC dI cI cZ sz (zs_wX cI cZ a u))) (va_Qi (fun r (v : zs_X) => (r, v) = zs_appendRow u o w 1) (zs_e dC dI (zs_wX cI cZ a) (va_A (zs_wX cI cZ a u) sz)) (va_A (zs_wX cI cZ a u) sz)) 0 0 (va_A (zs_wX cI cZ a u) sz) := by
  obtain ⟨up, ⟨nm, hi, ln, op, wd⟩, ⟨nm2, hi2, ln2, op2, wd2⟩⟩ := u
  refine Met.ofW (cc := zb_X_append) (maxL := 3) (ret := (some .boolean)) (by decide) rfl ?_
  intro p e s m args below meth c s₁ B hml hv
  obtain ⟨rfl, hsz, hP, hk, hD0⟩ := hv
  have hx := B.exec
  have hb := B.bytes
  have hr := B.returns
  have hts := atoms_spec (ws := .code zy_X_append zb_X_append 3 (some .boolean) :: zs_w) B.pre
  have hz : ∀ w ∈ zs_w, w.before _ s = true := fun w h => hts w (List.mem_cons_of_mem _ h)
  have hown : s.vm.findClass "ZoneShelf" = some m.cls := findClass_of_methodNamed B.named
  have hlocks := B.notSynchronized
  subst hsz
  have hD := hD0.self (sz := s.heap.size)
  generalize hAe : va_A (zs_wX cI cZ a (up, (nm, hi, ln, op, wd), (nm2, hi2, ln2, op2, wd2))) s.heap.size = A at hD ⊢
  have hA : ∀ q : Nat, s.heap.size ≤ q → A q := fun q h => by rw [← hAe]; exact Or.inr h
  have hS : va_S A s.heap s.heap [] := va_S.rf
  have hP : va_P (dC, dI) zs_cl [(a 0, .inr (0, [.ref (a 1), .ref (a 7), .int (zs_b up)])), (a 1, .inr (1, [.ref (a 2), .ref (a 3), .ref (a 4), .ref (a 5), .ref (a 6)])), (a 2, .inl (cI, 24, .inl nm)), (a 3, .inl (cI, 24, .inl hi)), (a 4, .inl (cI, 24, .inl ln)), (a 5, .inl (cZ, 24, .inl op)), (a 6, .inl (cI, 1536, .inl wd)), (a 7, .inr (1, [.ref (a 8), .ref (a 9), .ref (a 10), .ref (a 11), .ref (a 12)])), (a 8, .inl (cI, 24, .inl nm2)), (a 9, .inl (cI, 24, .inl hi2)), (a 10, .inl (cI, 24, .inl ln2)), (a 11, .inl (cZ, 24, .inl op2)), (a 12, .inl (cI, 1536, .inl wd2))] s.heap := hP
  have hD : va_D A [(a 0, .inr (0, [.ref (a 1), .ref (a 7), .int (zs_b up)])), (a 1, .inr (1, [.ref (a 2), .ref (a 3), .ref (a 4), .ref (a 5), .ref (a 6)])), (a 2, .inl (cI, 24, .inl nm)), (a 3, .inl (cI, 24, .inl hi)), (a 4, .inl (cI, 24, .inl ln)), (a 5, .inl (cZ, 24, .inl op)), (a 6, .inl (cI, 1536, .inl wd)), (a 7, .inr (1, [.ref (a 8), .ref (a 9), .ref (a 10), .ref (a 11), .ref (a 12)])), (a 8, .inl (cI, 24, .inl nm2)), (a 9, .inl (cI, 24, .inl hi2)), (a 10, .inl (cI, 24, .inl ln2)), (a 11, .inl (cZ, 24, .inl op2)), (a 12, .inl (cI, 1536, .inl wd2))] := hD
  have hl := lv_entry ([.ref (a 0), .int o, .int w]) (n := 3) (Nat.le_of_ble_eq_true rfl)
  rw [lg_entry_eq]
  generalize (lg_sl ([.ref (a 0), .int o, .int w]) ++ List.replicate (3 - (lg_sl ([.ref (a 0), .int o, .int w])).length) Slot.unset).toArray = ls at hl ⊢
  have hl : lv_has ls 3 [(0, .ref (a 0)), (1, .int o), (2, .int w)] := hl
  refine lv_aload_n hx hb zd_X_append_0 rfl (lv_at hl 0 rfl) ?_
  refine lv_iload_n hx hb zd_X_append_1 rfl (lv_at hl 1 rfl) ?_
  refine lv_iload_n hx hb zd_X_append_2 rfl (lv_at hl 2 rfl) ?_
  refine lv_iconst (v := 1) hx hb zd_X_append_3 (by decide) ?_
  refine zc_wV (rest := []) (wr := []) [.int o, .int w, .int 1] hx hb hml hown hz (zc_X_appendRow l dC dI cI cZ a (up, (nm, hi, ln, op, wd), (nm2, hi2, ln2, op2, wd2)) s.heap.size hok o w 1) zf_X_appendRow rfl rfl zq_84 zq_85 zq_86 ⟨Nat.le_of_ble_eq_true rfl, Nat.le_of_ble_eq_true rfl⟩ hk hP hD hS hA [0, 1, 2, 3, 4, 5, 6, 7, 8, 9, 10, 11, 12] [] rfl rfl (by decide) (by decide) (by decide) 0 0 rfl rfl rfl rfl hl.1 rfl (Nat.le_of_ble_eq_true rfl) zd_X_append_4 ⟨Nat.zero_le _, Nat.zero_le _⟩ (fun r1 u3 H locs e2 hP hD hS => ?_)
  exact zw_zret u3 hx hb hr hlocks zd_X_append_7 (by rw [show r1 = (zs_appendRow (up, (nm, hi, ln, op, wd), (nm2, hi2, ln2, op2, wd2)) o w 1).1 from congrArg Prod.fst e2]; exact zs_appendRow_n _ _ _ _) (show (r1, u3) = zs_appendRow (up, (nm, hi, ln, op, wd), (nm2, hi2, ln2, op2, wd2)) o w 1 from e2) hP hD hS
set_option maxHeartbeats 4000000 in
set_option maxRecDepth 100000 in
theorem zc_X_tear (l : Launch) (dC : Nat → ClassId) (dI : Nat → Nat → Nat) (cI cZ : ClassId) (a : Nat → Nat) (u : zs_X) (sz : Nat)  : Met l zy_X_tear (.code zy_X_tear zb_X_tear 1 (some .boolean) :: zs_w) ({ frames := 1, cells := 0, slots := 0, locals := 20 }) (va_Pc [.ref (a 0)] (zs_s dC dI cI cZ sz (zs_wX cI cZ a u))) (va_Qi (fun r (v : zs_X) => (r, v) = zs_cut u) (zs_e dC dI (zs_wX cI cZ a) (va_A (zs_wX cI cZ a u) sz)) (va_A (zs_wX cI cZ a u) sz)) 0 0 (va_A (zs_wX cI cZ a u) sz) := by
  obtain ⟨up, ⟨nm, hi, ln, op, wd⟩, ⟨nm2, hi2, ln2, op2, wd2⟩⟩ := u
  refine Met.ofW (cc := zb_X_tear) (maxL := 1) (ret := (some .boolean)) (by decide) rfl ?_
  intro p e s m args below meth c s₁ B hml hv
  obtain ⟨rfl, hsz, hP, hk, hD0⟩ := hv
  have hx := B.exec
  have hb := B.bytes
  have hr := B.returns
  have hts := atoms_spec (ws := .code zy_X_tear zb_X_tear 1 (some .boolean) :: zs_w) B.pre
  have hz : ∀ w ∈ zs_w, w.before _ s = true := fun w h => hts w (List.mem_cons_of_mem _ h)
  have hown : s.vm.findClass "ZoneShelf" = some m.cls := findClass_of_methodNamed B.named
  have hlocks := B.notSynchronized
  subst hsz
  have hD := hD0.self (sz := s.heap.size)
  generalize hAe : va_A (zs_wX cI cZ a (up, (nm, hi, ln, op, wd), (nm2, hi2, ln2, op2, wd2))) s.heap.size = A at hD ⊢
  have hA : ∀ q : Nat, s.heap.size ≤ q → A q := fun q h => by rw [← hAe]; exact Or.inr h
  have hS : va_S A s.heap s.heap [] := va_S.rf
  have hP : va_P (dC, dI) zs_cl [(a 0, .inr (0, [.ref (a 1), .ref (a 7), .int (zs_b up)])), (a 1, .inr (1, [.ref (a 2), .ref (a 3), .ref (a 4), .ref (a 5), .ref (a 6)])), (a 2, .inl (cI, 24, .inl nm)), (a 3, .inl (cI, 24, .inl hi)), (a 4, .inl (cI, 24, .inl ln)), (a 5, .inl (cZ, 24, .inl op)), (a 6, .inl (cI, 1536, .inl wd)), (a 7, .inr (1, [.ref (a 8), .ref (a 9), .ref (a 10), .ref (a 11), .ref (a 12)])), (a 8, .inl (cI, 24, .inl nm2)), (a 9, .inl (cI, 24, .inl hi2)), (a 10, .inl (cI, 24, .inl ln2)), (a 11, .inl (cZ, 24, .inl op2)), (a 12, .inl (cI, 1536, .inl wd2))] s.heap := hP
  have hD : va_D A [(a 0, .inr (0, [.ref (a 1), .ref (a 7), .int (zs_b up)])), (a 1, .inr (1, [.ref (a 2), .ref (a 3), .ref (a 4), .ref (a 5), .ref (a 6)])), (a 2, .inl (cI, 24, .inl nm)), (a 3, .inl (cI, 24, .inl hi)), (a 4, .inl (cI, 24, .inl ln)), (a 5, .inl (cZ, 24, .inl op)), (a 6, .inl (cI, 1536, .inl wd)), (a 7, .inr (1, [.ref (a 8), .ref (a 9), .ref (a 10), .ref (a 11), .ref (a 12)])), (a 8, .inl (cI, 24, .inl nm2)), (a 9, .inl (cI, 24, .inl hi2)), (a 10, .inl (cI, 24, .inl ln2)), (a 11, .inl (cZ, 24, .inl op2)), (a 12, .inl (cI, 1536, .inl wd2))] := hD
  have hl := lv_entry ([.ref (a 0)]) (n := 1) (Nat.le_of_ble_eq_true rfl)
  rw [lg_entry_eq]
  generalize (lg_sl ([.ref (a 0)]) ++ List.replicate (1 - (lg_sl ([.ref (a 0)])).length) Slot.unset).toArray = ls at hl ⊢
  have hl : lv_has ls 1 [(0, .ref (a 0))] := hl
  refine lv_aload_n hx hb zd_X_tear_0 rfl (lv_at hl 0 rfl) ?_
  refine zc_wV (rest := []) (wr := []) [] hx hb hml hown hz (zc_X_cut l dC dI cI cZ a (up, (nm, hi, ln, op, wd), (nm2, hi2, ln2, op2, wd2)) s.heap.size  ) zf_X_cut rfl rfl zq_129 zq_130 zq_131 ⟨Nat.le_of_ble_eq_true rfl, Nat.le_of_ble_eq_true rfl⟩ hk hP hD hS hA [0, 1, 2, 3, 4, 5, 6, 7, 8, 9, 10, 11, 12] [] rfl rfl (by decide) (by decide) (by decide) 0 0 rfl rfl rfl rfl hl.1 rfl (Nat.le_of_ble_eq_true rfl) zd_X_tear_1 ⟨Nat.zero_le _, Nat.zero_le _⟩ (fun r1 u3 H locs e2 hP hD hS => ?_)
  exact zw_zret u3 hx hb hr hlocks zd_X_tear_4 (by rw [show r1 = (zs_cut (up, (nm, hi, ln, op, wd), (nm2, hi2, ln2, op2, wd2)) ).1 from congrArg Prod.fst e2]; exact zs_cut_n _ ) (show (r1, u3) = zs_cut (up, (nm, hi, ln, op, wd), (nm2, hi2, ln2, op2, wd2))  from e2) hP hD hS
end
section
set_option maxHeartbeats 4000000 in
set_option maxRecDepth 100000 in
theorem zc_M_isName (l : Launch) (dC : Nat → ClassId) (dI : Nat → Nat → Nat) (cI cZ : ClassId) (n : Int32) : Met l zy_M_isName (.code zy_M_isName zb_M_isName 1 (some .boolean) :: zs_w) ({ frames := 0, cells := 0, slots := 0, locals := 0 }) (va_Pc [.int n] (fun _ => True)) (vp_Si (fun r => r = zs_b (zs_nam n))) 0 0 (fun _ => False) := by
  refine Met.ofW (cc := zb_M_isName) (maxL := 1) (ret := (some .boolean)) (by decide) rfl ?_
  intro p e s m args below meth c s₁ B hml hv
  obtain ⟨rfl, -⟩ := hv
  have hx := B.exec
  have hb := B.bytes
  have hr := B.returns
  have hts := atoms_spec (ws := .code zy_M_isName zb_M_isName 1 (some .boolean) :: zs_w) B.pre
  have hz : ∀ w ∈ zs_w, w.before _ s = true := fun w h => hts w (List.mem_cons_of_mem _ h)
  have hown : s.vm.findClass "ZoneShelfModel" = some m.cls := findClass_of_methodNamed B.named
  have hlocks := B.notSynchronized
  have hl := lv_entry ([.int n]) (n := 1) (Nat.le_of_ble_eq_true rfl)
  rw [lg_entry_eq]
  generalize (lg_sl ([.int n]) ++ List.replicate (1 - (lg_sl ([.int n])).length) Slot.unset).toArray = ls at hl ⊢
  have hl : lv_has ls 1 [(0, .int n)] := hl
  refine lv_iload_n hx hb zd_M_isName_0 rfl (lv_at hl 0 rfl) ?_
  refine lv_if_lt (tgt := 15) hx hb zd_M_isName_1 rfl (fun h1 => ?_) (fun h1 => ?_)
  · refine lv_iconst (v := 0) hx hb zd_M_isName_15 (by decide) ?_
    exact zr_zret hx hb hr hlocks zd_M_isName_16 rfl (show 0 = zs_b (zs_nam n) from by simp [zs_nam, zs_b, h1])
  · refine lv_iload_n hx hb zd_M_isName_4 rfl (lv_at hl 0 rfl) ?_
    refine lv_sipush (v := 9999) hx hb zd_M_isName_5 (by decide) ?_
    refine lv_icmp_gt (tgt := 15) hx hb zd_M_isName_8 rfl (fun h2 => ?_) (fun h2 => ?_)
    · refine lv_iconst (v := 0) hx hb zd_M_isName_15 (by decide) ?_
      exact zr_zret hx hb hr hlocks zd_M_isName_16 rfl (show 0 = zs_b (zs_nam n) from by simp [zs_nam, zs_b, h1, h2])
    · refine lv_iconst (v := 1) hx hb zd_M_isName_11 (by decide) ?_
      refine lv_goto (tgt := 16) hx hb zd_M_isName_12 rfl ?_
      exact zr_zret hx hb hr hlocks zd_M_isName_16 rfl (show 1 = zs_b (zs_nam n) from by simp [zs_nam, zs_b, h1, h2])
set_option maxHeartbeats 4000000 in
set_option maxRecDepth 100000 in
theorem zc_M_tidy (l : Launch) (dC : Nat → ClassId) (dI : Nat → Nat → Nat) (cI cZ : ClassId) (a : Nat → Nat) (u : zs_X)  : Met l zy_M_tidy (.code zy_M_tidy zb_M_tidy 1 (some .boolean) :: zs_w) ({ frames := 0, cells := 0, slots := 0, locals := 0 }) (va_Pc [.ref (a 0)] (zs_r dC dI cI cZ (zs_wM cI cZ a u))) (vp_Si (fun r => r = zs_b u.1)) 0 0 (fun _ => False) := by
  obtain ⟨up, ⟨nm, hi, ln, op, wd⟩, ⟨nm2, hi2, ln2, op2, wd2⟩⟩ := u
  refine Met.ofW (cc := zb_M_tidy) (maxL := 1) (ret := (some .boolean)) (by decide) rfl ?_
  intro p e s m args below meth c s₁ B hml hv
  obtain ⟨rfl, hP, hk⟩ := hv
  have hx := B.exec
  have hb := B.bytes
  have hr := B.returns
  have hts := atoms_spec (ws := .code zy_M_tidy zb_M_tidy 1 (some .boolean) :: zs_w) B.pre
  have hz : ∀ w ∈ zs_w, w.before _ s = true := fun w h => hts w (List.mem_cons_of_mem _ h)
  have hown : s.vm.findClass "ZoneShelfModel" = some m.cls := findClass_of_methodNamed B.named
  have hlocks := B.notSynchronized
  have hP : va_P (dC, dI) zs_cl [(a 0, .inr (2, [.int (zs_b up), .ref (a 1), .ref (a 2), .ref (a 3), .ref (a 4), .ref (a 5), .ref (a 6), .ref (a 7), .ref (a 8), .ref (a 9), .ref (a 10)])), (a 1, .inl (cI, 24, .inl nm)), (a 2, .inl (cI, 24, .inl hi)), (a 3, .inl (cI, 24, .inl ln)), (a 4, .inl (cZ, 24, .inl op)), (a 5, .inl (cI, 1536, .inl wd)), (a 6, .inl (cI, 24, .inl nm2)), (a 7, .inl (cI, 24, .inl hi2)), (a 8, .inl (cI, 24, .inl ln2)), (a 9, .inl (cZ, 24, .inl op2)), (a 10, .inl (cI, 1536, .inl wd2))] s.heap := hP
  have hl := lv_entry ([.ref (a 0)]) (n := 1) (Nat.le_of_ble_eq_true rfl)
  rw [lg_entry_eq]
  generalize (lg_sl ([.ref (a 0)]) ++ List.replicate (1 - (lg_sl ([.ref (a 0)])).length) Slot.unset).toArray = ls at hl ⊢
  have hl : lv_has ls 1 [(0, .ref (a 0))] := hl
  refine lv_aload_n hx hb zd_M_tidy_0 rfl (lv_at hl 0 rfl) ?_
  refine va_get (D := (dC, dI)) (ci := 2) (v := .int (zs_b up)) (C := "ZoneShelfModel") (T := zs_T_M) (N := 11) hx hb hz zs_in_M hown hk.1 hP 0 rfl rfl 0 (by decide) (hz _ zq_183) (fun _ h9 => h9) rfl zd_M_tidy_1 ?_
  exact zr_zret hx hb hr hlocks zd_M_tidy_4 (zs_b_n _) (show (zs_b up) = zs_b up from by rfl)
set_option maxHeartbeats 4000000 in
set_option maxRecDepth 100000 in
theorem zc_M_isUp (l : Launch) (dC : Nat → ClassId) (dI : Nat → Nat → Nat) (cI cZ : ClassId) (a : Nat → Nat) (u : zs_X)  : Met l zy_M_isUp (.code zy_M_isUp zb_M_isUp 1 (some .boolean) :: zs_w) ({ frames := 0, cells := 0, slots := 0, locals := 0 }) (va_Pc [.ref (a 0)] (zs_r dC dI cI cZ (zs_wM cI cZ a u))) (vp_Si (fun r => r = zs_b u.1)) 0 0 (fun _ => False) := by
  obtain ⟨up, ⟨nm, hi, ln, op, wd⟩, ⟨nm2, hi2, ln2, op2, wd2⟩⟩ := u
  refine Met.ofW (cc := zb_M_isUp) (maxL := 1) (ret := (some .boolean)) (by decide) rfl ?_
  intro p e s m args below meth c s₁ B hml hv
  obtain ⟨rfl, hP, hk⟩ := hv
  have hx := B.exec
  have hb := B.bytes
  have hr := B.returns
  have hts := atoms_spec (ws := .code zy_M_isUp zb_M_isUp 1 (some .boolean) :: zs_w) B.pre
  have hz : ∀ w ∈ zs_w, w.before _ s = true := fun w h => hts w (List.mem_cons_of_mem _ h)
  have hown : s.vm.findClass "ZoneShelfModel" = some m.cls := findClass_of_methodNamed B.named
  have hlocks := B.notSynchronized
  have hP : va_P (dC, dI) zs_cl [(a 0, .inr (2, [.int (zs_b up), .ref (a 1), .ref (a 2), .ref (a 3), .ref (a 4), .ref (a 5), .ref (a 6), .ref (a 7), .ref (a 8), .ref (a 9), .ref (a 10)])), (a 1, .inl (cI, 24, .inl nm)), (a 2, .inl (cI, 24, .inl hi)), (a 3, .inl (cI, 24, .inl ln)), (a 4, .inl (cZ, 24, .inl op)), (a 5, .inl (cI, 1536, .inl wd)), (a 6, .inl (cI, 24, .inl nm2)), (a 7, .inl (cI, 24, .inl hi2)), (a 8, .inl (cI, 24, .inl ln2)), (a 9, .inl (cZ, 24, .inl op2)), (a 10, .inl (cI, 1536, .inl wd2))] s.heap := hP
  have hl := lv_entry ([.ref (a 0)]) (n := 1) (Nat.le_of_ble_eq_true rfl)
  rw [lg_entry_eq]
  generalize (lg_sl ([.ref (a 0)]) ++ List.replicate (1 - (lg_sl ([.ref (a 0)])).length) Slot.unset).toArray = ls at hl ⊢
  have hl : lv_has ls 1 [(0, .ref (a 0))] := hl
  refine lv_aload_n hx hb zd_M_isUp_0 rfl (lv_at hl 0 rfl) ?_
  refine va_get (D := (dC, dI)) (ci := 2) (v := .int (zs_b up)) (C := "ZoneShelfModel") (T := zs_T_M) (N := 11) hx hb hz zs_in_M hown hk.1 hP 0 rfl rfl 0 (by decide) (hz _ zq_183) (fun _ h9 => h9) rfl zd_M_isUp_1 ?_
  exact zr_zret hx hb hr hlocks zd_M_isUp_4 (zs_b_n _) (show (zs_b up) = zs_b up from by rfl)
set_option maxHeartbeats 4000000 in
set_option maxRecDepth 100000 in
theorem zc_M_is (l : Launch) (dC : Nat → ClassId) (dI : Nat → Nat → Nat) (cI cZ : ClassId) (a : Nat → Nat) (u : zs_X) (n : Int32) : Met l zy_M_is (.code zy_M_is zb_M_is 2 (some .boolean) :: zs_w) ({ frames := 0, cells := 0, slots := 0, locals := 0 }) (va_Pc [.ref (a 0), .int n] (zs_r dC dI cI cZ (zs_wM cI cZ a u))) (vp_Si (fun r => r = zs_b (zm_is u.1 u.2.1.1 n))) 0 0 (fun _ => False) := by
  obtain ⟨up, ⟨nm, hi, ln, op, wd⟩, ⟨nm2, hi2, ln2, op2, wd2⟩⟩ := u
  refine Met.ofW (cc := zb_M_is) (maxL := 2) (ret := (some .boolean)) (by decide) rfl ?_
  intro p e s m args below meth c s₁ B hml hv
  obtain ⟨rfl, hP, hk⟩ := hv
  have hx := B.exec
  have hb := B.bytes
  have hr := B.returns
  have hts := atoms_spec (ws := .code zy_M_is zb_M_is 2 (some .boolean) :: zs_w) B.pre
  have hz : ∀ w ∈ zs_w, w.before _ s = true := fun w h => hts w (List.mem_cons_of_mem _ h)
  have hown : s.vm.findClass "ZoneShelfModel" = some m.cls := findClass_of_methodNamed B.named
  have hlocks := B.notSynchronized
  have hP : va_P (dC, dI) zs_cl [(a 0, .inr (2, [.int (zs_b up), .ref (a 1), .ref (a 2), .ref (a 3), .ref (a 4), .ref (a 5), .ref (a 6), .ref (a 7), .ref (a 8), .ref (a 9), .ref (a 10)])), (a 1, .inl (cI, 24, .inl nm)), (a 2, .inl (cI, 24, .inl hi)), (a 3, .inl (cI, 24, .inl ln)), (a 4, .inl (cZ, 24, .inl op)), (a 5, .inl (cI, 1536, .inl wd)), (a 6, .inl (cI, 24, .inl nm2)), (a 7, .inl (cI, 24, .inl hi2)), (a 8, .inl (cI, 24, .inl ln2)), (a 9, .inl (cZ, 24, .inl op2)), (a 10, .inl (cI, 1536, .inl wd2))] s.heap := hP
  have hl := lv_entry ([.ref (a 0), .int n]) (n := 2) (Nat.le_of_ble_eq_true rfl)
  rw [lg_entry_eq]
  generalize (lg_sl ([.ref (a 0), .int n]) ++ List.replicate (2 - (lg_sl ([.ref (a 0), .int n])).length) Slot.unset).toArray = ls at hl ⊢
  have hl : lv_has ls 2 [(0, .ref (a 0)), (1, .int n)] := hl
  refine lv_aload_n hx hb zd_M_is_0 rfl (lv_at hl 0 rfl) ?_
  refine va_get (D := (dC, dI)) (ci := 2) (v := .int (zs_b up)) (C := "ZoneShelfModel") (T := zs_T_M) (N := 11) hx hb hz zs_in_M hown hk.1 hP 0 rfl rfl 0 (by decide) (hz _ zq_183) (fun _ h9 => h9) rfl zd_M_is_1 ?_
  refine zi_eq (tgt := 30) hx hb zd_M_is_4 rfl (fun h1 => ?_) (fun h1 => ?_)
  · subst h1
    refine lv_iconst (v := 0) hx hb zd_M_is_30 (by decide) ?_
    exact zr_zret hx hb hr hlocks zd_M_is_31 rfl (show 0 = zs_b (zm_is false nm n) from by simp [zm_is, zs_b])
  · subst h1
    refine lv_iload_n hx hb zd_M_is_7 rfl (lv_at hl 1 rfl) ?_
    refine lv_if_lt (tgt := 30) hx hb zd_M_is_8 rfl (fun h2 => ?_) (fun h2 => ?_)
    · refine lv_iconst (v := 0) hx hb zd_M_is_30 (by decide) ?_
      exact zr_zret hx hb hr hlocks zd_M_is_31 rfl (show 0 = zs_b (zm_is true nm n) from by simp [zm_is, zs_b, h2])
    · refine lv_iload_n hx hb zd_M_is_11 rfl (lv_at hl 1 rfl) ?_
      refine lv_bipush (v := 24) hx hb zd_M_is_12 (by decide) ?_
      refine lv_icmp_ge (tgt := 30) hx hb zd_M_is_14 rfl (fun h3 => ?_) (fun h3 => ?_)
      · refine lv_iconst (v := 0) hx hb zd_M_is_30 (by decide) ?_
        exact zr_zret hx hb hr hlocks zd_M_is_31 rfl (show 0 = zs_b (zm_is true nm n) from by simp [zm_is, zs_b, h2, h3])
      · obtain ⟨j, hj, rfl⟩ := zs_ix h2 h3
        refine lv_aload_n hx hb zd_M_is_17 rfl (lv_at hl 0 rfl) ?_
        refine va_get (D := (dC, dI)) (ci := 2) (v := .ref (a 1)) (C := "ZoneShelfModel") (T := zs_T_M) (N := 11) hx hb hz zs_in_M hown hk.1 hP 0 rfl rfl 1 (by decide) (hz _ zq_184) (fun _ h9 => h9) rfl zd_M_is_18 ?_
        refine lv_iload_n hx hb zd_M_is_21 rfl (lv_at hl 1 rfl) ?_
        refine zi_ald hx hb hk hP 1 (j := j) rfl (by omega) (by decide) zd_M_is_22 ?_
        refine lv_if_le (tgt := 30) hx hb zd_M_is_23 rfl (fun h4 => ?_) (fun h4 => ?_)
        · refine lv_iconst (v := 0) hx hb zd_M_is_30 (by decide) ?_
          exact zr_zret hx hb hr hlocks zd_M_is_31 rfl (show 0 = zs_b (zm_is true nm (nI j)) from by simp [zm_is, zs_b, h2, h3, nI_clamp (show j < 2 ^ 31 by omega), h4])
        · refine lv_iconst (v := 1) hx hb zd_M_is_26 (by decide) ?_
          refine lv_goto (tgt := 31) hx hb zd_M_is_27 rfl ?_
          exact zr_zret hx hb hr hlocks zd_M_is_31 rfl (show 1 = zs_b (zm_is true nm (nI j)) from by simp [zm_is, zs_b, h2, h3, nI_clamp (show j < 2 ^ 31 by omega), h4])
set_option maxHeartbeats 4000000 in
set_option maxRecDepth 100000 in
theorem zc_M_named (l : Launch) (dC : Nat → ClassId) (dI : Nat → Nat → Nat) (cI cZ : ClassId) (a : Nat → Nat) (u : zs_X) (x : Int32) : Met l zy_M_named (.code zy_M_named zb_M_named 4 (some .int) :: zs_w) ({ frames := 1, cells := 0, slots := 0, locals := 21 }) (va_Pc [.ref (a 0), .int x] (zs_r dC dI cI cZ (zs_wM cI cZ a u))) (vp_Si (fun r => r = zm_num u.1 u.2.1.1 x 24 0 (-1))) 0 0 (fun _ => False) := by
  obtain ⟨up, ⟨nm, hi, ln, op, wd⟩, ⟨nm2, hi2, ln2, op2, wd2⟩⟩ := u
  refine Met.ofW (cc := zb_M_named) (maxL := 4) (ret := (some .int)) (by decide) rfl ?_
  intro p e s m args below meth c s₁ B hml hv
  obtain ⟨rfl, hP, hk⟩ := hv
  have hx := B.exec
  have hb := B.bytes
  have hr := B.returns
  have hts := atoms_spec (ws := .code zy_M_named zb_M_named 4 (some .int) :: zs_w) B.pre
  have hz : ∀ w ∈ zs_w, w.before _ s = true := fun w h => hts w (List.mem_cons_of_mem _ h)
  have hown : s.vm.findClass "ZoneShelfModel" = some m.cls := findClass_of_methodNamed B.named
  have hlocks := B.notSynchronized
  have hP : va_P (dC, dI) zs_cl [(a 0, .inr (2, [.int (zs_b up), .ref (a 1), .ref (a 2), .ref (a 3), .ref (a 4), .ref (a 5), .ref (a 6), .ref (a 7), .ref (a 8), .ref (a 9), .ref (a 10)])), (a 1, .inl (cI, 24, .inl nm)), (a 2, .inl (cI, 24, .inl hi)), (a 3, .inl (cI, 24, .inl ln)), (a 4, .inl (cZ, 24, .inl op)), (a 5, .inl (cI, 1536, .inl wd)), (a 6, .inl (cI, 24, .inl nm2)), (a 7, .inl (cI, 24, .inl hi2)), (a 8, .inl (cI, 24, .inl ln2)), (a 9, .inl (cZ, 24, .inl op2)), (a 10, .inl (cI, 1536, .inl wd2))] s.heap := hP
  have hl := lv_entry ([.ref (a 0), .int x]) (n := 4) (Nat.le_of_ble_eq_true rfl)
  rw [lg_entry_eq]
  generalize (lg_sl ([.ref (a 0), .int x]) ++ List.replicate (4 - (lg_sl ([.ref (a 0), .int x])).length) Slot.unset).toArray = ls at hl ⊢
  have hl : lv_has ls 4 [(0, .ref (a 0)), (1, .int x)] := hl
  refine lv_iconst (v := (-1)) hx hb zd_M_named_0 (by decide) ?_
  refine lv_istore_n (lv' := [(2, .int (-1)), (0, .ref (a 0)), (1, .int x)]) hx hb zd_M_named_1 rfl hl (by decide) rfl (fun ls hl => ?_)
  refine lv_iconst (v := 0) hx hb zd_M_named_2 (by decide) ?_
  refine lv_istore_n (lv' := [(3, .int 0), (2, .int (-1)), (0, .ref (a 0)), (1, .int x)]) hx hb zd_M_named_3 rfl hl (by decide) rfl (fun ls hl => ?_)
  obtain ⟨v, hv0⟩ : ∃ v, v = zm_num up nm x 24 0 (-1) := ⟨_, rfl⟩
  refine zl_r (N := 24) (α := Int32) (fun kk ii xx ls => lv_has ls 4 [(3, .int (nI ii)), (2, .int xx), (0, .ref (a 0)), (1, .int x)] ∧ zm_num up nm x kk ii xx = v) (fun k1 i1 x1 ls e1 hv ih1 => ?_) (fun x1 ls hv => ?_) 24 0 (-1) ls rfl ⟨lv_sub hl [0, 1, 2, 3] rfl, hv0.symm⟩
  · obtain ⟨hl, hI1⟩ := hv
    have hl : lv_has ls 4 [(3, .int (nI i1)), (2, .int x1), (0, .ref (a 0)), (1, .int x)] := hl
    have hI1 : zm_num up nm x (k1 + 1) i1 x1 = v := hI1
    have hlt1 : i1 < 24 := by omega
    refine lv_iload_n hx hb zd_M_named_4 rfl (lv_at hl 0 rfl) ?_
    refine lv_bipush (v := 24) hx hb zd_M_named_5 (by decide) ?_
    refine zj_in (tgt := 49) (n := 24) hx hb zd_M_named_7 rfl (by decide) hlt1 (by decide) ?_
    refine lv_iload_n hx hb zd_M_named_10 rfl (lv_at hl 3 rfl) ?_
    refine zc_rS (rest := []) [.int x] hx hb hml hown hz (zc_M_isName l dC dI cI cZ x) zf_M_isName rfl rfl zq_209 zq_210 ⟨Nat.le_of_ble_eq_true rfl, Nat.le_of_ble_eq_true rfl⟩ rfl hl.1 rfl (Nat.le_of_ble_eq_true rfl) zd_M_named_11 ⟨Nat.zero_le _, Nat.zero_le _⟩ (fun r1 e2 => ?_)
    obtain rfl : r1 = zs_b (zs_nam x) := e2
    refine zi_eq (tgt := 41) hx hb zd_M_named_14 rfl (fun h3 => ?_) (fun h3 => ?_)
    · refine lv_iload_n hx hb zd_M_named_41 rfl (lv_at hl 1 rfl) ?_
      refine lv_istore_n (lv' := [(2, .int x1), (3, .int (nI i1)), (0, .ref (a 0)), (1, .int x)]) hx hb zd_M_named_42 rfl hl (by decide) rfl (fun ls hl => ?_)
      refine lv_iinc (k := 1) (v := nI (i1 + 1)) (lv' := [(3, .int (nI (i1 + 1))), (2, .int x1), (0, .ref (a 0)), (1, .int x)]) hx hb zd_M_named_43 hl rfl (zs_inc _) (by decide) rfl (fun ls hl => ?_)
      refine lv_goto (tgt := 4) hx hb zd_M_named_46 rfl ?_
      exact ih1 x1 ls ⟨lv_sub hl [0, 1, 2, 3] rfl, by rw [← hI1]; simp [zm_num, h3]⟩
    · refine lv_aload_n hx hb zd_M_named_17 rfl (lv_at hl 2 rfl) ?_
      refine lv_iload_n hx hb zd_M_named_18 rfl (lv_at hl 0 rfl) ?_
      refine zc_rV (rest := []) [.int (nI i1)] hx hb hml hown hz (zc_M_is l dC dI cI cZ a (up, (nm, hi, ln, op, wd), (nm2, hi2, ln2, op2, wd2)) (nI i1)) zf_M_is rfl rfl zq_215 zq_216 zq_15 ⟨Nat.le_of_ble_eq_true rfl, Nat.le_of_ble_eq_true rfl⟩ hk (hP.sub [0, 1, 2, 3, 4, 5, 6, 7, 8, 9, 10] rfl) 0 2 rfl rfl rfl rfl hl.1 rfl (Nat.le_of_ble_eq_true rfl) zd_M_named_19 ⟨Nat.zero_le _, Nat.zero_le _⟩ (fun r4 e5 => ?_)
      obtain rfl : r4 = zs_b (zm_at up nm i1) := e5.trans (congrArg zs_b (zm_is_at hlt1))
      refine zi_eq (tgt := 41) hx hb zd_M_named_22 rfl (fun h6 => ?_) (fun h6 => ?_)
      · refine lv_iload_n hx hb zd_M_named_41 rfl (lv_at hl 1 rfl) ?_
        refine lv_istore_n (lv' := [(2, .int x1), (3, .int (nI i1)), (0, .ref (a 0)), (1, .int x)]) hx hb zd_M_named_42 rfl hl (by decide) rfl (fun ls hl => ?_)
        refine lv_iinc (k := 1) (v := nI (i1 + 1)) (lv' := [(3, .int (nI (i1 + 1))), (2, .int x1), (0, .ref (a 0)), (1, .int x)]) hx hb zd_M_named_43 hl rfl (zs_inc _) (by decide) rfl (fun ls hl => ?_)
        refine lv_goto (tgt := 4) hx hb zd_M_named_46 rfl ?_
        exact ih1 x1 ls ⟨lv_sub hl [0, 1, 2, 3] rfl, by rw [← hI1]; simp [zm_num, h3, h6]⟩
      · refine lv_aload_n hx hb zd_M_named_25 rfl (lv_at hl 2 rfl) ?_
        refine va_get (D := (dC, dI)) (ci := 2) (v := .ref (a 1)) (C := "ZoneShelfModel") (T := zs_T_M) (N := 11) hx hb hz zs_in_M hown hk.1 hP 0 rfl rfl 1 (by decide) (hz _ zq_184) (fun _ h9 => h9) rfl zd_M_named_26 ?_
        refine lv_iload_n hx hb zd_M_named_29 rfl (lv_at hl 0 rfl) ?_
        refine zi_ald hx hb hk hP 1 (j := i1) rfl (by omega) (by decide) zd_M_named_30 ?_
        refine lv_iload_n hx hb zd_M_named_31 rfl (lv_at hl 3 rfl) ?_
        refine lv_iconst (v := 1) hx hb zd_M_named_32 (by decide) ?_
        refine lv_iadd hx hb zd_M_named_33 ?_
        refine lv_icmp_ne (tgt := 41) hx hb zd_M_named_34 rfl (fun h7 => ?_) (fun h7 => ?_)
        · refine lv_iload_n hx hb zd_M_named_41 rfl (lv_at hl 1 rfl) ?_
          refine lv_istore_n (lv' := [(2, .int x1), (3, .int (nI i1)), (0, .ref (a 0)), (1, .int x)]) hx hb zd_M_named_42 rfl hl (by decide) rfl (fun ls hl => ?_)
          refine lv_iinc (k := 1) (v := nI (i1 + 1)) (lv' := [(3, .int (nI (i1 + 1))), (2, .int x1), (0, .ref (a 0)), (1, .int x)]) hx hb zd_M_named_43 hl rfl (zs_inc _) (by decide) rfl (fun ls hl => ?_)
          refine lv_goto (tgt := 4) hx hb zd_M_named_46 rfl ?_
          exact ih1 x1 ls ⟨lv_sub hl [0, 1, 2, 3] rfl, by rw [← hI1]; simp [zm_num, h3, h6, h7]⟩
        · refine lv_iload_n hx hb zd_M_named_37 rfl (lv_at hl 0 rfl) ?_
          refine lv_goto (tgt := 42) hx hb zd_M_named_38 rfl ?_
          refine lv_istore_n (lv' := [(2, .int (nI i1)), (3, .int (nI i1)), (0, .ref (a 0)), (1, .int x)]) hx hb zd_M_named_42 rfl hl (by decide) rfl (fun ls hl => ?_)
          refine lv_iinc (k := 1) (v := nI (i1 + 1)) (lv' := [(3, .int (nI (i1 + 1))), (2, .int (nI i1)), (0, .ref (a 0)), (1, .int x)]) hx hb zd_M_named_43 hl rfl (zs_inc _) (by decide) rfl (fun ls hl => ?_)
          refine lv_goto (tgt := 4) hx hb zd_M_named_46 rfl ?_
          exact ih1 (nI i1) ls ⟨lv_sub hl [0, 1, 2, 3] rfl, by rw [← hI1]; simp [zm_num, h3, h6, h7]⟩
  · obtain ⟨hl, hI1⟩ := hv
    have hl : lv_has ls 4 [(3, .int (nI 24)), (2, .int x1), (0, .ref (a 0)), (1, .int x)] := hl
    have hI1 : zm_num up nm x 0 24 x1 = v := hI1
    refine lv_iload_n hx hb zd_M_named_4 rfl (lv_at hl 0 rfl) ?_
    refine lv_bipush (v := 24) hx hb zd_M_named_5 (by decide) ?_
    refine zj_out (tgt := 49) (n := 24) (i := 24) hx hb zd_M_named_7 rfl (by decide) (Nat.le_refl _) (by decide) ?_
    refine lv_iload_n hx hb zd_M_named_49 rfl (lv_at hl 1 rfl) ?_
    exact zr_iret hx hb hr hlocks zd_M_named_50 (show x1 = zm_num up nm x 24 0 (-1) from by rw [← hv0, ← hI1]; rfl)
set_option maxHeartbeats 4000000 in
set_option maxRecDepth 100000 in
theorem zc_M_left (l : Launch) (dC : Nat → ClassId) (dI : Nat → Nat → Nat) (cI cZ : ClassId) (a : Nat → Nat) (u : zs_X)  : Met l zy_M_left (.code zy_M_left zb_M_left 3 (some .int) :: zs_w) ({ frames := 0, cells := 0, slots := 0, locals := 0 }) (va_Pc [.ref (a 0)] (zs_r dC dI cI cZ (zs_wM cI cZ a u))) (vp_Si (fun r => r = zm_left u.2.1.1 u.2.1.2.2.1 24 0 200)) 0 0 (fun _ => False) := by
  obtain ⟨up, ⟨nm, hi, ln, op, wd⟩, ⟨nm2, hi2, ln2, op2, wd2⟩⟩ := u
  refine Met.ofW (cc := zb_M_left) (maxL := 3) (ret := (some .int)) (by decide) rfl ?_
  intro p e s m args below meth c s₁ B hml hv
  obtain ⟨rfl, hP, hk⟩ := hv
  have hx := B.exec
  have hb := B.bytes
  have hr := B.returns
  have hts := atoms_spec (ws := .code zy_M_left zb_M_left 3 (some .int) :: zs_w) B.pre
  have hz : ∀ w ∈ zs_w, w.before _ s = true := fun w h => hts w (List.mem_cons_of_mem _ h)
  have hown : s.vm.findClass "ZoneShelfModel" = some m.cls := findClass_of_methodNamed B.named
  have hlocks := B.notSynchronized
  have hP : va_P (dC, dI) zs_cl [(a 0, .inr (2, [.int (zs_b up), .ref (a 1), .ref (a 2), .ref (a 3), .ref (a 4), .ref (a 5), .ref (a 6), .ref (a 7), .ref (a 8), .ref (a 9), .ref (a 10)])), (a 1, .inl (cI, 24, .inl nm)), (a 2, .inl (cI, 24, .inl hi)), (a 3, .inl (cI, 24, .inl ln)), (a 4, .inl (cZ, 24, .inl op)), (a 5, .inl (cI, 1536, .inl wd)), (a 6, .inl (cI, 24, .inl nm2)), (a 7, .inl (cI, 24, .inl hi2)), (a 8, .inl (cI, 24, .inl ln2)), (a 9, .inl (cZ, 24, .inl op2)), (a 10, .inl (cI, 1536, .inl wd2))] s.heap := hP
  have hl := lv_entry ([.ref (a 0)]) (n := 3) (Nat.le_of_ble_eq_true rfl)
  rw [lg_entry_eq]
  generalize (lg_sl ([.ref (a 0)]) ++ List.replicate (3 - (lg_sl ([.ref (a 0)])).length) Slot.unset).toArray = ls at hl ⊢
  have hl : lv_has ls 3 [(0, .ref (a 0))] := hl
  refine lv_sipush (v := 200) hx hb zd_M_left_0 (by decide) ?_
  refine lv_istore_n (lv' := [(1, .int 200), (0, .ref (a 0))]) hx hb zd_M_left_3 rfl hl (by decide) rfl (fun ls hl => ?_)
  refine lv_iconst (v := 0) hx hb zd_M_left_4 (by decide) ?_
  refine lv_istore_n (lv' := [(2, .int 0), (1, .int 200), (0, .ref (a 0))]) hx hb zd_M_left_5 rfl hl (by decide) rfl (fun ls hl => ?_)
  obtain ⟨v, hv0⟩ : ∃ v, v = zm_left nm ln 24 0 200 := ⟨_, rfl⟩
  refine zl_r (N := 24) (α := Int32) (fun kk ii xx ls => lv_has ls 3 [(2, .int (nI ii)), (1, .int xx), (0, .ref (a 0))] ∧ zm_left nm ln kk ii xx = v) (fun k1 i1 x1 ls e1 hv ih1 => ?_) (fun x1 ls hv => ?_) 24 0 200 ls rfl ⟨lv_sub hl [0, 1, 2] rfl, hv0.symm⟩
  · obtain ⟨hl, hI1⟩ := hv
    have hl : lv_has ls 3 [(2, .int (nI i1)), (1, .int x1), (0, .ref (a 0))] := hl
    have hI1 : zm_left nm ln (k1 + 1) i1 x1 = v := hI1
    have hlt1 : i1 < 24 := by omega
    refine lv_iload_n hx hb zd_M_left_6 rfl (lv_at hl 0 rfl) ?_
    refine lv_bipush (v := 24) hx hb zd_M_left_7 (by decide) ?_
    refine zj_in (tgt := 40) (n := 24) hx hb zd_M_left_9 rfl (by decide) hlt1 (by decide) ?_
    refine lv_iload_n hx hb zd_M_left_12 rfl (lv_at hl 1 rfl) ?_
    refine lv_aload_n hx hb zd_M_left_13 rfl (lv_at hl 2 rfl) ?_
    refine va_get (D := (dC, dI)) (ci := 2) (v := .ref (a 1)) (C := "ZoneShelfModel") (T := zs_T_M) (N := 11) hx hb hz zs_in_M hown hk.1 hP 0 rfl rfl 1 (by decide) (hz _ zq_184) (fun _ h9 => h9) rfl zd_M_left_14 ?_
    refine lv_iload_n hx hb zd_M_left_17 rfl (lv_at hl 0 rfl) ?_
    refine zi_ald hx hb hk hP 1 (j := i1) rfl (by omega) (by decide) zd_M_left_18 ?_
    refine lv_if_le (tgt := 31) hx hb zd_M_left_19 rfl (fun h1 => ?_) (fun h1 => ?_)
    · refine lv_iconst (v := 0) hx hb zd_M_left_31 (by decide) ?_
      refine lv_isub hx hb zd_M_left_32 ?_
      refine lv_istore_n (lv' := [(1, .int (x1 - 0)), (2, .int (nI i1)), (0, .ref (a 0))]) hx hb zd_M_left_33 rfl hl (by decide) rfl (fun ls hl => ?_)
      refine lv_iinc (k := 1) (v := nI (i1 + 1)) (lv' := [(2, .int (nI (i1 + 1))), (1, .int (x1 - 0)), (0, .ref (a 0))]) hx hb zd_M_left_34 hl rfl (zs_inc _) (by decide) rfl (fun ls hl => ?_)
      refine lv_goto (tgt := 6) hx hb zd_M_left_37 rfl ?_
      exact ih1 (x1 - 0) ls ⟨lv_sub hl [0, 1, 2] rfl, by rw [← hI1]; simp only [zm_left]; rw [if_pos h1]⟩
    · refine lv_aload_n hx hb zd_M_left_22 rfl (lv_at hl 2 rfl) ?_
      refine va_get (D := (dC, dI)) (ci := 2) (v := .ref (a 3)) (C := "ZoneShelfModel") (T := zs_T_M) (N := 11) hx hb hz zs_in_M hown hk.1 hP 0 rfl rfl 3 (by decide) (hz _ zq_186) (fun _ h9 => h9) rfl zd_M_left_23 ?_
      refine lv_iload_n hx hb zd_M_left_26 rfl (lv_at hl 0 rfl) ?_
      refine zi_ald hx hb hk hP 3 (j := i1) rfl (by omega) (by decide) zd_M_left_27 ?_
      refine lv_goto (tgt := 32) hx hb zd_M_left_28 rfl ?_
      refine lv_isub hx hb zd_M_left_32 ?_
      refine lv_istore_n (lv' := [(1, .int (x1 - (ln i1))), (2, .int (nI i1)), (0, .ref (a 0))]) hx hb zd_M_left_33 rfl hl (by decide) rfl (fun ls hl => ?_)
      refine lv_iinc (k := 1) (v := nI (i1 + 1)) (lv' := [(2, .int (nI (i1 + 1))), (1, .int (x1 - (ln i1))), (0, .ref (a 0))]) hx hb zd_M_left_34 hl rfl (zs_inc _) (by decide) rfl (fun ls hl => ?_)
      refine lv_goto (tgt := 6) hx hb zd_M_left_37 rfl ?_
      exact ih1 (x1 - ln i1) ls ⟨lv_sub hl [0, 1, 2] rfl, by rw [← hI1]; simp only [zm_left]; rw [if_neg h1]⟩
  · obtain ⟨hl, hI1⟩ := hv
    have hl : lv_has ls 3 [(2, .int (nI 24)), (1, .int x1), (0, .ref (a 0))] := hl
    have hI1 : zm_left nm ln 0 24 x1 = v := hI1
    refine lv_iload_n hx hb zd_M_left_6 rfl (lv_at hl 0 rfl) ?_
    refine lv_bipush (v := 24) hx hb zd_M_left_7 (by decide) ?_
    refine zj_out (tgt := 40) (n := 24) (i := 24) hx hb zd_M_left_9 rfl (by decide) (Nat.le_refl _) (by decide) ?_
    refine lv_iload_n hx hb zd_M_left_40 rfl (lv_at hl 1 rfl) ?_
    exact zr_iret hx hb hr hlocks zd_M_left_41 (show x1 = zm_left nm ln 24 0 200 from by rw [← hv0, ← hI1]; rfl)
set_option maxHeartbeats 4000000 in
set_option maxRecDepth 100000 in
theorem zc_M_objects (l : Launch) (dC : Nat → ClassId) (dI : Nat → Nat → Nat) (cI cZ : ClassId) (a : Nat → Nat) (u : zs_X)  : Met l zy_M_objects (.code zy_M_objects zb_M_objects 3 (some .int) :: zs_w) ({ frames := 1, cells := 0, slots := 0, locals := 21 }) (va_Pc [.ref (a 0)] (zs_r dC dI cI cZ (zs_wM cI cZ a u))) (vp_Si (fun r => r = zm_objects u)) 0 0 (fun _ => False) := by
  obtain ⟨up, ⟨nm, hi, ln, op, wd⟩, ⟨nm2, hi2, ln2, op2, wd2⟩⟩ := u
  refine Met.ofW (cc := zb_M_objects) (maxL := 3) (ret := (some .int)) (by decide) rfl ?_
  intro p e s m args below meth c s₁ B hml hv
  obtain ⟨rfl, hP, hk⟩ := hv
  have hx := B.exec
  have hb := B.bytes
  have hr := B.returns
  have hts := atoms_spec (ws := .code zy_M_objects zb_M_objects 3 (some .int) :: zs_w) B.pre
  have hz : ∀ w ∈ zs_w, w.before _ s = true := fun w h => hts w (List.mem_cons_of_mem _ h)
  have hown : s.vm.findClass "ZoneShelfModel" = some m.cls := findClass_of_methodNamed B.named
  have hlocks := B.notSynchronized
  have hP : va_P (dC, dI) zs_cl [(a 0, .inr (2, [.int (zs_b up), .ref (a 1), .ref (a 2), .ref (a 3), .ref (a 4), .ref (a 5), .ref (a 6), .ref (a 7), .ref (a 8), .ref (a 9), .ref (a 10)])), (a 1, .inl (cI, 24, .inl nm)), (a 2, .inl (cI, 24, .inl hi)), (a 3, .inl (cI, 24, .inl ln)), (a 4, .inl (cZ, 24, .inl op)), (a 5, .inl (cI, 1536, .inl wd)), (a 6, .inl (cI, 24, .inl nm2)), (a 7, .inl (cI, 24, .inl hi2)), (a 8, .inl (cI, 24, .inl ln2)), (a 9, .inl (cZ, 24, .inl op2)), (a 10, .inl (cI, 1536, .inl wd2))] s.heap := hP
  have hl := lv_entry ([.ref (a 0)]) (n := 3) (Nat.le_of_ble_eq_true rfl)
  rw [lg_entry_eq]
  generalize (lg_sl ([.ref (a 0)]) ++ List.replicate (3 - (lg_sl ([.ref (a 0)])).length) Slot.unset).toArray = ls at hl ⊢
  have hl : lv_has ls 3 [(0, .ref (a 0))] := hl
  refine lv_iconst (v := 0) hx hb zd_M_objects_0 (by decide) ?_
  refine lv_istore_n (lv' := [(1, .int 0), (0, .ref (a 0))]) hx hb zd_M_objects_1 rfl hl (by decide) rfl (fun ls hl => ?_)
  refine lv_iconst (v := 0) hx hb zd_M_objects_2 (by decide) ?_
  refine lv_istore_n (lv' := [(2, .int 0), (1, .int 0), (0, .ref (a 0))]) hx hb zd_M_objects_3 rfl hl (by decide) rfl (fun ls hl => ?_)
  obtain ⟨v, hv0⟩ : ∃ v, v = zm_cnt up nm 24 0 0 := ⟨_, rfl⟩
  refine zl_r (N := 24) (α := Int32) (fun kk ii xx ls => lv_has ls 3 [(2, .int (nI ii)), (1, .int xx), (0, .ref (a 0))] ∧ zm_cnt up nm kk ii xx = v) (fun k1 i1 x1 ls e1 hv ih1 => ?_) (fun x1 ls hv => ?_) 24 0 0 ls rfl ⟨lv_sub hl [0, 1, 2] rfl, hv0.symm⟩
  · obtain ⟨hl, hI1⟩ := hv
    have hl : lv_has ls 3 [(2, .int (nI i1)), (1, .int x1), (0, .ref (a 0))] := hl
    have hI1 : zm_cnt up nm (k1 + 1) i1 x1 = v := hI1
    have hlt1 : i1 < 24 := by omega
    refine lv_iload_n hx hb zd_M_objects_4 rfl (lv_at hl 0 rfl) ?_
    refine lv_bipush (v := 24) hx hb zd_M_objects_5 (by decide) ?_
    refine zj_in (tgt := 32) (n := 24) hx hb zd_M_objects_7 rfl (by decide) hlt1 (by decide) ?_
    refine lv_iload_n hx hb zd_M_objects_10 rfl (lv_at hl 1 rfl) ?_
    refine lv_aload_n hx hb zd_M_objects_11 rfl (lv_at hl 2 rfl) ?_
    refine lv_iload_n hx hb zd_M_objects_12 rfl (lv_at hl 0 rfl) ?_
    refine zc_rV (rest := [.int x1]) [.int (nI i1)] hx hb hml hown hz (zc_M_is l dC dI cI cZ a (up, (nm, hi, ln, op, wd), (nm2, hi2, ln2, op2, wd2)) (nI i1)) zf_M_is rfl rfl zq_215 zq_216 zq_15 ⟨Nat.le_of_ble_eq_true rfl, Nat.le_of_ble_eq_true rfl⟩ hk (hP.sub [0, 1, 2, 3, 4, 5, 6, 7, 8, 9, 10] rfl) 0 2 rfl rfl rfl rfl hl.1 rfl (Nat.le_of_ble_eq_true rfl) zd_M_objects_13 ⟨Nat.zero_le _, Nat.zero_le _⟩ (fun r1 e2 => ?_)
    obtain rfl : r1 = zs_b (zm_at up nm i1) := e2.trans (congrArg zs_b (zm_is_at hlt1))
    refine zi_eq (tgt := 23) hx hb zd_M_objects_16 rfl (fun h3 => ?_) (fun h3 => ?_)
    · refine lv_iconst (v := 0) hx hb zd_M_objects_23 (by decide) ?_
      refine lv_iadd hx hb zd_M_objects_24 ?_
      refine lv_istore_n (lv' := [(1, .int (x1 + 0)), (2, .int (nI i1)), (0, .ref (a 0))]) hx hb zd_M_objects_25 rfl hl (by decide) rfl (fun ls hl => ?_)
      refine lv_iinc (k := 1) (v := nI (i1 + 1)) (lv' := [(2, .int (nI (i1 + 1))), (1, .int (x1 + 0)), (0, .ref (a 0))]) hx hb zd_M_objects_26 hl rfl (zs_inc _) (by decide) rfl (fun ls hl => ?_)
      refine lv_goto (tgt := 4) hx hb zd_M_objects_29 rfl ?_
      exact ih1 (x1 + 0) ls ⟨lv_sub hl [0, 1, 2] rfl, by rw [← hI1]; simp only [zm_cnt]; rw [if_neg (by rw [h3]; decide)]⟩
    · refine lv_iconst (v := 1) hx hb zd_M_objects_19 (by decide) ?_
      refine lv_goto (tgt := 24) hx hb zd_M_objects_20 rfl ?_
      refine lv_iadd hx hb zd_M_objects_24 ?_
      refine lv_istore_n (lv' := [(1, .int (x1 + 1)), (2, .int (nI i1)), (0, .ref (a 0))]) hx hb zd_M_objects_25 rfl hl (by decide) rfl (fun ls hl => ?_)
      refine lv_iinc (k := 1) (v := nI (i1 + 1)) (lv' := [(2, .int (nI (i1 + 1))), (1, .int (x1 + 1)), (0, .ref (a 0))]) hx hb zd_M_objects_26 hl rfl (zs_inc _) (by decide) rfl (fun ls hl => ?_)
      refine lv_goto (tgt := 4) hx hb zd_M_objects_29 rfl ?_
      exact ih1 (x1 + 1) ls ⟨lv_sub hl [0, 1, 2] rfl, by rw [← hI1]; simp only [zm_cnt]; rw [if_pos h3]⟩
  · obtain ⟨hl, hI1⟩ := hv
    have hl : lv_has ls 3 [(2, .int (nI 24)), (1, .int x1), (0, .ref (a 0))] := hl
    have hI1 : zm_cnt up nm 0 24 x1 = v := hI1
    refine lv_iload_n hx hb zd_M_objects_4 rfl (lv_at hl 0 rfl) ?_
    refine lv_bipush (v := 24) hx hb zd_M_objects_5 (by decide) ?_
    refine zj_out (tgt := 32) (n := 24) (i := 24) hx hb zd_M_objects_7 rfl (by decide) (Nat.le_refl _) (by decide) ?_
    refine lv_iload_n hx hb zd_M_objects_32 rfl (lv_at hl 1 rfl) ?_
    exact zr_iret hx hb hr hlocks zd_M_objects_33 (show x1 = zm_objects (up, (nm, hi, ln, op, wd), (nm2, hi2, ln2, op2, wd2)) from by show x1 = zm_cnt up nm 24 0 0; rw [← hv0, ← hI1]; rfl)
set_option maxHeartbeats 4000000 in
set_option maxRecDepth 100000 in
theorem zc_M_room (l : Launch) (dC : Nat → ClassId) (dI : Nat → Nat → Nat) (cI cZ : ClassId) (a : Nat → Nat) (u : zs_X)  : Met l zy_M_room (.code zy_M_room zb_M_room 1 (some .int) :: zs_w) ({ frames := 1, cells := 0, slots := 0, locals := 22 }) (va_Pc [.ref (a 0)] (zs_r dC dI cI cZ (zs_wM cI cZ a u))) (vp_Si (fun r => r = zm_room u)) 0 0 (fun _ => False) := by
  obtain ⟨up, ⟨nm, hi, ln, op, wd⟩, ⟨nm2, hi2, ln2, op2, wd2⟩⟩ := u
  refine Met.ofW (cc := zb_M_room) (maxL := 1) (ret := (some .int)) (by decide) rfl ?_
  intro p e s m args below meth c s₁ B hml hv
  obtain ⟨rfl, hP, hk⟩ := hv
  have hx := B.exec
  have hb := B.bytes
  have hr := B.returns
  have hts := atoms_spec (ws := .code zy_M_room zb_M_room 1 (some .int) :: zs_w) B.pre
  have hz : ∀ w ∈ zs_w, w.before _ s = true := fun w h => hts w (List.mem_cons_of_mem _ h)
  have hown : s.vm.findClass "ZoneShelfModel" = some m.cls := findClass_of_methodNamed B.named
  have hlocks := B.notSynchronized
  have hP : va_P (dC, dI) zs_cl [(a 0, .inr (2, [.int (zs_b up), .ref (a 1), .ref (a 2), .ref (a 3), .ref (a 4), .ref (a 5), .ref (a 6), .ref (a 7), .ref (a 8), .ref (a 9), .ref (a 10)])), (a 1, .inl (cI, 24, .inl nm)), (a 2, .inl (cI, 24, .inl hi)), (a 3, .inl (cI, 24, .inl ln)), (a 4, .inl (cZ, 24, .inl op)), (a 5, .inl (cI, 1536, .inl wd)), (a 6, .inl (cI, 24, .inl nm2)), (a 7, .inl (cI, 24, .inl hi2)), (a 8, .inl (cI, 24, .inl ln2)), (a 9, .inl (cZ, 24, .inl op2)), (a 10, .inl (cI, 1536, .inl wd2))] s.heap := hP
  have hl := lv_entry ([.ref (a 0)]) (n := 1) (Nat.le_of_ble_eq_true rfl)
  rw [lg_entry_eq]
  generalize (lg_sl ([.ref (a 0)]) ++ List.replicate (1 - (lg_sl ([.ref (a 0)])).length) Slot.unset).toArray = ls at hl ⊢
  have hl : lv_has ls 1 [(0, .ref (a 0))] := hl
  refine lv_aload_n hx hb zd_M_room_0 rfl (lv_at hl 0 rfl) ?_
  refine va_get (D := (dC, dI)) (ci := 2) (v := .int (zs_b up)) (C := "ZoneShelfModel") (T := zs_T_M) (N := 11) hx hb hz zs_in_M hown hk.1 hP 0 rfl rfl 0 (by decide) (hz _ zq_183) (fun _ h9 => h9) rfl zd_M_room_1 ?_
  refine zi_eq (tgt := 14) hx hb zd_M_room_4 rfl (fun h1 => ?_) (fun h1 => ?_)
  · subst h1
    refine lv_iconst (v := 0) hx hb zd_M_room_14 (by decide) ?_
    exact zr_iret hx hb hr hlocks zd_M_room_15 (show 0 = zm_room (false, (nm, hi, ln, op, wd), (nm2, hi2, ln2, op2, wd2)) from by simp [zm_room])
  · subst h1
    refine lv_aload_n hx hb zd_M_room_7 rfl (lv_at hl 0 rfl) ?_
    refine zc_rV (rest := []) [] hx hb hml hown hz (zc_M_left l dC dI cI cZ a (true, (nm, hi, ln, op, wd), (nm2, hi2, ln2, op2, wd2)) ) zf_M_left rfl rfl zq_226 zq_227 zq_16 ⟨Nat.le_of_ble_eq_true rfl, Nat.le_of_ble_eq_true rfl⟩ hk (hP.sub [0, 1, 2, 3, 4, 5, 6, 7, 8, 9, 10] rfl) 0 2 rfl rfl rfl rfl hl.1 rfl (Nat.le_of_ble_eq_true rfl) zd_M_room_8 ⟨Nat.zero_le _, Nat.zero_le _⟩ (fun r2 e3 => ?_)
    obtain rfl : r2 = zm_left nm ln 24 0 200 := e3
    refine lv_goto (tgt := 15) hx hb zd_M_room_11 rfl ?_
    exact zr_iret hx hb hr hlocks zd_M_room_15 (show (zm_left nm ln 24 0 200) = zm_room (true, (nm, hi, ln, op, wd), (nm2, hi2, ln2, op2, wd2)) from by simp [zm_room])
set_option maxHeartbeats 4000000 in
set_option maxRecDepth 100000 in
theorem zc_M_object (l : Launch) (dC : Nat → ClassId) (dI : Nat → Nat → Nat) (cI cZ : ClassId) (a : Nat → Nat) (u : zs_X) (o w : Int32) : Met l zy_M_object (.code zy_M_object zb_M_object 3 (some .int) :: zs_w) ({ frames := 1, cells := 0, slots := 0, locals := 21 }) (va_Pc [.ref (a 0), .int o, .int w] (zs_r dC dI cI cZ (zs_wM cI cZ a u))) (vp_Si (fun r => r = zm_object u o w)) 0 0 (fun _ => False) := by
  obtain ⟨up, ⟨nm, hi, ln, op, wd⟩, ⟨nm2, hi2, ln2, op2, wd2⟩⟩ := u
  refine Met.ofW (cc := zb_M_object) (maxL := 3) (ret := (some .int)) (by decide) rfl ?_
  intro p e s m args below meth c s₁ B hml hv
  obtain ⟨rfl, hP, hk⟩ := hv
  have hx := B.exec
  have hb := B.bytes
  have hr := B.returns
  have hts := atoms_spec (ws := .code zy_M_object zb_M_object 3 (some .int) :: zs_w) B.pre
  have hz : ∀ w ∈ zs_w, w.before _ s = true := fun w h => hts w (List.mem_cons_of_mem _ h)
  have hown : s.vm.findClass "ZoneShelfModel" = some m.cls := findClass_of_methodNamed B.named
  have hlocks := B.notSynchronized
  have hP : va_P (dC, dI) zs_cl [(a 0, .inr (2, [.int (zs_b up), .ref (a 1), .ref (a 2), .ref (a 3), .ref (a 4), .ref (a 5), .ref (a 6), .ref (a 7), .ref (a 8), .ref (a 9), .ref (a 10)])), (a 1, .inl (cI, 24, .inl nm)), (a 2, .inl (cI, 24, .inl hi)), (a 3, .inl (cI, 24, .inl ln)), (a 4, .inl (cZ, 24, .inl op)), (a 5, .inl (cI, 1536, .inl wd)), (a 6, .inl (cI, 24, .inl nm2)), (a 7, .inl (cI, 24, .inl hi2)), (a 8, .inl (cI, 24, .inl ln2)), (a 9, .inl (cZ, 24, .inl op2)), (a 10, .inl (cI, 1536, .inl wd2))] s.heap := hP
  have hl := lv_entry ([.ref (a 0), .int o, .int w]) (n := 3) (Nat.le_of_ble_eq_true rfl)
  rw [lg_entry_eq]
  generalize (lg_sl ([.ref (a 0), .int o, .int w]) ++ List.replicate (3 - (lg_sl ([.ref (a 0), .int o, .int w])).length) Slot.unset).toArray = ls at hl ⊢
  have hl : lv_has ls 3 [(0, .ref (a 0)), (1, .int o), (2, .int w)] := hl
  refine lv_aload_n hx hb zd_M_object_0 rfl (lv_at hl 0 rfl) ?_
  refine lv_iload_n hx hb zd_M_object_1 rfl (lv_at hl 1 rfl) ?_
  refine zc_rV (rest := []) [.int o] hx hb hml hown hz (zc_M_is l dC dI cI cZ a (up, (nm, hi, ln, op, wd), (nm2, hi2, ln2, op2, wd2)) o) zf_M_is rfl rfl zq_215 zq_216 zq_15 ⟨Nat.le_of_ble_eq_true rfl, Nat.le_of_ble_eq_true rfl⟩ hk (hP.sub [0, 1, 2, 3, 4, 5, 6, 7, 8, 9, 10] rfl) 0 2 rfl rfl rfl rfl hl.1 rfl (Nat.le_of_ble_eq_true rfl) zd_M_object_2 ⟨Nat.zero_le _, Nat.zero_le _⟩ (fun r1 e2 => ?_)
  obtain rfl : r1 = zs_b (zm_is up nm o) := e2
  refine zi_ne (tgt := 10) hx hb zd_M_object_5 rfl (fun h3 => ?_) (fun h3 => ?_)
  · obtain ⟨j, hj, rfl, hup, htk⟩ := zm_is_t h3
    refine lv_iload_n hx hb zd_M_object_10 rfl (lv_at hl 2 rfl) ?_
    by_cases c0 : w = 0
    · refine lv_tableIn (off := 29) (tgt := 40) hx hb zd_M_object_11 (by rw [c0]; decide) (by rw [c0]; decide) (by rw [c0]; rfl) rfl ?_
      refine lv_aload_n hx hb zd_M_object_40 rfl (lv_at hl 0 rfl) ?_
      refine va_get (D := (dC, dI)) (ci := 2) (v := .ref (a 1)) (C := "ZoneShelfModel") (T := zs_T_M) (N := 11) hx hb hz zs_in_M hown hk.1 hP 0 rfl rfl 1 (by decide) (hz _ zq_184) (fun _ h9 => h9) rfl zd_M_object_41 ?_
      refine lv_iload_n hx hb zd_M_object_44 rfl (lv_at hl 1 rfl) ?_
      refine zi_ald hx hb hk hP 1 (j := j) rfl (by omega) (by decide) zd_M_object_45 ?_
      refine lv_iconst (v := 1) hx hb zd_M_object_46 (by decide) ?_
      refine lv_isub hx hb zd_M_object_47 ?_
      exact zr_iret hx hb hr hlocks zd_M_object_48 (show ((nm j) - 1) = zm_object (up, (nm, hi, ln, op, wd), (nm2, hi2, ln2, op2, wd2)) (nI j) w from by simp only [zm_object]; rw [if_pos h3, if_pos c0, nI_clamp (show j < 2 ^ 31 by omega)])
    · by_cases c1 : w = 1
      · refine lv_tableIn (off := 38) (tgt := 49) hx hb zd_M_object_11 (by rw [c1]; decide) (by rw [c1]; decide) (by rw [c1]; rfl) rfl ?_
        refine lv_aload_n hx hb zd_M_object_49 rfl (lv_at hl 0 rfl) ?_
        refine va_get (D := (dC, dI)) (ci := 2) (v := .ref (a 2)) (C := "ZoneShelfModel") (T := zs_T_M) (N := 11) hx hb hz zs_in_M hown hk.1 hP 0 rfl rfl 2 (by decide) (hz _ zq_185) (fun _ h9 => h9) rfl zd_M_object_50 ?_
        refine lv_iload_n hx hb zd_M_object_53 rfl (lv_at hl 1 rfl) ?_
        refine zi_ald hx hb hk hP 2 (j := j) rfl (by omega) (by decide) zd_M_object_54 ?_
        exact zr_iret hx hb hr hlocks zd_M_object_55 (show (hi j) = zm_object (up, (nm, hi, ln, op, wd), (nm2, hi2, ln2, op2, wd2)) (nI j) w from by simp only [zm_object]; rw [if_pos h3, if_neg c0, if_pos c1, nI_clamp (show j < 2 ^ 31 by omega)])
      · by_cases c2 : w = 2
        · refine lv_tableIn (off := 45) (tgt := 56) hx hb zd_M_object_11 (by rw [c2]; decide) (by rw [c2]; decide) (by rw [c2]; rfl) rfl ?_
          refine lv_aload_n hx hb zd_M_object_56 rfl (lv_at hl 0 rfl) ?_
          refine va_get (D := (dC, dI)) (ci := 2) (v := .ref (a 3)) (C := "ZoneShelfModel") (T := zs_T_M) (N := 11) hx hb hz zs_in_M hown hk.1 hP 0 rfl rfl 3 (by decide) (hz _ zq_186) (fun _ h9 => h9) rfl zd_M_object_57 ?_
          refine lv_iload_n hx hb zd_M_object_60 rfl (lv_at hl 1 rfl) ?_
          refine zi_ald hx hb hk hP 3 (j := j) rfl (by omega) (by decide) zd_M_object_61 ?_
          exact zr_iret hx hb hr hlocks zd_M_object_62 (show (ln j) = zm_object (up, (nm, hi, ln, op, wd), (nm2, hi2, ln2, op2, wd2)) (nI j) w from by simp only [zm_object]; rw [if_pos h3, if_neg c0, if_neg c1, if_pos c2, nI_clamp (show j < 2 ^ 31 by omega)])
        · by_cases c3 : w = 3
          · refine lv_tableIn (off := 52) (tgt := 63) hx hb zd_M_object_11 (by rw [c3]; decide) (by rw [c3]; decide) (by rw [c3]; rfl) rfl ?_
            refine lv_aload_n hx hb zd_M_object_63 rfl (lv_at hl 0 rfl) ?_
            refine va_get (D := (dC, dI)) (ci := 2) (v := .ref (a 4)) (C := "ZoneShelfModel") (T := zs_T_M) (N := 11) hx hb hz zs_in_M hown hk.1 hP 0 rfl rfl 4 (by decide) (hz _ zq_187) (fun _ h9 => h9) rfl zd_M_object_64 ?_
            refine lv_iload_n hx hb zd_M_object_67 rfl (lv_at hl 1 rfl) ?_
            refine zi_zld hx hb hk hP 4 (j := j) rfl (by omega) (by decide) zd_M_object_68 ?_
            refine lv_if_eq (tgt := 76) hx hb zd_M_object_69 rfl (fun h4 => ?_) (fun h4 => ?_)
            · refine lv_iconst (v := 0) hx hb zd_M_object_76 (by decide) ?_
              exact zr_iret hx hb hr hlocks zd_M_object_77 (show 0 = zm_object (up, (nm, hi, ln, op, wd), (nm2, hi2, ln2, op2, wd2)) (nI j) w from by simp only [zm_object]; rw [if_pos h3, if_neg c0, if_neg c1, if_neg c2, if_pos c3, nI_clamp (show j < 2 ^ 31 by omega), if_pos h4])
            · refine lv_iconst (v := 1) hx hb zd_M_object_72 (by decide) ?_
              refine lv_goto (tgt := 77) hx hb zd_M_object_73 rfl ?_
              exact zr_iret hx hb hr hlocks zd_M_object_77 (show 1 = zm_object (up, (nm, hi, ln, op, wd), (nm2, hi2, ln2, op2, wd2)) (nI j) w from by simp only [zm_object]; rw [if_pos h3, if_neg c0, if_neg c1, if_neg c2, if_pos c3, nI_clamp (show j < 2 ^ 31 by omega), if_neg h4])
          · refine lv_tableOut (tgt := 78) hx hb zd_M_object_11 (zs_sw4 c0 c1 c2 c3) rfl ?_
            refine lv_iconst (v := (-1)) hx hb zd_M_object_78 (by decide) ?_
            exact zr_iret hx hb hr hlocks zd_M_object_79 (show (-1) = zm_object (up, (nm, hi, ln, op, wd), (nm2, hi2, ln2, op2, wd2)) (nI j) w from by simp only [zm_object]; rw [if_pos h3, if_neg c0, if_neg c1, if_neg c2, if_neg c3])
  · refine lv_iconst (v := (-1)) hx hb zd_M_object_8 (by decide) ?_
    exact zr_iret hx hb hr hlocks zd_M_object_9 (show (-1) = zm_object (up, (nm, hi, ln, op, wd), (nm2, hi2, ln2, op2, wd2)) o w from by simp [zm_object, h3])
set_option maxHeartbeats 4000000 in
set_option maxRecDepth 100000 in
theorem zc_M_word (l : Launch) (dC : Nat → ClassId) (dI : Nat → Nat → Nat) (cI cZ : ClassId) (a : Nat → Nat) (u : zs_X) (hok : zm_ok u) (o i : Int32) : Met l zy_M_word (.code zy_M_word zb_M_word 3 (some .int) :: zs_w) ({ frames := 1, cells := 0, slots := 0, locals := 21 }) (va_Pc [.ref (a 0), .int o, .int i] (zs_r dC dI cI cZ (zs_wM cI cZ a u))) (vp_Si (fun r => r = zm_word u o i)) 0 0 (fun _ => False) := by
  obtain ⟨up, ⟨nm, hi, ln, op, wd⟩, ⟨nm2, hi2, ln2, op2, wd2⟩⟩ := u
  have hok : ∀ j, j < 24 → ¬ nm j ≤ 0 → ∃ q : Nat, q ≤ 64 ∧ ln j = nI q := hok
  refine Met.ofW (cc := zb_M_word) (maxL := 3) (ret := (some .int)) (by decide) rfl ?_
  intro p e s m args below meth c s₁ B hml hv
  obtain ⟨rfl, hP, hk⟩ := hv
  have hx := B.exec
  have hb := B.bytes
  have hr := B.returns
  have hts := atoms_spec (ws := .code zy_M_word zb_M_word 3 (some .int) :: zs_w) B.pre
  have hz : ∀ w ∈ zs_w, w.before _ s = true := fun w h => hts w (List.mem_cons_of_mem _ h)
  have hown : s.vm.findClass "ZoneShelfModel" = some m.cls := findClass_of_methodNamed B.named
  have hlocks := B.notSynchronized
  have hP : va_P (dC, dI) zs_cl [(a 0, .inr (2, [.int (zs_b up), .ref (a 1), .ref (a 2), .ref (a 3), .ref (a 4), .ref (a 5), .ref (a 6), .ref (a 7), .ref (a 8), .ref (a 9), .ref (a 10)])), (a 1, .inl (cI, 24, .inl nm)), (a 2, .inl (cI, 24, .inl hi)), (a 3, .inl (cI, 24, .inl ln)), (a 4, .inl (cZ, 24, .inl op)), (a 5, .inl (cI, 1536, .inl wd)), (a 6, .inl (cI, 24, .inl nm2)), (a 7, .inl (cI, 24, .inl hi2)), (a 8, .inl (cI, 24, .inl ln2)), (a 9, .inl (cZ, 24, .inl op2)), (a 10, .inl (cI, 1536, .inl wd2))] s.heap := hP
  have hl := lv_entry ([.ref (a 0), .int o, .int i]) (n := 3) (Nat.le_of_ble_eq_true rfl)
  rw [lg_entry_eq]
  generalize (lg_sl ([.ref (a 0), .int o, .int i]) ++ List.replicate (3 - (lg_sl ([.ref (a 0), .int o, .int i])).length) Slot.unset).toArray = ls at hl ⊢
  have hl : lv_has ls 3 [(0, .ref (a 0)), (1, .int o), (2, .int i)] := hl
  refine lv_aload_n hx hb zd_M_word_0 rfl (lv_at hl 0 rfl) ?_
  refine lv_iload_n hx hb zd_M_word_1 rfl (lv_at hl 1 rfl) ?_
  refine zc_rV (rest := []) [.int o] hx hb hml hown hz (zc_M_is l dC dI cI cZ a (up, (nm, hi, ln, op, wd), (nm2, hi2, ln2, op2, wd2)) o) zf_M_is rfl rfl zq_215 zq_216 zq_15 ⟨Nat.le_of_ble_eq_true rfl, Nat.le_of_ble_eq_true rfl⟩ hk (hP.sub [0, 1, 2, 3, 4, 5, 6, 7, 8, 9, 10] rfl) 0 2 rfl rfl rfl rfl hl.1 rfl (Nat.le_of_ble_eq_true rfl) zd_M_word_2 ⟨Nat.zero_le _, Nat.zero_le _⟩ (fun r1 e2 => ?_)
  obtain rfl : r1 = zs_b (zm_is up nm o) := e2
  refine zi_eq (tgt := 36) hx hb zd_M_word_5 rfl (fun h3 => ?_) (fun h3 => ?_)
  · refine lv_iconst (v := 0) hx hb zd_M_word_36 (by decide) ?_
    exact zr_iret hx hb hr hlocks zd_M_word_37 (show 0 = zm_word (up, (nm, hi, ln, op, wd), (nm2, hi2, ln2, op2, wd2)) o i from by simp [zm_word, h3])
  · obtain ⟨j, hj, rfl, hup, htk⟩ := zm_is_t h3
    refine lv_iload_n hx hb zd_M_word_8 rfl (lv_at hl 2 rfl) ?_
    refine lv_if_lt (tgt := 36) hx hb zd_M_word_9 rfl (fun h4 => ?_) (fun h4 => ?_)
    · refine lv_iconst (v := 0) hx hb zd_M_word_36 (by decide) ?_
      exact zr_iret hx hb hr hlocks zd_M_word_37 (show 0 = zm_word (up, (nm, hi, ln, op, wd), (nm2, hi2, ln2, op2, wd2)) (nI j) i from by simp only [zm_word]; rw [if_neg (fun q => q.2.1 h4)])
    · refine lv_iload_n hx hb zd_M_word_12 rfl (lv_at hl 2 rfl) ?_
      refine lv_aload_n hx hb zd_M_word_13 rfl (lv_at hl 0 rfl) ?_
      refine va_get (D := (dC, dI)) (ci := 2) (v := .ref (a 3)) (C := "ZoneShelfModel") (T := zs_T_M) (N := 11) hx hb hz zs_in_M hown hk.1 hP 0 rfl rfl 3 (by decide) (hz _ zq_186) (fun _ h9 => h9) rfl zd_M_word_14 ?_
      refine lv_iload_n hx hb zd_M_word_17 rfl (lv_at hl 1 rfl) ?_
      refine zi_ald hx hb hk hP 3 (j := j) rfl (by omega) (by decide) zd_M_word_18 ?_
      refine lv_icmp_ge (tgt := 36) hx hb zd_M_word_19 rfl (fun h5 => ?_) (fun h5 => ?_)
      · refine lv_iconst (v := 0) hx hb zd_M_word_36 (by decide) ?_
        exact zr_iret hx hb hr hlocks zd_M_word_37 (show 0 = zm_word (up, (nm, hi, ln, op, wd), (nm2, hi2, ln2, op2, wd2)) (nI j) i from by simp only [zm_word, nI_clamp (show j < 2 ^ 31 by omega)]; rw [if_neg (fun q => zs_nge h5 q.2.2)])
      · have h5 : i < ln j := zs_lt h5
        obtain ⟨q, hq6, hq⟩ := hok j hj htk
        have hq : ln j = nI q := hq
        obtain ⟨i, hi6, rfl⟩ := zs_wix h4 (hq ▸ h5) hq6
        refine lv_aload_n hx hb zd_M_word_22 rfl (lv_at hl 0 rfl) ?_
        refine va_get (D := (dC, dI)) (ci := 2) (v := .ref (a 5)) (C := "ZoneShelfModel") (T := zs_T_M) (N := 11) hx hb hz zs_in_M hown hk.1 hP 0 rfl rfl 5 (by decide) (hz _ zq_188) (fun _ h9 => h9) rfl zd_M_word_23 ?_
        refine lv_bipush (v := 64) hx hb zd_M_word_26 (by decide) ?_
        refine lv_iload_n hx hb zd_M_word_28 rfl (lv_at hl 1 rfl) ?_
        refine lv_imul hx hb zd_M_word_29 ?_
        refine lv_iload_n hx hb zd_M_word_30 rfl (lv_at hl 2 rfl) ?_
        refine lv_iadd hx hb zd_M_word_31 ?_
        refine zi_top (y := nI (j * 64 + i)) (by rw [show (64 : Int32) = nI 64 from rfl, pk_mul, nI_add, show 64 * j + i = j * 64 + i by omega]) ?_
        refine zi_ald hx hb hk hP 5 (j := (j * 64 + i)) rfl (by omega) (by decide) zd_M_word_32 ?_
        refine lv_goto (tgt := 37) hx hb zd_M_word_33 rfl ?_
        exact zr_iret hx hb hr hlocks zd_M_word_37 (show (wd (j * 64 + i)) = zm_word (up, (nm, hi, ln, op, wd), (nm2, hi2, ln2, op2, wd2)) (nI j) (nI i) from by simp only [zm_word, nI_clamp (show j < 2 ^ 31 by omega), nI_clamp (show i < 2 ^ 31 by omega)]; rw [if_pos ⟨h3, h4, h5⟩])
set_option maxHeartbeats 4000000 in
set_option maxRecDepth 100000 in
theorem zc_M_find (l : Launch) (dC : Nat → ClassId) (dI : Nat → Nat → Nat) (cI cZ : ClassId) (a : Nat → Nat) (u : zs_X) (n : Int32) : Met l zy_M_find (.code zy_M_find zb_M_find 2 (some .int) :: zs_w) ({ frames := 2, cells := 0, slots := 0, locals := 44 }) (va_Pc [.ref (a 0), .int n] (zs_r dC dI cI cZ (zs_wM cI cZ a u))) (vp_Si (fun r => r = zm_find u n)) 0 0 (fun _ => False) := by
  obtain ⟨up, ⟨nm, hi, ln, op, wd⟩, ⟨nm2, hi2, ln2, op2, wd2⟩⟩ := u
  refine Met.ofW (cc := zb_M_find) (maxL := 2) (ret := (some .int)) (by decide) rfl ?_
  intro p e s m args below meth c s₁ B hml hv
  obtain ⟨rfl, hP, hk⟩ := hv
  have hx := B.exec
  have hb := B.bytes
  have hr := B.returns
  have hts := atoms_spec (ws := .code zy_M_find zb_M_find 2 (some .int) :: zs_w) B.pre
  have hz : ∀ w ∈ zs_w, w.before _ s = true := fun w h => hts w (List.mem_cons_of_mem _ h)
  have hown : s.vm.findClass "ZoneShelfModel" = some m.cls := findClass_of_methodNamed B.named
  have hlocks := B.notSynchronized
  have hP : va_P (dC, dI) zs_cl [(a 0, .inr (2, [.int (zs_b up), .ref (a 1), .ref (a 2), .ref (a 3), .ref (a 4), .ref (a 5), .ref (a 6), .ref (a 7), .ref (a 8), .ref (a 9), .ref (a 10)])), (a 1, .inl (cI, 24, .inl nm)), (a 2, .inl (cI, 24, .inl hi)), (a 3, .inl (cI, 24, .inl ln)), (a 4, .inl (cZ, 24, .inl op)), (a 5, .inl (cI, 1536, .inl wd)), (a 6, .inl (cI, 24, .inl nm2)), (a 7, .inl (cI, 24, .inl hi2)), (a 8, .inl (cI, 24, .inl ln2)), (a 9, .inl (cZ, 24, .inl op2)), (a 10, .inl (cI, 1536, .inl wd2))] s.heap := hP
  have hl := lv_entry ([.ref (a 0), .int n]) (n := 2) (Nat.le_of_ble_eq_true rfl)
  rw [lg_entry_eq]
  generalize (lg_sl ([.ref (a 0), .int n]) ++ List.replicate (2 - (lg_sl ([.ref (a 0), .int n])).length) Slot.unset).toArray = ls at hl ⊢
  have hl : lv_has ls 2 [(0, .ref (a 0)), (1, .int n)] := hl
  refine lv_aload_n hx hb zd_M_find_0 rfl (lv_at hl 0 rfl) ?_
  refine lv_iload_n hx hb zd_M_find_1 rfl (lv_at hl 1 rfl) ?_
  refine zc_rV (rest := []) [.int n] hx hb hml hown hz (zc_M_named l dC dI cI cZ a (up, (nm, hi, ln, op, wd), (nm2, hi2, ln2, op2, wd2)) n) zf_M_named rfl rfl zq_212 zq_213 zq_14 ⟨Nat.le_of_ble_eq_true rfl, Nat.le_of_ble_eq_true rfl⟩ hk (hP.sub [0, 1, 2, 3, 4, 5, 6, 7, 8, 9, 10] rfl) 0 2 rfl rfl rfl rfl hl.1 rfl (Nat.le_of_ble_eq_true rfl) zd_M_find_2 ⟨Nat.zero_le _, Nat.zero_le _⟩ (fun r1 e2 => ?_)
  obtain rfl : r1 = zm_num up nm n 24 0 (-1) := e2
  exact zr_iret hx hb hr hlocks zd_M_find_5 (show (zm_num up nm n 24 0 (-1)) = zm_find (up, (nm, hi, ln, op, wd), (nm2, hi2, ln2, op2, wd2)) n from by rfl)
set_option maxHeartbeats 4000000 in
set_option maxRecDepth 100000 in
theorem zc_M_list (l : Launch) (dC : Nat → ClassId) (dI : Nat → Nat → Nat) (cI cZ : ClassId) (a : Nat → Nat) (u : zs_X) (x : Int32) : Met l zy_M_list (.code zy_M_list zb_M_list 5 (some .int) :: zs_w) ({ frames := 1, cells := 0, slots := 0, locals := 21 }) (va_Pc [.ref (a 0), .int x] (zs_r dC dI cI cZ (zs_wM cI cZ a u))) (vp_Si (fun r => r = zm_list u x)) 0 0 (fun _ => False) := by
  obtain ⟨up, ⟨nm, hi, ln, op, wd⟩, ⟨nm2, hi2, ln2, op2, wd2⟩⟩ := u
  refine Met.ofW (cc := zb_M_list) (maxL := 5) (ret := (some .int)) (by decide) rfl ?_
  intro p e s m args below meth c s₁ B hml hv
  obtain ⟨rfl, hP, hk⟩ := hv
  have hx := B.exec
  have hb := B.bytes
  have hr := B.returns
  have hts := atoms_spec (ws := .code zy_M_list zb_M_list 5 (some .int) :: zs_w) B.pre
  have hz : ∀ w ∈ zs_w, w.before _ s = true := fun w h => hts w (List.mem_cons_of_mem _ h)
  have hown : s.vm.findClass "ZoneShelfModel" = some m.cls := findClass_of_methodNamed B.named
  have hlocks := B.notSynchronized
  have hP : va_P (dC, dI) zs_cl [(a 0, .inr (2, [.int (zs_b up), .ref (a 1), .ref (a 2), .ref (a 3), .ref (a 4), .ref (a 5), .ref (a 6), .ref (a 7), .ref (a 8), .ref (a 9), .ref (a 10)])), (a 1, .inl (cI, 24, .inl nm)), (a 2, .inl (cI, 24, .inl hi)), (a 3, .inl (cI, 24, .inl ln)), (a 4, .inl (cZ, 24, .inl op)), (a 5, .inl (cI, 1536, .inl wd)), (a 6, .inl (cI, 24, .inl nm2)), (a 7, .inl (cI, 24, .inl hi2)), (a 8, .inl (cI, 24, .inl ln2)), (a 9, .inl (cZ, 24, .inl op2)), (a 10, .inl (cI, 1536, .inl wd2))] s.heap := hP
  have hl := lv_entry ([.ref (a 0), .int x]) (n := 5) (Nat.le_of_ble_eq_true rfl)
  rw [lg_entry_eq]
  generalize (lg_sl ([.ref (a 0), .int x]) ++ List.replicate (5 - (lg_sl ([.ref (a 0), .int x])).length) Slot.unset).toArray = ls at hl ⊢
  have hl : lv_has ls 5 [(0, .ref (a 0)), (1, .int x)] := hl
  refine lv_iconst (v := 0) hx hb zd_M_list_0 (by decide) ?_
  refine lv_istore_n (lv' := [(2, .int 0), (0, .ref (a 0)), (1, .int x)]) hx hb zd_M_list_1 rfl hl (by decide) rfl (fun ls hl => ?_)
  obtain ⟨v, hv0⟩ : ∃ v, v = zm_rank up nm x 24 0 := ⟨_, rfl⟩
  refine zl_r (N := 24) (α := Unit) (fun kk ii xx ls => lv_has ls 5 [(2, .int (nI ii)), (0, .ref (a 0)), (1, .int x)] ∧ zm_rank up nm x kk ii = v) (fun k1 i1 x1 ls e1 hv ih1 => ?_) (fun x1 ls hv => ?_) 24 0 () ls rfl ⟨lv_sub hl [0, 1, 2] rfl, hv0.symm⟩
  · obtain ⟨hl, hI1⟩ := hv
    have hl : lv_has ls 5 [(2, .int (nI i1)), (0, .ref (a 0)), (1, .int x)] := hl
    have hI1 : zm_rank up nm x (k1 + 1) i1 = v := hI1
    have hlt1 : i1 < 24 := by omega
    refine lv_iload_n hx hb zd_M_list_2 rfl (lv_at hl 0 rfl) ?_
    refine lv_bipush (v := 24) hx hb zd_M_list_3 (by decide) ?_
    refine zj_in (tgt := 80) (n := 24) hx hb zd_M_list_5 rfl (by decide) hlt1 (by decide) ?_
    refine lv_iconst (v := 0) hx hb zd_M_list_8 (by decide) ?_
    refine lv_istore_n (lv' := [(3, .int 0), (2, .int (nI i1)), (0, .ref (a 0)), (1, .int x)]) hx hb zd_M_list_9 rfl hl (by decide) rfl (fun ls hl => ?_)
    refine lv_iconst (v := 0) hx hb zd_M_list_10 (by decide) ?_
    refine lv_istore (lv' := [(4, .int 0), (3, .int 0), (2, .int (nI i1)), (0, .ref (a 0)), (1, .int x)]) hx hb zd_M_list_11 hl (by decide) rfl (fun ls hl => ?_)
    obtain ⟨v2, hv2⟩ : ∃ v, v = zm_below up nm (nm i1) 24 0 0 := ⟨_, rfl⟩
    refine zl_r (N := 24) (α := Int32) (fun kk ii xx ls => lv_has ls 5 [(4, .int (nI ii)), (3, .int xx), (2, .int (nI i1)), (0, .ref (a 0)), (1, .int x)] ∧ zm_below up nm (nm i1) kk ii xx = v2) (fun k2 i2 x2 ls e2 hv ih2 => ?_) (fun x2 ls hv => ?_) 24 0 0 ls rfl ⟨lv_sub hl [0, 1, 2, 3, 4] rfl, hv2.symm⟩
    · obtain ⟨hl, hI2⟩ := hv
      have hl : lv_has ls 5 [(4, .int (nI i2)), (3, .int x2), (2, .int (nI i1)), (0, .ref (a 0)), (1, .int x)] := hl
      have hI2 : zm_below up nm (nm i1) (k2 + 1) i2 x2 = v2 := hI2
      have hlt2 : i2 < 24 := by omega
      refine lv_iload hx hb zd_M_list_13 (lv_at hl 0 rfl) ?_
      refine lv_bipush (v := 24) hx hb zd_M_list_15 (by decide) ?_
      refine zj_in (tgt := 59) (n := 24) hx hb zd_M_list_17 rfl (by decide) hlt2 (by decide) ?_
      refine lv_iload_n hx hb zd_M_list_20 rfl (lv_at hl 1 rfl) ?_
      refine lv_aload_n hx hb zd_M_list_21 rfl (lv_at hl 3 rfl) ?_
      refine lv_iload hx hb zd_M_list_22 (lv_at hl 0 rfl) ?_
      refine zc_rV (rest := [.int x2]) [.int (nI i2)] hx hb hml hown hz (zc_M_is l dC dI cI cZ a (up, (nm, hi, ln, op, wd), (nm2, hi2, ln2, op2, wd2)) (nI i2)) zf_M_is rfl rfl zq_215 zq_216 zq_15 ⟨Nat.le_of_ble_eq_true rfl, Nat.le_of_ble_eq_true rfl⟩ hk (hP.sub [0, 1, 2, 3, 4, 5, 6, 7, 8, 9, 10] rfl) 0 2 rfl rfl rfl rfl hl.1 rfl (Nat.le_of_ble_eq_true rfl) zd_M_list_24 ⟨Nat.zero_le _, Nat.zero_le _⟩ (fun r1 e2 => ?_)
      obtain rfl : r1 = zs_b (zm_at up nm i2) := e2.trans (congrArg zs_b (zm_is_at hlt2))
      refine zi_eq (tgt := 50) hx hb zd_M_list_27 rfl (fun h3 => ?_) (fun h3 => ?_)
      · refine lv_iconst (v := 0) hx hb zd_M_list_50 (by decide) ?_
        refine lv_iadd hx hb zd_M_list_51 ?_
        refine lv_istore_n (lv' := [(3, .int (x2 + 0)), (4, .int (nI i2)), (2, .int (nI i1)), (0, .ref (a 0)), (1, .int x)]) hx hb zd_M_list_52 rfl hl (by decide) rfl (fun ls hl => ?_)
        refine lv_iinc (k := 1) (v := nI (i2 + 1)) (lv' := [(4, .int (nI (i2 + 1))), (3, .int (x2 + 0)), (2, .int (nI i1)), (0, .ref (a 0)), (1, .int x)]) hx hb zd_M_list_53 hl rfl (zs_inc _) (by decide) rfl (fun ls hl => ?_)
        refine lv_goto (tgt := 13) hx hb zd_M_list_56 rfl ?_
        exact ih2 (x2 + 0) ls ⟨lv_sub hl [0, 1, 2, 3, 4] rfl, by rw [← hI2]; simp only [zm_below]; rw [if_neg (fun q => by have z := q.1; rw [h3] at z; cases z)]⟩
      · refine lv_aload_n hx hb zd_M_list_30 rfl (lv_at hl 3 rfl) ?_
        refine va_get (D := (dC, dI)) (ci := 2) (v := .ref (a 1)) (C := "ZoneShelfModel") (T := zs_T_M) (N := 11) hx hb hz zs_in_M hown hk.1 hP 0 rfl rfl 1 (by decide) (hz _ zq_184) (fun _ h9 => h9) rfl zd_M_list_31 ?_
        refine lv_iload hx hb zd_M_list_34 (lv_at hl 0 rfl) ?_
        refine zi_ald hx hb hk hP 1 (j := i2) rfl (by omega) (by decide) zd_M_list_36 ?_
        refine lv_aload_n hx hb zd_M_list_37 rfl (lv_at hl 3 rfl) ?_
        refine va_get (D := (dC, dI)) (ci := 2) (v := .ref (a 1)) (C := "ZoneShelfModel") (T := zs_T_M) (N := 11) hx hb hz zs_in_M hown hk.1 hP 0 rfl rfl 1 (by decide) (hz _ zq_184) (fun _ h9 => h9) rfl zd_M_list_38 ?_
        refine lv_iload_n hx hb zd_M_list_41 rfl (lv_at hl 2 rfl) ?_
        refine zi_ald hx hb hk hP 1 (j := i1) rfl (by omega) (by decide) zd_M_list_42 ?_
        refine lv_icmp_ge (tgt := 50) hx hb zd_M_list_43 rfl (fun h4 => ?_) (fun h4 => ?_)
        · refine lv_iconst (v := 0) hx hb zd_M_list_50 (by decide) ?_
          refine lv_iadd hx hb zd_M_list_51 ?_
          refine lv_istore_n (lv' := [(3, .int (x2 + 0)), (4, .int (nI i2)), (2, .int (nI i1)), (0, .ref (a 0)), (1, .int x)]) hx hb zd_M_list_52 rfl hl (by decide) rfl (fun ls hl => ?_)
          refine lv_iinc (k := 1) (v := nI (i2 + 1)) (lv' := [(4, .int (nI (i2 + 1))), (3, .int (x2 + 0)), (2, .int (nI i1)), (0, .ref (a 0)), (1, .int x)]) hx hb zd_M_list_53 hl rfl (zs_inc _) (by decide) rfl (fun ls hl => ?_)
          refine lv_goto (tgt := 13) hx hb zd_M_list_56 rfl ?_
          exact ih2 (x2 + 0) ls ⟨lv_sub hl [0, 1, 2, 3, 4] rfl, by rw [← hI2]; simp only [zm_below]; rw [if_neg (fun q => q.2 h4)]⟩
        · refine lv_iconst (v := 1) hx hb zd_M_list_46 (by decide) ?_
          refine lv_goto (tgt := 51) hx hb zd_M_list_47 rfl ?_
          refine lv_iadd hx hb zd_M_list_51 ?_
          refine lv_istore_n (lv' := [(3, .int (x2 + 1)), (4, .int (nI i2)), (2, .int (nI i1)), (0, .ref (a 0)), (1, .int x)]) hx hb zd_M_list_52 rfl hl (by decide) rfl (fun ls hl => ?_)
          refine lv_iinc (k := 1) (v := nI (i2 + 1)) (lv' := [(4, .int (nI (i2 + 1))), (3, .int (x2 + 1)), (2, .int (nI i1)), (0, .ref (a 0)), (1, .int x)]) hx hb zd_M_list_53 hl rfl (zs_inc _) (by decide) rfl (fun ls hl => ?_)
          refine lv_goto (tgt := 13) hx hb zd_M_list_56 rfl ?_
          exact ih2 (x2 + 1) ls ⟨lv_sub hl [0, 1, 2, 3, 4] rfl, by rw [← hI2]; simp only [zm_below]; rw [if_pos ⟨h3, h4⟩]⟩
    · obtain ⟨hl, hI2⟩ := hv
      have hl : lv_has ls 5 [(4, .int (nI 24)), (3, .int x2), (2, .int (nI i1)), (0, .ref (a 0)), (1, .int x)] := hl
      have hI2 : zm_below up nm (nm i1) 0 24 x2 = v2 := hI2
      refine lv_iload hx hb zd_M_list_13 (lv_at hl 0 rfl) ?_
      refine lv_bipush (v := 24) hx hb zd_M_list_15 (by decide) ?_
      refine zj_out (tgt := 59) (n := 24) (i := 24) hx hb zd_M_list_17 rfl (by decide) (Nat.le_refl _) (by decide) ?_
      have hx2 : x2 = v2 := hI2
      refine lv_aload_n hx hb zd_M_list_59 rfl (lv_at hl 3 rfl) ?_
      refine lv_iload_n hx hb zd_M_list_60 rfl (lv_at hl 2 rfl) ?_
      refine zc_rV (rest := []) [.int (nI i1)] hx hb hml hown hz (zc_M_is l dC dI cI cZ a (up, (nm, hi, ln, op, wd), (nm2, hi2, ln2, op2, wd2)) (nI i1)) zf_M_is rfl rfl zq_215 zq_216 zq_15 ⟨Nat.le_of_ble_eq_true rfl, Nat.le_of_ble_eq_true rfl⟩ hk (hP.sub [0, 1, 2, 3, 4, 5, 6, 7, 8, 9, 10] rfl) 0 2 rfl rfl rfl rfl hl.1 rfl (Nat.le_of_ble_eq_true rfl) zd_M_list_61 ⟨Nat.zero_le _, Nat.zero_le _⟩ (fun r1 e2 => ?_)
      obtain rfl : r1 = zs_b (zm_at up nm i1) := e2.trans (congrArg zs_b (zm_is_at hlt1))
      refine zi_eq (tgt := 74) hx hb zd_M_list_64 rfl (fun h3 => ?_) (fun h3 => ?_)
      · refine lv_iinc (k := 2) (v := nI (i1 + 1)) (lv' := [(2, .int (nI (i1 + 1))), (4, .int (nI 24)), (3, .int x2), (0, .ref (a 0)), (1, .int x)]) hx hb zd_M_list_74 hl rfl (zs_inc _) (by decide) rfl (fun ls hl => ?_)
        refine lv_goto (tgt := 2) hx hb zd_M_list_77 rfl ?_
        exact ih1 () ls ⟨lv_sub hl [0, 3, 4] rfl, by rw [← hI1]; simp only [zm_rank]; rw [if_neg (fun q => by have z := q.1; rw [h3] at z; cases z)]⟩
      · refine lv_iload_n hx hb zd_M_list_67 rfl (lv_at hl 1 rfl) ?_
        refine lv_iload_n hx hb zd_M_list_68 rfl (lv_at hl 4 rfl) ?_
        refine lv_icmp_ne (tgt := 74) hx hb zd_M_list_69 rfl (fun h4 => ?_) (fun h4 => ?_)
        · refine lv_iinc (k := 2) (v := nI (i1 + 1)) (lv' := [(2, .int (nI (i1 + 1))), (4, .int (nI 24)), (3, .int x2), (0, .ref (a 0)), (1, .int x)]) hx hb zd_M_list_74 hl rfl (zs_inc _) (by decide) rfl (fun ls hl => ?_)
          refine lv_goto (tgt := 2) hx hb zd_M_list_77 rfl ?_
          exact ih1 () ls ⟨lv_sub hl [0, 3, 4] rfl, by rw [← hI1]; simp only [zm_rank]; rw [if_neg (fun q => h4 ((hx2.trans hv2).trans q.2))]⟩
        · refine lv_iload_n hx hb zd_M_list_72 rfl (lv_at hl 2 rfl) ?_
          exact zr_iret hx hb hr hlocks zd_M_list_73 (show (nI i1) = zm_list (up, (nm, hi, ln, op, wd), (nm2, hi2, ln2, op2, wd2)) x from by show nI i1 = zm_rank up nm x 24 0; rw [← hv0, ← hI1]; simp only [zm_rank]; rw [if_pos ⟨h3, (hx2.trans hv2).symm.trans h4⟩])
  · obtain ⟨hl, hI1⟩ := hv
    have hl : lv_has ls 5 [(2, .int (nI 24)), (0, .ref (a 0)), (1, .int x)] := hl
    have hI1 : zm_rank up nm x 0 24 = v := hI1
    refine lv_iload_n hx hb zd_M_list_2 rfl (lv_at hl 0 rfl) ?_
    refine lv_bipush (v := 24) hx hb zd_M_list_3 (by decide) ?_
    refine zj_out (tgt := 80) (n := 24) (i := 24) hx hb zd_M_list_5 rfl (by decide) (Nat.le_refl _) (by decide) ?_
    refine lv_iconst (v := (-1)) hx hb zd_M_list_80 (by decide) ?_
    exact zr_iret hx hb hr hlocks zd_M_list_81 (show (-1) = zm_list (up, (nm, hi, ln, op, wd), (nm2, hi2, ln2, op2, wd2)) x from by show -1 = zm_rank up nm x 24 0; rw [← hv0, ← hI1]; rfl)
set_option maxHeartbeats 4000000 in
set_option maxRecDepth 100000 in
theorem zc_M_create (l : Launch) (dC : Nat → ClassId) (dI : Nat → Nat → Nat) (cI cZ : ClassId) (a : Nat → Nat) (u : zs_X) (sz : Nat) (n h : Int32) : Met l zy_M_create (.code zy_M_create zb_M_create 4 (some .int) :: zs_w) ({ frames := 2, cells := 0, slots := 0, locals := 44 }) (va_Pc [.ref (a 0), .int n, .int h] (zs_s dC dI cI cZ sz (zs_wM cI cZ a u))) (va_Qi (fun r (v : zs_X) => (r, v) = zm_create u n h) (zs_e dC dI (zs_wM cI cZ a) (va_A (zs_wM cI cZ a u) sz)) (va_A (zs_wM cI cZ a u) sz)) 0 0 (va_A (zs_wM cI cZ a u) sz) := by
  obtain ⟨up, ⟨nm, hi, ln, op, wd⟩, ⟨nm2, hi2, ln2, op2, wd2⟩⟩ := u
  refine Met.ofW (cc := zb_M_create) (maxL := 4) (ret := (some .int)) (by decide) rfl ?_
  intro p e s m args below meth c s₁ B hml hv
  obtain ⟨rfl, hsz, hP, hk, hD0⟩ := hv
  have hx := B.exec
  have hb := B.bytes
  have hr := B.returns
  have hts := atoms_spec (ws := .code zy_M_create zb_M_create 4 (some .int) :: zs_w) B.pre
  have hz : ∀ w ∈ zs_w, w.before _ s = true := fun w h => hts w (List.mem_cons_of_mem _ h)
  have hown : s.vm.findClass "ZoneShelfModel" = some m.cls := findClass_of_methodNamed B.named
  have hlocks := B.notSynchronized
  subst hsz
  have hD := hD0.self (sz := s.heap.size)
  generalize hAe : va_A (zs_wM cI cZ a (up, (nm, hi, ln, op, wd), (nm2, hi2, ln2, op2, wd2))) s.heap.size = A at hD ⊢
  have hA : ∀ q : Nat, s.heap.size ≤ q → A q := fun q h => by rw [← hAe]; exact Or.inr h
  have hS : va_S A s.heap s.heap [] := va_S.rf
  have hP : va_P (dC, dI) zs_cl [(a 0, .inr (2, [.int (zs_b up), .ref (a 1), .ref (a 2), .ref (a 3), .ref (a 4), .ref (a 5), .ref (a 6), .ref (a 7), .ref (a 8), .ref (a 9), .ref (a 10)])), (a 1, .inl (cI, 24, .inl nm)), (a 2, .inl (cI, 24, .inl hi)), (a 3, .inl (cI, 24, .inl ln)), (a 4, .inl (cZ, 24, .inl op)), (a 5, .inl (cI, 1536, .inl wd)), (a 6, .inl (cI, 24, .inl nm2)), (a 7, .inl (cI, 24, .inl hi2)), (a 8, .inl (cI, 24, .inl ln2)), (a 9, .inl (cZ, 24, .inl op2)), (a 10, .inl (cI, 1536, .inl wd2))] s.heap := hP
  have hD : va_D A [(a 0, .inr (2, [.int (zs_b up), .ref (a 1), .ref (a 2), .ref (a 3), .ref (a 4), .ref (a 5), .ref (a 6), .ref (a 7), .ref (a 8), .ref (a 9), .ref (a 10)])), (a 1, .inl (cI, 24, .inl nm)), (a 2, .inl (cI, 24, .inl hi)), (a 3, .inl (cI, 24, .inl ln)), (a 4, .inl (cZ, 24, .inl op)), (a 5, .inl (cI, 1536, .inl wd)), (a 6, .inl (cI, 24, .inl nm2)), (a 7, .inl (cI, 24, .inl hi2)), (a 8, .inl (cI, 24, .inl ln2)), (a 9, .inl (cZ, 24, .inl op2)), (a 10, .inl (cI, 1536, .inl wd2))] := hD
  have hl := lv_entry ([.ref (a 0), .int n, .int h]) (n := 4) (Nat.le_of_ble_eq_true rfl)
  rw [lg_entry_eq]
  generalize (lg_sl ([.ref (a 0), .int n, .int h]) ++ List.replicate (4 - (lg_sl ([.ref (a 0), .int n, .int h])).length) Slot.unset).toArray = ls at hl ⊢
  have hl : lv_has ls 4 [(0, .ref (a 0)), (1, .int n), (2, .int h)] := hl
  refine lv_aload_n hx hb zd_M_create_0 rfl (lv_at hl 0 rfl) ?_
  refine va_get (D := (dC, dI)) (ci := 2) (v := .int (zs_b up)) (C := "ZoneShelfModel") (T := zs_T_M) (N := 11) hx hb hz zs_in_M hown hk.1 hP 0 rfl rfl 0 (by decide) (hz _ zq_183) (fun _ h9 => h9) rfl zd_M_create_1 ?_
  refine zi_eq (tgt := 32) hx hb zd_M_create_4 rfl (fun h1 => ?_) (fun h1 => ?_)
  · subst h1
    refine lv_iconst (v := (-1)) hx hb zd_M_create_32 (by decide) ?_
    exact zw_iret (false, (nm, hi, ln, op, wd), (nm2, hi2, ln2, op2, wd2)) hx hb hr hlocks zd_M_create_33  (show ((-1), (false, (nm, hi, ln, op, wd), (nm2, hi2, ln2, op2, wd2))) = zm_create (false, (nm, hi, ln, op, wd), (nm2, hi2, ln2, op2, wd2)) n h from by simp [zm_create]) hP hD hS
  · subst h1
    refine lv_iload_n hx hb zd_M_create_7 rfl (lv_at hl 1 rfl) ?_
    refine zc_rS (rest := []) [.int n] hx hb hml hown hz (zc_M_isName l dC dI cI cZ n) zf_M_isName rfl rfl zq_209 zq_210 ⟨Nat.le_of_ble_eq_true rfl, Nat.le_of_ble_eq_true rfl⟩ rfl hl.1 rfl (Nat.le_of_ble_eq_true rfl) zd_M_create_8 ⟨Nat.zero_le _, Nat.zero_le _⟩ (fun r2 e3 => ?_)
    obtain rfl : r2 = zs_b (zs_nam n) := e3
    refine zi_eq (tgt := 32) hx hb zd_M_create_11 rfl (fun h4 => ?_) (fun h4 => ?_)
    · refine lv_iconst (v := (-1)) hx hb zd_M_create_32 (by decide) ?_
      exact zw_iret (true, (nm, hi, ln, op, wd), (nm2, hi2, ln2, op2, wd2)) hx hb hr hlocks zd_M_create_33  (show ((-1), (true, (nm, hi, ln, op, wd), (nm2, hi2, ln2, op2, wd2))) = zm_create (true, (nm, hi, ln, op, wd), (nm2, hi2, ln2, op2, wd2)) n h from by simp [zm_create, h4]) hP hD hS
    · refine lv_iload_n hx hb zd_M_create_14 rfl (lv_at hl 2 rfl) ?_
      refine lv_if_lt (tgt := 32) hx hb zd_M_create_15 rfl (fun h5 => ?_) (fun h5 => ?_)
      · refine lv_iconst (v := (-1)) hx hb zd_M_create_32 (by decide) ?_
        exact zw_iret (true, (nm, hi, ln, op, wd), (nm2, hi2, ln2, op2, wd2)) hx hb hr hlocks zd_M_create_33  (show ((-1), (true, (nm, hi, ln, op, wd), (nm2, hi2, ln2, op2, wd2))) = zm_create (true, (nm, hi, ln, op, wd), (nm2, hi2, ln2, op2, wd2)) n h from by simp [zm_create, h4, h5]) hP hD hS
      · refine lv_iload_n hx hb zd_M_create_18 rfl (lv_at hl 2 rfl) ?_
        refine lv_iconst (v := 3) hx hb zd_M_create_19 (by decide) ?_
        refine lv_icmp_gt (tgt := 32) hx hb zd_M_create_20 rfl (fun h6 => ?_) (fun h6 => ?_)
        · refine lv_iconst (v := (-1)) hx hb zd_M_create_32 (by decide) ?_
          exact zw_iret (true, (nm, hi, ln, op, wd), (nm2, hi2, ln2, op2, wd2)) hx hb hr hlocks zd_M_create_33  (show ((-1), (true, (nm, hi, ln, op, wd), (nm2, hi2, ln2, op2, wd2))) = zm_create (true, (nm, hi, ln, op, wd), (nm2, hi2, ln2, op2, wd2)) n h from by simp [zm_create, h4, h5, h6]) hP hD hS
        · refine lv_aload_n hx hb zd_M_create_23 rfl (lv_at hl 0 rfl) ?_
          refine lv_iload_n hx hb zd_M_create_24 rfl (lv_at hl 1 rfl) ?_
          refine zc_rV (rest := []) [.int n] hx hb hml hown hz (zc_M_named l dC dI cI cZ a (true, (nm, hi, ln, op, wd), (nm2, hi2, ln2, op2, wd2)) n) zf_M_named rfl rfl zq_212 zq_213 zq_14 ⟨Nat.le_of_ble_eq_true rfl, Nat.le_of_ble_eq_true rfl⟩ hk (hP.sub [0, 1, 2, 3, 4, 5, 6, 7, 8, 9, 10] rfl) 0 2 rfl rfl rfl rfl hl.1 rfl (Nat.le_of_ble_eq_true rfl) zd_M_create_25 ⟨Nat.zero_le _, Nat.zero_le _⟩ (fun r7 e8 => ?_)
          obtain rfl : r7 = zm_num true nm n 24 0 (-1) := e8
          refine lv_iconst (v := (-1)) hx hb zd_M_create_28 (by decide) ?_
          refine lv_icmp_eq (tgt := 34) hx hb zd_M_create_29 rfl (fun h9 => ?_) (fun h9 => ?_)
          · refine lv_iconst (v := 0) hx hb zd_M_create_34 (by decide) ?_
            refine lv_istore_n (lv' := [(3, .int 0), (0, .ref (a 0)), (1, .int n), (2, .int h)]) hx hb zd_M_create_35 rfl hl (by decide) rfl (fun ls hl => ?_)
            obtain ⟨v, hv0⟩ : ∃ v, v = zm_free nm 24 0 := ⟨_, rfl⟩
            refine zl_r (N := 24) (α := Unit) (fun kk ii xx ls => lv_has ls 4 [(3, .int (nI ii)), (0, .ref (a 0)), (1, .int n), (2, .int h)] ∧ zm_free nm kk ii = v) (fun k1 i1 x1 ls e1 hv ih1 => ?_) (fun x1 ls hv => ?_) 24 0 () ls rfl ⟨lv_sub hl [0, 1, 2, 3] rfl, hv0.symm⟩
            · obtain ⟨hl, hI1⟩ := hv
              have hl : lv_has ls 4 [(3, .int (nI i1)), (0, .ref (a 0)), (1, .int n), (2, .int h)] := hl
              have hI1 : zm_free nm (k1 + 1) i1 = v := hI1
              have hlt1 : i1 < 24 := by omega
              refine lv_iload_n hx hb zd_M_create_36 rfl (lv_at hl 0 rfl) ?_
              refine lv_bipush (v := 24) hx hb zd_M_create_37 (by decide) ?_
              refine zj_in (tgt := 57) (n := 24) hx hb zd_M_create_39 rfl (by decide) hlt1 (by decide) ?_
              refine lv_aload_n hx hb zd_M_create_42 rfl (lv_at hl 1 rfl) ?_
              refine va_get (D := (dC, dI)) (ci := 2) (v := .ref (a 1)) (C := "ZoneShelfModel") (T := zs_T_M) (N := 11) hx hb hz zs_in_M hown hk.1 hP 0 rfl rfl 1 (by decide) (hz _ zq_184) (fun _ h9 => h9) rfl zd_M_create_43 ?_
              refine lv_iload_n hx hb zd_M_create_46 rfl (lv_at hl 0 rfl) ?_
              refine zi_ald hx hb hk hP 1 (j := i1) rfl (by omega) (by decide) zd_M_create_47 ?_
              refine lv_if_le (tgt := 57) hx hb zd_M_create_48 rfl (fun h10 => ?_) (fun h10 => ?_)
              · have hv1 : zm_free nm 24 0 = i1 := by rw [← hv0, ← hI1]; simp [zm_free, h10]
                refine lv_iload_n hx hb zd_M_create_57 rfl (lv_at hl 0 rfl) ?_
                refine lv_bipush (v := 24) hx hb zd_M_create_58 (by decide) ?_
                refine lv_icmp_ne (tgt := 65) hx hb zd_M_create_60 rfl (fun h11 => ?_) (fun h11 => ?_)
                · refine lv_aload_n hx hb zd_M_create_65 rfl (lv_at hl 1 rfl) ?_
                  refine va_get (D := (dC, dI)) (ci := 2) (v := .ref (a 1)) (C := "ZoneShelfModel") (T := zs_T_M) (N := 11) hx hb hz zs_in_M hown hk.1 hP 0 rfl rfl 1 (by decide) (hz _ zq_184) (fun _ h9 => h9) rfl zd_M_create_66 ?_
                  refine lv_iload_n hx hb zd_M_create_69 rfl (lv_at hl 0 rfl) ?_
                  refine lv_iload_n hx hb zd_M_create_70 rfl (lv_at hl 2 rfl) ?_
                  refine lv_iconst (v := 1) hx hb zd_M_create_71 (by decide) ?_
                  refine lv_iadd hx hb zd_M_create_72 ?_
                  refine zi_ast hx hb hk hP hD hS 1 (j := i1) rfl (by omega) (by decide) zd_M_create_73 (fun H locs hP hD hS => ?_)
                  have hP : va_P (dC, dI) zs_cl [(a 0, .inr (2, [.int (zs_b true), .ref (a 1), .ref (a 2), .ref (a 3), .ref (a 4), .ref (a 5), .ref (a 6), .ref (a 7), .ref (a 8), .ref (a 9), .ref (a 10)])), (a 1, .inl (cI, 24, .inl (upd nm i1 (n + 1)))), (a 2, .inl (cI, 24, .inl hi)), (a 3, .inl (cI, 24, .inl ln)), (a 4, .inl (cZ, 24, .inl op)), (a 5, .inl (cI, 1536, .inl wd)), (a 6, .inl (cI, 24, .inl nm2)), (a 7, .inl (cI, 24, .inl hi2)), (a 8, .inl (cI, 24, .inl ln2)), (a 9, .inl (cZ, 24, .inl op2)), (a 10, .inl (cI, 1536, .inl wd2))] H := hP
                  have hD : va_D A [(a 0, .inr (2, [.int (zs_b true), .ref (a 1), .ref (a 2), .ref (a 3), .ref (a 4), .ref (a 5), .ref (a 6), .ref (a 7), .ref (a 8), .ref (a 9), .ref (a 10)])), (a 1, .inl (cI, 24, .inl (upd nm i1 (n + 1)))), (a 2, .inl (cI, 24, .inl hi)), (a 3, .inl (cI, 24, .inl ln)), (a 4, .inl (cZ, 24, .inl op)), (a 5, .inl (cI, 1536, .inl wd)), (a 6, .inl (cI, 24, .inl nm2)), (a 7, .inl (cI, 24, .inl hi2)), (a 8, .inl (cI, 24, .inl ln2)), (a 9, .inl (cZ, 24, .inl op2)), (a 10, .inl (cI, 1536, .inl wd2))] := hD
                  refine lv_aload_n hx hb zd_M_create_74 rfl (lv_at hl 1 rfl) ?_
                  refine va_get (D := (dC, dI)) (ci := 2) (v := .ref (a 2)) (C := "ZoneShelfModel") (T := zs_T_M) (N := 11) hx hb hz zs_in_M hown hk.1 hP 0 rfl rfl 2 (by decide) (hz _ zq_185) (fun _ h9 => h9) rfl zd_M_create_75 ?_
                  refine lv_iload_n hx hb zd_M_create_78 rfl (lv_at hl 0 rfl) ?_
                  refine lv_iload_n hx hb zd_M_create_79 rfl (lv_at hl 3 rfl) ?_
                  refine zi_ast hx hb hk hP hD hS 2 (j := i1) rfl (by omega) (by decide) zd_M_create_80 (fun H locs hP hD hS => ?_)
                  have hP : va_P (dC, dI) zs_cl [(a 0, .inr (2, [.int (zs_b true), .ref (a 1), .ref (a 2), .ref (a 3), .ref (a 4), .ref (a 5), .ref (a 6), .ref (a 7), .ref (a 8), .ref (a 9), .ref (a 10)])), (a 1, .inl (cI, 24, .inl (upd nm i1 (n + 1)))), (a 2, .inl (cI, 24, .inl (upd hi i1 h))), (a 3, .inl (cI, 24, .inl ln)), (a 4, .inl (cZ, 24, .inl op)), (a 5, .inl (cI, 1536, .inl wd)), (a 6, .inl (cI, 24, .inl nm2)), (a 7, .inl (cI, 24, .inl hi2)), (a 8, .inl (cI, 24, .inl ln2)), (a 9, .inl (cZ, 24, .inl op2)), (a 10, .inl (cI, 1536, .inl wd2))] H := hP
                  have hD : va_D A [(a 0, .inr (2, [.int (zs_b true), .ref (a 1), .ref (a 2), .ref (a 3), .ref (a 4), .ref (a 5), .ref (a 6), .ref (a 7), .ref (a 8), .ref (a 9), .ref (a 10)])), (a 1, .inl (cI, 24, .inl (upd nm i1 (n + 1)))), (a 2, .inl (cI, 24, .inl (upd hi i1 h))), (a 3, .inl (cI, 24, .inl ln)), (a 4, .inl (cZ, 24, .inl op)), (a 5, .inl (cI, 1536, .inl wd)), (a 6, .inl (cI, 24, .inl nm2)), (a 7, .inl (cI, 24, .inl hi2)), (a 8, .inl (cI, 24, .inl ln2)), (a 9, .inl (cZ, 24, .inl op2)), (a 10, .inl (cI, 1536, .inl wd2))] := hD
                  refine lv_aload_n hx hb zd_M_create_81 rfl (lv_at hl 1 rfl) ?_
                  refine va_get (D := (dC, dI)) (ci := 2) (v := .ref (a 3)) (C := "ZoneShelfModel") (T := zs_T_M) (N := 11) hx hb hz zs_in_M hown hk.1 hP 0 rfl rfl 3 (by decide) (hz _ zq_186) (fun _ h9 => h9) rfl zd_M_create_82 ?_
                  refine lv_iload_n hx hb zd_M_create_85 rfl (lv_at hl 0 rfl) ?_
                  refine lv_iconst (v := 0) hx hb zd_M_create_86 (by decide) ?_
                  refine zi_ast hx hb hk hP hD hS 3 (j := i1) rfl (by omega) (by decide) zd_M_create_87 (fun H locs hP hD hS => ?_)
                  have hP : va_P (dC, dI) zs_cl [(a 0, .inr (2, [.int (zs_b true), .ref (a 1), .ref (a 2), .ref (a 3), .ref (a 4), .ref (a 5), .ref (a 6), .ref (a 7), .ref (a 8), .ref (a 9), .ref (a 10)])), (a 1, .inl (cI, 24, .inl (upd nm i1 (n + 1)))), (a 2, .inl (cI, 24, .inl (upd hi i1 h))), (a 3, .inl (cI, 24, .inl (upd ln i1 0))), (a 4, .inl (cZ, 24, .inl op)), (a 5, .inl (cI, 1536, .inl wd)), (a 6, .inl (cI, 24, .inl nm2)), (a 7, .inl (cI, 24, .inl hi2)), (a 8, .inl (cI, 24, .inl ln2)), (a 9, .inl (cZ, 24, .inl op2)), (a 10, .inl (cI, 1536, .inl wd2))] H := hP
                  have hD : va_D A [(a 0, .inr (2, [.int (zs_b true), .ref (a 1), .ref (a 2), .ref (a 3), .ref (a 4), .ref (a 5), .ref (a 6), .ref (a 7), .ref (a 8), .ref (a 9), .ref (a 10)])), (a 1, .inl (cI, 24, .inl (upd nm i1 (n + 1)))), (a 2, .inl (cI, 24, .inl (upd hi i1 h))), (a 3, .inl (cI, 24, .inl (upd ln i1 0))), (a 4, .inl (cZ, 24, .inl op)), (a 5, .inl (cI, 1536, .inl wd)), (a 6, .inl (cI, 24, .inl nm2)), (a 7, .inl (cI, 24, .inl hi2)), (a 8, .inl (cI, 24, .inl ln2)), (a 9, .inl (cZ, 24, .inl op2)), (a 10, .inl (cI, 1536, .inl wd2))] := hD
                  refine lv_aload_n hx hb zd_M_create_88 rfl (lv_at hl 1 rfl) ?_
                  refine va_get (D := (dC, dI)) (ci := 2) (v := .ref (a 4)) (C := "ZoneShelfModel") (T := zs_T_M) (N := 11) hx hb hz zs_in_M hown hk.1 hP 0 rfl rfl 4 (by decide) (hz _ zq_187) (fun _ h9 => h9) rfl zd_M_create_89 ?_
                  refine lv_iload_n hx hb zd_M_create_92 rfl (lv_at hl 0 rfl) ?_
                  refine lv_iconst (v := 1) hx hb zd_M_create_93 (by decide) ?_
                  refine zi_zst hx hb hk hP hD hS 4 (j := i1) rfl (by omega) (by decide) zd_M_create_94 (fun H locs hP hD hS => ?_)
                  have hP : va_P (dC, dI) zs_cl [(a 0, .inr (2, [.int (zs_b true), .ref (a 1), .ref (a 2), .ref (a 3), .ref (a 4), .ref (a 5), .ref (a 6), .ref (a 7), .ref (a 8), .ref (a 9), .ref (a 10)])), (a 1, .inl (cI, 24, .inl (upd nm i1 (n + 1)))), (a 2, .inl (cI, 24, .inl (upd hi i1 h))), (a 3, .inl (cI, 24, .inl (upd ln i1 0))), (a 4, .inl (cZ, 24, .inl (upd op i1 (vp_nar .boolean 1)))), (a 5, .inl (cI, 1536, .inl wd)), (a 6, .inl (cI, 24, .inl nm2)), (a 7, .inl (cI, 24, .inl hi2)), (a 8, .inl (cI, 24, .inl ln2)), (a 9, .inl (cZ, 24, .inl op2)), (a 10, .inl (cI, 1536, .inl wd2))] H := hP
                  have hD : va_D A [(a 0, .inr (2, [.int (zs_b true), .ref (a 1), .ref (a 2), .ref (a 3), .ref (a 4), .ref (a 5), .ref (a 6), .ref (a 7), .ref (a 8), .ref (a 9), .ref (a 10)])), (a 1, .inl (cI, 24, .inl (upd nm i1 (n + 1)))), (a 2, .inl (cI, 24, .inl (upd hi i1 h))), (a 3, .inl (cI, 24, .inl (upd ln i1 0))), (a 4, .inl (cZ, 24, .inl (upd op i1 (vp_nar .boolean 1)))), (a 5, .inl (cI, 1536, .inl wd)), (a 6, .inl (cI, 24, .inl nm2)), (a 7, .inl (cI, 24, .inl hi2)), (a 8, .inl (cI, 24, .inl ln2)), (a 9, .inl (cZ, 24, .inl op2)), (a 10, .inl (cI, 1536, .inl wd2))] := hD
                  refine lv_iload_n hx hb zd_M_create_95 rfl (lv_at hl 0 rfl) ?_
                  exact zw_iret (true, (upd nm i1 (n + 1), upd hi i1 h, upd ln i1 0, upd op i1 (vp_nar .boolean 1), wd), (nm2, hi2, ln2, op2, wd2)) hx hb hr hlocks zd_M_create_96  (show (nI i1, (true, (upd nm i1 (n + 1), upd hi i1 h, upd ln i1 0, upd op i1 (vp_nar .boolean 1), wd), (nm2, hi2, ln2, op2, wd2))) = zm_create (true, (nm, hi, ln, op, wd), (nm2, hi2, ln2, op2, wd2)) n h from by simp [zm_create, h4, h5, h6, h9, hv1, show ¬ i1 = 24 by omega]) hP hD hS
                · exact absurd h11 (by rw [show (24 : Int32) = nI 24 from rfl, nI_eq (by omega) (by omega)]; omega)
              · refine lv_iinc (k := 0) (v := nI (i1 + 1)) (lv' := [(3, .int (nI (i1 + 1))), (0, .ref (a 0)), (1, .int n), (2, .int h)]) hx hb zd_M_create_51 hl rfl (zs_inc _) (by decide) rfl (fun ls hl => ?_)
                refine lv_goto (tgt := 36) hx hb zd_M_create_54 rfl ?_
                exact ih1 () ls ⟨lv_sub hl [0, 1, 2, 3] rfl, by rw [← hI1]; simp [zm_free, h10]⟩
            · obtain ⟨hl, hI1⟩ := hv
              have hl : lv_has ls 4 [(3, .int (nI 24)), (0, .ref (a 0)), (1, .int n), (2, .int h)] := hl
              have hI1 : zm_free nm 0 24 = v := hI1
              refine lv_iload_n hx hb zd_M_create_36 rfl (lv_at hl 0 rfl) ?_
              refine lv_bipush (v := 24) hx hb zd_M_create_37 (by decide) ?_
              refine zj_out (tgt := 57) (n := 24) (i := 24) hx hb zd_M_create_39 rfl (by decide) (Nat.le_refl _) (by decide) ?_
              have hv1 : zm_free nm 24 0 = 24 := by rw [← hv0, ← hI1]; rfl
              refine lv_iload_n hx hb zd_M_create_57 rfl (lv_at hl 0 rfl) ?_
              refine lv_bipush (v := 24) hx hb zd_M_create_58 (by decide) ?_
              refine lv_icmp_ne (tgt := 65) hx hb zd_M_create_60 rfl (fun h10 => ?_) (fun h10 => ?_)
              · exact absurd rfl h10
              · refine lv_iconst (v := (-1)) hx hb zd_M_create_63 (by decide) ?_
                exact zw_iret (true, (nm, hi, ln, op, wd), (nm2, hi2, ln2, op2, wd2)) hx hb hr hlocks zd_M_create_64  (show ((-1), (true, (nm, hi, ln, op, wd), (nm2, hi2, ln2, op2, wd2))) = zm_create (true, (nm, hi, ln, op, wd), (nm2, hi2, ln2, op2, wd2)) n h from by simp [zm_create, h4, h5, h6, h9, hv1]) hP hD hS
          · refine lv_iconst (v := (-1)) hx hb zd_M_create_32 (by decide) ?_
            exact zw_iret (true, (nm, hi, ln, op, wd), (nm2, hi2, ln2, op2, wd2)) hx hb hr hlocks zd_M_create_33  (show ((-1), (true, (nm, hi, ln, op, wd), (nm2, hi2, ln2, op2, wd2))) = zm_create (true, (nm, hi, ln, op, wd), (nm2, hi2, ln2, op2, wd2)) n h from by simp [zm_create, h4, h5, h6, h9]) hP hD hS
set_option maxHeartbeats 4000000 in
set_option maxRecDepth 100000 in
theorem zc_M_appendRow (l : Launch) (dC : Nat → ClassId) (dI : Nat → Nat → Nat) (cI cZ : ClassId) (a : Nat → Nat) (u : zs_X) (sz : Nat) (hok : zm_ok u) (o w k : Int32) : Met l zy_M_appendRow (.code zy_M_appendRow zb_M_appendRow 5 (some .boolean) :: zs_w) ({ frames := 1, cells := 0, slots := 0, locals := 22 }) (va_Pc [.ref (a 0), .int o, .int w, .int k] (zs_s dC dI cI cZ sz (zs_wM cI cZ a u))) (va_Qi (fun r (v : zs_X) => (r, v) = zm_appendRow u o w k) (zs_e dC dI (zs_wM cI cZ a) (va_A (zs_wM cI cZ a u) sz)) (va_A (zs_wM cI cZ a u) sz)) 0 0 (va_A (zs_wM cI cZ a u) sz) := by
  obtain ⟨up, ⟨nm, hi, ln, op, wd⟩, ⟨nm2, hi2, ln2, op2, wd2⟩⟩ := u
  have hok : ∀ j, j < 24 → ¬ nm j ≤ 0 → ∃ q : Nat, q ≤ 64 ∧ ln j = nI q := hok
  refine Met.ofW (cc := zb_M_appendRow) (maxL := 5) (ret := (some .boolean)) (by decide) rfl ?_
  intro p e s m args below meth c s₁ B hml hv
  obtain ⟨rfl, hsz, hP, hk, hD0⟩ := hv
  have hx := B.exec
  have hb := B.bytes
  have hr := B.returns
  have hts := atoms_spec (ws := .code zy_M_appendRow zb_M_appendRow 5 (some .boolean) :: zs_w) B.pre
  have hz : ∀ w ∈ zs_w, w.before _ s = true := fun w h => hts w (List.mem_cons_of_mem _ h)
  have hown : s.vm.findClass "ZoneShelfModel" = some m.cls := findClass_of_methodNamed B.named
  have hlocks := B.notSynchronized
  subst hsz
  have hD := hD0.self (sz := s.heap.size)
  generalize hAe : va_A (zs_wM cI cZ a (up, (nm, hi, ln, op, wd), (nm2, hi2, ln2, op2, wd2))) s.heap.size = A at hD ⊢
  have hA : ∀ q : Nat, s.heap.size ≤ q → A q := fun q h => by rw [← hAe]; exact Or.inr h
  have hS : va_S A s.heap s.heap [] := va_S.rf
  have hP : va_P (dC, dI) zs_cl [(a 0, .inr (2, [.int (zs_b up), .ref (a 1), .ref (a 2), .ref (a 3), .ref (a 4), .ref (a 5), .ref (a 6), .ref (a 7), .ref (a 8), .ref (a 9), .ref (a 10)])), (a 1, .inl (cI, 24, .inl nm)), (a 2, .inl (cI, 24, .inl hi)), (a 3, .inl (cI, 24, .inl ln)), (a 4, .inl (cZ, 24, .inl op)), (a 5, .inl (cI, 1536, .inl wd)), (a 6, .inl (cI, 24, .inl nm2)), (a 7, .inl (cI, 24, .inl hi2)), (a 8, .inl (cI, 24, .inl ln2)), (a 9, .inl (cZ, 24, .inl op2)), (a 10, .inl (cI, 1536, .inl wd2))] s.heap := hP
  have hD : va_D A [(a 0, .inr (2, [.int (zs_b up), .ref (a 1), .ref (a 2), .ref (a 3), .ref (a 4), .ref (a 5), .ref (a 6), .ref (a 7), .ref (a 8), .ref (a 9), .ref (a 10)])), (a 1, .inl (cI, 24, .inl nm)), (a 2, .inl (cI, 24, .inl hi)), (a 3, .inl (cI, 24, .inl ln)), (a 4, .inl (cZ, 24, .inl op)), (a 5, .inl (cI, 1536, .inl wd)), (a 6, .inl (cI, 24, .inl nm2)), (a 7, .inl (cI, 24, .inl hi2)), (a 8, .inl (cI, 24, .inl ln2)), (a 9, .inl (cZ, 24, .inl op2)), (a 10, .inl (cI, 1536, .inl wd2))] := hD
  have hl := lv_entry ([.ref (a 0), .int o, .int w, .int k]) (n := 5) (Nat.le_of_ble_eq_true rfl)
  rw [lg_entry_eq]
  generalize (lg_sl ([.ref (a 0), .int o, .int w, .int k]) ++ List.replicate (5 - (lg_sl ([.ref (a 0), .int o, .int w, .int k])).length) Slot.unset).toArray = ls at hl ⊢
  have hl : lv_has ls 5 [(0, .ref (a 0)), (1, .int o), (2, .int w), (3, .int k)] := hl
  refine lv_aload_n hx hb zd_M_appendRow_0 rfl (lv_at hl 0 rfl) ?_
  refine lv_iload_n hx hb zd_M_appendRow_1 rfl (lv_at hl 1 rfl) ?_
  refine zc_rV (rest := []) [.int o] hx hb hml hown hz (zc_M_is l dC dI cI cZ a (up, (nm, hi, ln, op, wd), (nm2, hi2, ln2, op2, wd2)) o) zf_M_is rfl rfl zq_215 zq_216 zq_15 ⟨Nat.le_of_ble_eq_true rfl, Nat.le_of_ble_eq_true rfl⟩ hk (hP.sub [0, 1, 2, 3, 4, 5, 6, 7, 8, 9, 10] rfl) 0 2 rfl rfl rfl rfl hl.1 rfl (Nat.le_of_ble_eq_true rfl) zd_M_appendRow_2 ⟨Nat.zero_le _, Nat.zero_le _⟩ (fun r1 e2 => ?_)
  obtain rfl : r1 = zs_b (zm_is up nm o) := e2
  refine zi_eq (tgt := 43) hx hb zd_M_appendRow_5 rfl (fun h3 => ?_) (fun h3 => ?_)
  · refine lv_iconst (v := 0) hx hb zd_M_appendRow_43 (by decide) ?_
    exact zw_zret (up, (nm, hi, ln, op, wd), (nm2, hi2, ln2, op2, wd2)) hx hb hr hlocks zd_M_appendRow_44 rfl (show (0, (up, (nm, hi, ln, op, wd), (nm2, hi2, ln2, op2, wd2))) = zm_appendRow (up, (nm, hi, ln, op, wd), (nm2, hi2, ln2, op2, wd2)) o w k from by simp [zm_appendRow, zm_okr, h3]) hP hD hS
  · obtain ⟨j, hj, rfl, hup, htk⟩ := zm_is_t h3
    refine lv_aload_n hx hb zd_M_appendRow_8 rfl (lv_at hl 0 rfl) ?_
    refine va_get (D := (dC, dI)) (ci := 2) (v := .ref (a 4)) (C := "ZoneShelfModel") (T := zs_T_M) (N := 11) hx hb hz zs_in_M hown hk.1 hP 0 rfl rfl 4 (by decide) (hz _ zq_187) (fun _ h9 => h9) rfl zd_M_appendRow_9 ?_
    refine lv_iload_n hx hb zd_M_appendRow_12 rfl (lv_at hl 1 rfl) ?_
    refine zi_zld hx hb hk hP 4 (j := j) rfl (by omega) (by decide) zd_M_appendRow_13 ?_
    refine lv_if_eq (tgt := 43) hx hb zd_M_appendRow_14 rfl (fun h4 => ?_) (fun h4 => ?_)
    · refine lv_iconst (v := 0) hx hb zd_M_appendRow_43 (by decide) ?_
      exact zw_zret (up, (nm, hi, ln, op, wd), (nm2, hi2, ln2, op2, wd2)) hx hb hr hlocks zd_M_appendRow_44 rfl (show (0, (up, (nm, hi, ln, op, wd), (nm2, hi2, ln2, op2, wd2))) = zm_appendRow (up, (nm, hi, ln, op, wd), (nm2, hi2, ln2, op2, wd2)) (nI j) w k from by simp [zm_appendRow, zm_okr, h3, nI_clamp (show j < 2 ^ 31 by omega), h4]) hP hD hS
    · refine lv_iload_n hx hb zd_M_appendRow_17 rfl (lv_at hl 3 rfl) ?_
      refine lv_iconst (v := 1) hx hb zd_M_appendRow_18 (by decide) ?_
      refine lv_icmp_lt (tgt := 43) hx hb zd_M_appendRow_19 rfl (fun h5 => ?_) (fun h5 => ?_)
      · refine lv_iconst (v := 0) hx hb zd_M_appendRow_43 (by decide) ?_
        exact zw_zret (up, (nm, hi, ln, op, wd), (nm2, hi2, ln2, op2, wd2)) hx hb hr hlocks zd_M_appendRow_44 rfl (show (0, (up, (nm, hi, ln, op, wd), (nm2, hi2, ln2, op2, wd2))) = zm_appendRow (up, (nm, hi, ln, op, wd), (nm2, hi2, ln2, op2, wd2)) (nI j) w k from by simp [zm_appendRow, zm_okr, h3, nI_clamp (show j < 2 ^ 31 by omega), h4, h5]) hP hD hS
      · refine lv_iload_n hx hb zd_M_appendRow_22 rfl (lv_at hl 3 rfl) ?_
        refine lv_bipush (v := 64) hx hb zd_M_appendRow_23 (by decide) ?_
        refine lv_aload_n hx hb zd_M_appendRow_25 rfl (lv_at hl 0 rfl) ?_
        refine va_get (D := (dC, dI)) (ci := 2) (v := .ref (a 3)) (C := "ZoneShelfModel") (T := zs_T_M) (N := 11) hx hb hz zs_in_M hown hk.1 hP 0 rfl rfl 3 (by decide) (hz _ zq_186) (fun _ h9 => h9) rfl zd_M_appendRow_26 ?_
        refine lv_iload_n hx hb zd_M_appendRow_29 rfl (lv_at hl 1 rfl) ?_
        refine zi_ald hx hb hk hP 3 (j := j) rfl (by omega) (by decide) zd_M_appendRow_30 ?_
        refine lv_isub hx hb zd_M_appendRow_31 ?_
        refine lv_icmp_gt (tgt := 43) hx hb zd_M_appendRow_32 rfl (fun h6 => ?_) (fun h6 => ?_)
        · refine lv_iconst (v := 0) hx hb zd_M_appendRow_43 (by decide) ?_
          exact zw_zret (up, (nm, hi, ln, op, wd), (nm2, hi2, ln2, op2, wd2)) hx hb hr hlocks zd_M_appendRow_44 rfl (show (0, (up, (nm, hi, ln, op, wd), (nm2, hi2, ln2, op2, wd2))) = zm_appendRow (up, (nm, hi, ln, op, wd), (nm2, hi2, ln2, op2, wd2)) (nI j) w k from by simp [zm_appendRow, zm_okr, h3, nI_clamp (show j < 2 ^ 31 by omega), h4, h5, h6]) hP hD hS
        · refine lv_iload_n hx hb zd_M_appendRow_35 rfl (lv_at hl 3 rfl) ?_
          refine lv_aload_n hx hb zd_M_appendRow_36 rfl (lv_at hl 0 rfl) ?_
          refine zc_rV (rest := [.int k]) [] hx hb hml hown hz (zc_M_left l dC dI cI cZ a (up, (nm, hi, ln, op, wd), (nm2, hi2, ln2, op2, wd2)) ) zf_M_left rfl rfl zq_226 zq_227 zq_16 ⟨Nat.le_of_ble_eq_true rfl, Nat.le_of_ble_eq_true rfl⟩ hk (hP.sub [0, 1, 2, 3, 4, 5, 6, 7, 8, 9, 10] rfl) 0 2 rfl rfl rfl rfl hl.1 rfl (Nat.le_of_ble_eq_true rfl) zd_M_appendRow_37 ⟨Nat.zero_le _, Nat.zero_le _⟩ (fun r7 e8 => ?_)
          obtain rfl : r7 = zm_left nm ln 24 0 200 := e8
          refine lv_icmp_le (tgt := 45) hx hb zd_M_appendRow_40 rfl (fun h9 => ?_) (fun h9 => ?_)
          · obtain ⟨q, hq6, hq⟩ := hok j hj htk
            obtain ⟨k, hkk, rfl⟩ := zs_fit2 hq hq6 h5 h6
            rw [hq] at h6
            refine lv_iconst (v := 0) hx hb zd_M_appendRow_45 (by decide) ?_
            refine lv_istore (lv' := [(4, .int 0), (0, .ref (a 0)), (1, .int (nI j)), (2, .int w), (3, .int (nI k))]) hx hb zd_M_appendRow_46 hl (by decide) rfl (fun ls hl => ?_)
            refine zl_w (N := k) (α := Unit) (fun kk ii xx ls H locs => lv_has ls 5 [(4, .int (nI ii)), (0, .ref (a 0)), (1, .int (nI j)), (2, .int w), (3, .int (nI k))] ∧ va_P (dC, dI) zs_cl [(a 0, .inr (2, [.int (zs_b up), .ref (a 1), .ref (a 2), .ref (a 3), .ref (a 4), .ref (a 5), .ref (a 6), .ref (a 7), .ref (a 8), .ref (a 9), .ref (a 10)])), (a 1, .inl (cI, 24, .inl nm)), (a 2, .inl (cI, 24, .inl hi)), (a 3, .inl (cI, 24, .inl (upd ln j (nI (q + ii))))), (a 4, .inl (cZ, 24, .inl op)), (a 5, .inl (cI, 1536, .inl (zs_row wd (j * 64 + q) w ii))), (a 6, .inl (cI, 24, .inl nm2)), (a 7, .inl (cI, 24, .inl hi2)), (a 8, .inl (cI, 24, .inl ln2)), (a 9, .inl (cZ, 24, .inl op2)), (a 10, .inl (cI, 1536, .inl wd2))] H ∧ va_D A [(a 0, .inr (2, [.int (zs_b up), .ref (a 1), .ref (a 2), .ref (a 3), .ref (a 4), .ref (a 5), .ref (a 6), .ref (a 7), .ref (a 8), .ref (a 9), .ref (a 10)])), (a 1, .inl (cI, 24, .inl nm)), (a 2, .inl (cI, 24, .inl hi)), (a 3, .inl (cI, 24, .inl (upd ln j (nI (q + ii))))), (a 4, .inl (cZ, 24, .inl op)), (a 5, .inl (cI, 1536, .inl (zs_row wd (j * 64 + q) w ii))), (a 6, .inl (cI, 24, .inl nm2)), (a 7, .inl (cI, 24, .inl hi2)), (a 8, .inl (cI, 24, .inl ln2)), (a 9, .inl (cZ, 24, .inl op2)), (a 10, .inl (cI, 1536, .inl wd2))] ∧ va_S A s.heap H locs) (fun k1 i1 x1 ls H locs e1 hv ih1 => ?_) (fun x1 ls H locs hv => ?_) k 0 () ls s.heap _ (by omega) ⟨lv_sub hl [0, 1, 2, 3, 4] rfl, by rw [zs_us0 hq]; exact hP, by rw [zs_us0 hq]; exact hD, hS⟩
            · obtain ⟨hl, hP, hD, hS⟩ := hv
              have hl : lv_has ls 5 [(4, .int (nI i1)), (0, .ref (a 0)), (1, .int (nI j)), (2, .int w), (3, .int (nI k))] := hl
              have hP : va_P (dC, dI) zs_cl [(a 0, .inr (2, [.int (zs_b up), .ref (a 1), .ref (a 2), .ref (a 3), .ref (a 4), .ref (a 5), .ref (a 6), .ref (a 7), .ref (a 8), .ref (a 9), .ref (a 10)])), (a 1, .inl (cI, 24, .inl nm)), (a 2, .inl (cI, 24, .inl hi)), (a 3, .inl (cI, 24, .inl (upd ln j (nI (q + i1))))), (a 4, .inl (cZ, 24, .inl op)), (a 5, .inl (cI, 1536, .inl (zs_row wd (j * 64 + q) w i1))), (a 6, .inl (cI, 24, .inl nm2)), (a 7, .inl (cI, 24, .inl hi2)), (a 8, .inl (cI, 24, .inl ln2)), (a 9, .inl (cZ, 24, .inl op2)), (a 10, .inl (cI, 1536, .inl wd2))] H := hP
              have hD : va_D A [(a 0, .inr (2, [.int (zs_b up), .ref (a 1), .ref (a 2), .ref (a 3), .ref (a 4), .ref (a 5), .ref (a 6), .ref (a 7), .ref (a 8), .ref (a 9), .ref (a 10)])), (a 1, .inl (cI, 24, .inl nm)), (a 2, .inl (cI, 24, .inl hi)), (a 3, .inl (cI, 24, .inl (upd ln j (nI (q + i1))))), (a 4, .inl (cZ, 24, .inl op)), (a 5, .inl (cI, 1536, .inl (zs_row wd (j * 64 + q) w i1))), (a 6, .inl (cI, 24, .inl nm2)), (a 7, .inl (cI, 24, .inl hi2)), (a 8, .inl (cI, 24, .inl ln2)), (a 9, .inl (cZ, 24, .inl op2)), (a 10, .inl (cI, 1536, .inl wd2))] := hD
              have hlt1 : i1 < k := by omega
              refine lv_iload hx hb zd_M_appendRow_48 (lv_at hl 0 rfl) ?_
              refine lv_iload_n hx hb zd_M_appendRow_50 rfl (lv_at hl 4 rfl) ?_
              refine zj_in (tgt := 90) (n := k) hx hb zd_M_appendRow_51 rfl rfl hlt1 (by omega) ?_
              refine lv_aload_n hx hb zd_M_appendRow_54 rfl (lv_at hl 1 rfl) ?_
              refine va_get (D := (dC, dI)) (ci := 2) (v := .ref (a 5)) (C := "ZoneShelfModel") (T := zs_T_M) (N := 11) hx hb hz zs_in_M hown hk.1 hP 0 rfl rfl 5 (by decide) (hz _ zq_188) (fun _ h9 => h9) rfl zd_M_appendRow_55 ?_
              refine lv_bipush (v := 64) hx hb zd_M_appendRow_58 (by decide) ?_
              refine lv_iload_n hx hb zd_M_appendRow_60 rfl (lv_at hl 2 rfl) ?_
              refine lv_imul hx hb zd_M_appendRow_61 ?_
              refine lv_aload_n hx hb zd_M_appendRow_62 rfl (lv_at hl 1 rfl) ?_
              refine va_get (D := (dC, dI)) (ci := 2) (v := .ref (a 3)) (C := "ZoneShelfModel") (T := zs_T_M) (N := 11) hx hb hz zs_in_M hown hk.1 hP 0 rfl rfl 3 (by decide) (hz _ zq_186) (fun _ h9 => h9) rfl zd_M_appendRow_63 ?_
              refine lv_iload_n hx hb zd_M_appendRow_66 rfl (lv_at hl 2 rfl) ?_
              refine zi_ald hx hb hk hP 3 (j := j) rfl (by omega) (by decide) zd_M_appendRow_67 ?_
              refine zi_top (y := nI (q + i1)) (pk_us) ?_
              refine lv_iadd hx hb zd_M_appendRow_68 ?_
              refine zi_top (y := nI (j * 64 + q + i1)) (by rw [show (64 : Int32) = nI 64 from rfl, pk_mul, nI_add, show 64 * j + (q + i1) = j * 64 + q + i1 by omega]) ?_
              refine lv_iload_n hx hb zd_M_appendRow_69 rfl (lv_at hl 3 rfl) ?_
              refine lv_iload hx hb zd_M_appendRow_70 (lv_at hl 0 rfl) ?_
              refine lv_iadd hx hb zd_M_appendRow_72 ?_
              refine zi_ast hx hb hk hP hD hS 5 (j := (j * 64 + q + i1)) rfl (by omega) (by decide) zd_M_appendRow_73 (fun H locs hP hD hS => ?_)
              have hP : va_P (dC, dI) zs_cl [(a 0, .inr (2, [.int (zs_b up), .ref (a 1), .ref (a 2), .ref (a 3), .ref (a 4), .ref (a 5), .ref (a 6), .ref (a 7), .ref (a 8), .ref (a 9), .ref (a 10)])), (a 1, .inl (cI, 24, .inl nm)), (a 2, .inl (cI, 24, .inl hi)), (a 3, .inl (cI, 24, .inl (upd ln j (nI (q + i1))))), (a 4, .inl (cZ, 24, .inl op)), (a 5, .inl (cI, 1536, .inl (upd (zs_row wd (j * 64 + q) w i1) (j * 64 + q + i1) (w + (nI i1))))), (a 6, .inl (cI, 24, .inl nm2)), (a 7, .inl (cI, 24, .inl hi2)), (a 8, .inl (cI, 24, .inl ln2)), (a 9, .inl (cZ, 24, .inl op2)), (a 10, .inl (cI, 1536, .inl wd2))] H := hP
              have hD : va_D A [(a 0, .inr (2, [.int (zs_b up), .ref (a 1), .ref (a 2), .ref (a 3), .ref (a 4), .ref (a 5), .ref (a 6), .ref (a 7), .ref (a 8), .ref (a 9), .ref (a 10)])), (a 1, .inl (cI, 24, .inl nm)), (a 2, .inl (cI, 24, .inl hi)), (a 3, .inl (cI, 24, .inl (upd ln j (nI (q + i1))))), (a 4, .inl (cZ, 24, .inl op)), (a 5, .inl (cI, 1536, .inl (upd (zs_row wd (j * 64 + q) w i1) (j * 64 + q + i1) (w + (nI i1))))), (a 6, .inl (cI, 24, .inl nm2)), (a 7, .inl (cI, 24, .inl hi2)), (a 8, .inl (cI, 24, .inl ln2)), (a 9, .inl (cZ, 24, .inl op2)), (a 10, .inl (cI, 1536, .inl wd2))] := hD
              refine lv_aload_n hx hb zd_M_appendRow_74 rfl (lv_at hl 1 rfl) ?_
              refine va_get (D := (dC, dI)) (ci := 2) (v := .ref (a 3)) (C := "ZoneShelfModel") (T := zs_T_M) (N := 11) hx hb hz zs_in_M hown hk.1 hP 0 rfl rfl 3 (by decide) (hz _ zq_186) (fun _ h9 => h9) rfl zd_M_appendRow_75 ?_
              refine lv_iload_n hx hb zd_M_appendRow_78 rfl (lv_at hl 2 rfl) ?_
              refine lv_dup2_11 hx hb zd_M_appendRow_79 rfl rfl ?_
              refine zi_ald hx hb hk hP 3 (j := j) rfl (by omega) (by decide) zd_M_appendRow_80 ?_
              refine zi_top (y := nI (q + i1)) (pk_us) ?_
              refine lv_iconst (v := 1) hx hb zd_M_appendRow_81 (by decide) ?_
              refine lv_iadd hx hb zd_M_appendRow_82 ?_
              refine zi_top (y := nI (q + (i1 + 1))) (nI_1 _) ?_
              refine zi_ast hx hb hk hP hD hS 3 (j := j) rfl (by omega) (by decide) zd_M_appendRow_83 (fun H locs hP hD hS => ?_)
              have hP : va_P (dC, dI) zs_cl [(a 0, .inr (2, [.int (zs_b up), .ref (a 1), .ref (a 2), .ref (a 3), .ref (a 4), .ref (a 5), .ref (a 6), .ref (a 7), .ref (a 8), .ref (a 9), .ref (a 10)])), (a 1, .inl (cI, 24, .inl nm)), (a 2, .inl (cI, 24, .inl hi)), (a 3, .inl (cI, 24, .inl (upd (upd ln j (nI (q + i1))) j (nI (q + (i1 + 1)))))), (a 4, .inl (cZ, 24, .inl op)), (a 5, .inl (cI, 1536, .inl (upd (zs_row wd (j * 64 + q) w i1) (j * 64 + q + i1) (w + (nI i1))))), (a 6, .inl (cI, 24, .inl nm2)), (a 7, .inl (cI, 24, .inl hi2)), (a 8, .inl (cI, 24, .inl ln2)), (a 9, .inl (cZ, 24, .inl op2)), (a 10, .inl (cI, 1536, .inl wd2))] H := hP
              have hD : va_D A [(a 0, .inr (2, [.int (zs_b up), .ref (a 1), .ref (a 2), .ref (a 3), .ref (a 4), .ref (a 5), .ref (a 6), .ref (a 7), .ref (a 8), .ref (a 9), .ref (a 10)])), (a 1, .inl (cI, 24, .inl nm)), (a 2, .inl (cI, 24, .inl hi)), (a 3, .inl (cI, 24, .inl (upd (upd ln j (nI (q + i1))) j (nI (q + (i1 + 1)))))), (a 4, .inl (cZ, 24, .inl op)), (a 5, .inl (cI, 1536, .inl (upd (zs_row wd (j * 64 + q) w i1) (j * 64 + q + i1) (w + (nI i1))))), (a 6, .inl (cI, 24, .inl nm2)), (a 7, .inl (cI, 24, .inl hi2)), (a 8, .inl (cI, 24, .inl ln2)), (a 9, .inl (cZ, 24, .inl op2)), (a 10, .inl (cI, 1536, .inl wd2))] := hD
              refine lv_iinc (k := 0) (v := nI (i1 + 1)) (lv' := [(4, .int (nI (i1 + 1))), (0, .ref (a 0)), (1, .int (nI j)), (2, .int w), (3, .int (nI k))]) hx hb zd_M_appendRow_84 hl rfl (zs_inc _) (by decide) rfl (fun ls hl => ?_)
              refine lv_goto (tgt := 48) hx hb zd_M_appendRow_87 rfl ?_
              rw [zs_uu] at hP hD
              exact ih1 () ls H locs ⟨lv_sub hl [0, 1, 2, 3, 4] rfl, hP, hD, hS⟩
            · obtain ⟨hl, hP, hD, hS⟩ := hv
              have hl : lv_has ls 5 [(4, .int (nI k)), (0, .ref (a 0)), (1, .int (nI j)), (2, .int w), (3, .int (nI k))] := hl
              have hP : va_P (dC, dI) zs_cl [(a 0, .inr (2, [.int (zs_b up), .ref (a 1), .ref (a 2), .ref (a 3), .ref (a 4), .ref (a 5), .ref (a 6), .ref (a 7), .ref (a 8), .ref (a 9), .ref (a 10)])), (a 1, .inl (cI, 24, .inl nm)), (a 2, .inl (cI, 24, .inl hi)), (a 3, .inl (cI, 24, .inl (upd ln j (nI (q + k))))), (a 4, .inl (cZ, 24, .inl op)), (a 5, .inl (cI, 1536, .inl (zs_row wd (j * 64 + q) w k))), (a 6, .inl (cI, 24, .inl nm2)), (a 7, .inl (cI, 24, .inl hi2)), (a 8, .inl (cI, 24, .inl ln2)), (a 9, .inl (cZ, 24, .inl op2)), (a 10, .inl (cI, 1536, .inl wd2))] H := hP
              have hD : va_D A [(a 0, .inr (2, [.int (zs_b up), .ref (a 1), .ref (a 2), .ref (a 3), .ref (a 4), .ref (a 5), .ref (a 6), .ref (a 7), .ref (a 8), .ref (a 9), .ref (a 10)])), (a 1, .inl (cI, 24, .inl nm)), (a 2, .inl (cI, 24, .inl hi)), (a 3, .inl (cI, 24, .inl (upd ln j (nI (q + k))))), (a 4, .inl (cZ, 24, .inl op)), (a 5, .inl (cI, 1536, .inl (zs_row wd (j * 64 + q) w k))), (a 6, .inl (cI, 24, .inl nm2)), (a 7, .inl (cI, 24, .inl hi2)), (a 8, .inl (cI, 24, .inl ln2)), (a 9, .inl (cZ, 24, .inl op2)), (a 10, .inl (cI, 1536, .inl wd2))] := hD
              refine lv_iload hx hb zd_M_appendRow_48 (lv_at hl 0 rfl) ?_
              refine lv_iload_n hx hb zd_M_appendRow_50 rfl (lv_at hl 4 rfl) ?_
              refine zj_out (tgt := 90) (n := k) (i := k) hx hb zd_M_appendRow_51 rfl rfl (Nat.le_refl _) (by omega) ?_
              refine lv_iconst (v := 1) hx hb zd_M_appendRow_90 (by decide) ?_
              exact zw_zret (up, (nm, hi, upd ln j (nI (q + k)), op, zs_row wd (j * 64 + q) w k), (nm2, hi2, ln2, op2, wd2)) hx hb hr hlocks zd_M_appendRow_91 rfl (show (1, (up, (nm, hi, upd ln j (nI (q + k)), op, zs_row wd (j * 64 + q) w k), (nm2, hi2, ln2, op2, wd2))) = zm_appendRow (up, (nm, hi, ln, op, wd), (nm2, hi2, ln2, op2, wd2)) (nI j) w (nI k) from by simp [zm_appendRow, zm_okr, h3, nI_clamp (show j < 2 ^ 31 by omega), h4, h5, h6, h9, hq, nI_clamp (show q < 2 ^ 31 by omega), nI_clamp (show k < 2 ^ 31 by omega)]) hP hD hS
          · refine lv_iconst (v := 0) hx hb zd_M_appendRow_43 (by decide) ?_
            exact zw_zret (up, (nm, hi, ln, op, wd), (nm2, hi2, ln2, op2, wd2)) hx hb hr hlocks zd_M_appendRow_44 rfl (show (0, (up, (nm, hi, ln, op, wd), (nm2, hi2, ln2, op2, wd2))) = zm_appendRow (up, (nm, hi, ln, op, wd), (nm2, hi2, ln2, op2, wd2)) (nI j) w k from by simp [zm_appendRow, zm_okr, h3, nI_clamp (show j < 2 ^ 31 by omega), h4, h5, h6, h9]) hP hD hS
set_option maxHeartbeats 4000000 in
set_option maxRecDepth 100000 in
theorem zc_M_append (l : Launch) (dC : Nat → ClassId) (dI : Nat → Nat → Nat) (cI cZ : ClassId) (a : Nat → Nat) (u : zs_X) (sz : Nat) (hok : zm_ok u) (o w : Int32) : Met l zy_M_append (.code zy_M_append zb_M_append 3 (some .boolean) :: zs_w) ({ frames := 2, cells := 0, slots := 0, locals := 46 }) (va_Pc [.ref (a 0), .int o, .int w] (zs_s dC dI cI cZ sz (zs_wM cI cZ a u))) (va_Qi (fun r (v : zs_X) => (r, v) = zm_appendRow u o w 1) (zs_e dC dI (zs_wM cI cZ a) (va_A (zs_wM cI cZ a u) sz)) (va_A (zs_wM cI cZ a u) sz)) 0 0 (va_A (zs_wM cI cZ a u) sz) := by
  obtain ⟨up, ⟨nm, hi, ln, op, wd⟩, ⟨nm2, hi2, ln2, op2, wd2⟩⟩ := u
  refine Met.ofW (cc := zb_M_append) (maxL := 3) (ret := (some .boolean)) (by decide) rfl ?_
  intro p e s m args below meth c s₁ B hml hv
  obtain ⟨rfl, hsz, hP, hk, hD0⟩ := hv
  have hx := B.exec
  have hb := B.bytes
  have hr := B.returns
  have hts := atoms_spec (ws := .code zy_M_append zb_M_append 3 (some .boolean) :: zs_w) B.pre
  have hz : ∀ w ∈ zs_w, w.before _ s = true := fun w h => hts w (List.mem_cons_of_mem _ h)
  have hown : s.vm.findClass "ZoneShelfModel" = some m.cls := findClass_of_methodNamed B.named
  have hlocks := B.notSynchronized
  subst hsz
  have hD := hD0.self (sz := s.heap.size)
  generalize hAe : va_A (zs_wM cI cZ a (up, (nm, hi, ln, op, wd), (nm2, hi2, ln2, op2, wd2))) s.heap.size = A at hD ⊢
  have hA : ∀ q : Nat, s.heap.size ≤ q → A q := fun q h => by rw [← hAe]; exact Or.inr h
  have hS : va_S A s.heap s.heap [] := va_S.rf
  have hP : va_P (dC, dI) zs_cl [(a 0, .inr (2, [.int (zs_b up), .ref (a 1), .ref (a 2), .ref (a 3), .ref (a 4), .ref (a 5), .ref (a 6), .ref (a 7), .ref (a 8), .ref (a 9), .ref (a 10)])), (a 1, .inl (cI, 24, .inl nm)), (a 2, .inl (cI, 24, .inl hi)), (a 3, .inl (cI, 24, .inl ln)), (a 4, .inl (cZ, 24, .inl op)), (a 5, .inl (cI, 1536, .inl wd)), (a 6, .inl (cI, 24, .inl nm2)), (a 7, .inl (cI, 24, .inl hi2)), (a 8, .inl (cI, 24, .inl ln2)), (a 9, .inl (cZ, 24, .inl op2)), (a 10, .inl (cI, 1536, .inl wd2))] s.heap := hP
  have hD : va_D A [(a 0, .inr (2, [.int (zs_b up), .ref (a 1), .ref (a 2), .ref (a 3), .ref (a 4), .ref (a 5), .ref (a 6), .ref (a 7), .ref (a 8), .ref (a 9), .ref (a 10)])), (a 1, .inl (cI, 24, .inl nm)), (a 2, .inl (cI, 24, .inl hi)), (a 3, .inl (cI, 24, .inl ln)), (a 4, .inl (cZ, 24, .inl op)), (a 5, .inl (cI, 1536, .inl wd)), (a 6, .inl (cI, 24, .inl nm2)), (a 7, .inl (cI, 24, .inl hi2)), (a 8, .inl (cI, 24, .inl ln2)), (a 9, .inl (cZ, 24, .inl op2)), (a 10, .inl (cI, 1536, .inl wd2))] := hD
  have hl := lv_entry ([.ref (a 0), .int o, .int w]) (n := 3) (Nat.le_of_ble_eq_true rfl)
  rw [lg_entry_eq]
  generalize (lg_sl ([.ref (a 0), .int o, .int w]) ++ List.replicate (3 - (lg_sl ([.ref (a 0), .int o, .int w])).length) Slot.unset).toArray = ls at hl ⊢
  have hl : lv_has ls 3 [(0, .ref (a 0)), (1, .int o), (2, .int w)] := hl
  refine lv_aload_n hx hb zd_M_append_0 rfl (lv_at hl 0 rfl) ?_
  refine lv_iload_n hx hb zd_M_append_1 rfl (lv_at hl 1 rfl) ?_
  refine lv_iload_n hx hb zd_M_append_2 rfl (lv_at hl 2 rfl) ?_
  refine lv_iconst (v := 1) hx hb zd_M_append_3 (by decide) ?_
  refine zc_wV (rest := []) (wr := []) [.int o, .int w, .int 1] hx hb hml hown hz (zc_M_appendRow l dC dI cI cZ a (up, (nm, hi, ln, op, wd), (nm2, hi2, ln2, op2, wd2)) s.heap.size hok o w 1) zf_M_appendRow rfl rfl zq_222 zq_223 zq_224 ⟨Nat.le_of_ble_eq_true rfl, Nat.le_of_ble_eq_true rfl⟩ hk hP hD hS hA [0, 1, 2, 3, 4, 5, 6, 7, 8, 9, 10] [] rfl rfl (by decide) (by decide) (by decide) 0 2 rfl rfl rfl rfl hl.1 rfl (Nat.le_of_ble_eq_true rfl) zd_M_append_4 ⟨Nat.zero_le _, Nat.zero_le _⟩ (fun r1 u3 H locs e2 hP hD hS => ?_)
  exact zw_zret u3 hx hb hr hlocks zd_M_append_7 (by rw [show r1 = (zm_appendRow (up, (nm, hi, ln, op, wd), (nm2, hi2, ln2, op2, wd2)) o w 1).1 from congrArg Prod.fst e2]; exact zm_appendRow_n _ _ _ _) (show (r1, u3) = zm_appendRow (up, (nm, hi, ln, op, wd), (nm2, hi2, ln2, op2, wd2)) o w 1 from e2) hP hD hS
set_option maxHeartbeats 4000000 in
set_option maxRecDepth 100000 in
theorem zc_M_open (l : Launch) (dC : Nat → ClassId) (dI : Nat → Nat → Nat) (cI cZ : ClassId) (a : Nat → Nat) (u : zs_X) (sz : Nat) (o b : Int32) : Met l zy_M_open (.code zy_M_open zb_M_open 3 (some .boolean) :: zs_w) ({ frames := 1, cells := 0, slots := 0, locals := 21 }) (va_Pc [.ref (a 0), .int o, .int b] (zs_s dC dI cI cZ sz (zs_wM cI cZ a u))) (va_Qi (fun r (v : zs_X) => (r, v) = zm_open u o b) (zs_e dC dI (zs_wM cI cZ a) (va_A (zs_wM cI cZ a u) sz)) (va_A (zs_wM cI cZ a u) sz)) 0 0 (va_A (zs_wM cI cZ a u) sz) := by
  obtain ⟨up, ⟨nm, hi, ln, op, wd⟩, ⟨nm2, hi2, ln2, op2, wd2⟩⟩ := u
  refine Met.ofW (cc := zb_M_open) (maxL := 3) (ret := (some .boolean)) (by decide) rfl ?_
  intro p e s m args below meth c s₁ B hml hv
  obtain ⟨rfl, hsz, hP, hk, hD0⟩ := hv
  have hx := B.exec
  have hb := B.bytes
  have hr := B.returns
  have hts := atoms_spec (ws := .code zy_M_open zb_M_open 3 (some .boolean) :: zs_w) B.pre
  have hz : ∀ w ∈ zs_w, w.before _ s = true := fun w h => hts w (List.mem_cons_of_mem _ h)
  have hown : s.vm.findClass "ZoneShelfModel" = some m.cls := findClass_of_methodNamed B.named
  have hlocks := B.notSynchronized
  subst hsz
  have hD := hD0.self (sz := s.heap.size)
  generalize hAe : va_A (zs_wM cI cZ a (up, (nm, hi, ln, op, wd), (nm2, hi2, ln2, op2, wd2))) s.heap.size = A at hD ⊢
  have hA : ∀ q : Nat, s.heap.size ≤ q → A q := fun q h => by rw [← hAe]; exact Or.inr h
  have hS : va_S A s.heap s.heap [] := va_S.rf
  have hP : va_P (dC, dI) zs_cl [(a 0, .inr (2, [.int (zs_b up), .ref (a 1), .ref (a 2), .ref (a 3), .ref (a 4), .ref (a 5), .ref (a 6), .ref (a 7), .ref (a 8), .ref (a 9), .ref (a 10)])), (a 1, .inl (cI, 24, .inl nm)), (a 2, .inl (cI, 24, .inl hi)), (a 3, .inl (cI, 24, .inl ln)), (a 4, .inl (cZ, 24, .inl op)), (a 5, .inl (cI, 1536, .inl wd)), (a 6, .inl (cI, 24, .inl nm2)), (a 7, .inl (cI, 24, .inl hi2)), (a 8, .inl (cI, 24, .inl ln2)), (a 9, .inl (cZ, 24, .inl op2)), (a 10, .inl (cI, 1536, .inl wd2))] s.heap := hP
  have hD : va_D A [(a 0, .inr (2, [.int (zs_b up), .ref (a 1), .ref (a 2), .ref (a 3), .ref (a 4), .ref (a 5), .ref (a 6), .ref (a 7), .ref (a 8), .ref (a 9), .ref (a 10)])), (a 1, .inl (cI, 24, .inl nm)), (a 2, .inl (cI, 24, .inl hi)), (a 3, .inl (cI, 24, .inl ln)), (a 4, .inl (cZ, 24, .inl op)), (a 5, .inl (cI, 1536, .inl wd)), (a 6, .inl (cI, 24, .inl nm2)), (a 7, .inl (cI, 24, .inl hi2)), (a 8, .inl (cI, 24, .inl ln2)), (a 9, .inl (cZ, 24, .inl op2)), (a 10, .inl (cI, 1536, .inl wd2))] := hD
  have hl := lv_entry ([.ref (a 0), .int o, .int b]) (n := 3) (Nat.le_of_ble_eq_true rfl)
  rw [lg_entry_eq]
  generalize (lg_sl ([.ref (a 0), .int o, .int b]) ++ List.replicate (3 - (lg_sl ([.ref (a 0), .int o, .int b])).length) Slot.unset).toArray = ls at hl ⊢
  have hl : lv_has ls 3 [(0, .ref (a 0)), (1, .int o), (2, .int b)] := hl
  refine lv_aload_n hx hb zd_M_open_0 rfl (lv_at hl 0 rfl) ?_
  refine lv_iload_n hx hb zd_M_open_1 rfl (lv_at hl 1 rfl) ?_
  refine zc_rV (rest := []) [.int o] hx hb hml hown hz (zc_M_is l dC dI cI cZ a (up, (nm, hi, ln, op, wd), (nm2, hi2, ln2, op2, wd2)) o) zf_M_is rfl rfl zq_215 zq_216 zq_15 ⟨Nat.le_of_ble_eq_true rfl, Nat.le_of_ble_eq_true rfl⟩ hk (hP.sub [0, 1, 2, 3, 4, 5, 6, 7, 8, 9, 10] rfl) 0 2 rfl rfl rfl rfl hl.1 rfl (Nat.le_of_ble_eq_true rfl) zd_M_open_2 ⟨Nat.zero_le _, Nat.zero_le _⟩ (fun r1 e2 => ?_)
  obtain rfl : r1 = zs_b (zm_is up nm o) := e2
  refine zi_ne (tgt := 10) hx hb zd_M_open_5 rfl (fun h3 => ?_) (fun h3 => ?_)
  · obtain ⟨j, hj, rfl, hup, htk⟩ := zm_is_t h3
    refine lv_aload_n hx hb zd_M_open_10 rfl (lv_at hl 0 rfl) ?_
    refine va_get (D := (dC, dI)) (ci := 2) (v := .ref (a 4)) (C := "ZoneShelfModel") (T := zs_T_M) (N := 11) hx hb hz zs_in_M hown hk.1 hP 0 rfl rfl 4 (by decide) (hz _ zq_187) (fun _ h9 => h9) rfl zd_M_open_11 ?_
    refine lv_iload_n hx hb zd_M_open_14 rfl (lv_at hl 1 rfl) ?_
    refine lv_iload_n hx hb zd_M_open_15 rfl (lv_at hl 2 rfl) ?_
    refine zi_zst hx hb hk hP hD hS 4 (j := j) rfl (by omega) (by decide) zd_M_open_16 (fun H locs hP hD hS => ?_)
    have hP : va_P (dC, dI) zs_cl [(a 0, .inr (2, [.int (zs_b up), .ref (a 1), .ref (a 2), .ref (a 3), .ref (a 4), .ref (a 5), .ref (a 6), .ref (a 7), .ref (a 8), .ref (a 9), .ref (a 10)])), (a 1, .inl (cI, 24, .inl nm)), (a 2, .inl (cI, 24, .inl hi)), (a 3, .inl (cI, 24, .inl ln)), (a 4, .inl (cZ, 24, .inl (upd op j (vp_nar .boolean b)))), (a 5, .inl (cI, 1536, .inl wd)), (a 6, .inl (cI, 24, .inl nm2)), (a 7, .inl (cI, 24, .inl hi2)), (a 8, .inl (cI, 24, .inl ln2)), (a 9, .inl (cZ, 24, .inl op2)), (a 10, .inl (cI, 1536, .inl wd2))] H := hP
    have hD : va_D A [(a 0, .inr (2, [.int (zs_b up), .ref (a 1), .ref (a 2), .ref (a 3), .ref (a 4), .ref (a 5), .ref (a 6), .ref (a 7), .ref (a 8), .ref (a 9), .ref (a 10)])), (a 1, .inl (cI, 24, .inl nm)), (a 2, .inl (cI, 24, .inl hi)), (a 3, .inl (cI, 24, .inl ln)), (a 4, .inl (cZ, 24, .inl (upd op j (vp_nar .boolean b)))), (a 5, .inl (cI, 1536, .inl wd)), (a 6, .inl (cI, 24, .inl nm2)), (a 7, .inl (cI, 24, .inl hi2)), (a 8, .inl (cI, 24, .inl ln2)), (a 9, .inl (cZ, 24, .inl op2)), (a 10, .inl (cI, 1536, .inl wd2))] := hD
    refine lv_iconst (v := 1) hx hb zd_M_open_17 (by decide) ?_
    exact zw_zret (up, (nm, hi, ln, upd op j (vp_nar .boolean b), wd), (nm2, hi2, ln2, op2, wd2)) hx hb hr hlocks zd_M_open_18 rfl (show (1, (up, (nm, hi, ln, upd op j (vp_nar .boolean b), wd), (nm2, hi2, ln2, op2, wd2))) = zm_open (up, (nm, hi, ln, op, wd), (nm2, hi2, ln2, op2, wd2)) (nI j) b from by simp [zm_open, h3, nI_clamp (show j < 2 ^ 31 by omega)]) hP hD hS
  · refine lv_iconst (v := 0) hx hb zd_M_open_8 (by decide) ?_
    exact zw_zret (up, (nm, hi, ln, op, wd), (nm2, hi2, ln2, op2, wd2)) hx hb hr hlocks zd_M_open_9 rfl (show (0, (up, (nm, hi, ln, op, wd), (nm2, hi2, ln2, op2, wd2))) = zm_open (up, (nm, hi, ln, op, wd), (nm2, hi2, ln2, op2, wd2)) o b from by simp [zm_open, h3]) hP hD hS
set_option maxHeartbeats 4000000 in
set_option maxRecDepth 100000 in
theorem zc_M_remove (l : Launch) (dC : Nat → ClassId) (dI : Nat → Nat → Nat) (cI cZ : ClassId) (a : Nat → Nat) (u : zs_X) (sz : Nat) (o : Int32) : Met l zy_M_remove (.code zy_M_remove zb_M_remove 2 (some .boolean) :: zs_w) ({ frames := 1, cells := 0, slots := 0, locals := 21 }) (va_Pc [.ref (a 0), .int o] (zs_s dC dI cI cZ sz (zs_wM cI cZ a u))) (va_Qi (fun r (v : zs_X) => (r, v) = zm_remove u o) (zs_e dC dI (zs_wM cI cZ a) (va_A (zs_wM cI cZ a u) sz)) (va_A (zs_wM cI cZ a u) sz)) 0 0 (va_A (zs_wM cI cZ a u) sz) := by
  obtain ⟨up, ⟨nm, hi, ln, op, wd⟩, ⟨nm2, hi2, ln2, op2, wd2⟩⟩ := u
  refine Met.ofW (cc := zb_M_remove) (maxL := 2) (ret := (some .boolean)) (by decide) rfl ?_
  intro p e s m args below meth c s₁ B hml hv
  obtain ⟨rfl, hsz, hP, hk, hD0⟩ := hv
  have hx := B.exec
  have hb := B.bytes
  have hr := B.returns
  have hts := atoms_spec (ws := .code zy_M_remove zb_M_remove 2 (some .boolean) :: zs_w) B.pre
  have hz : ∀ w ∈ zs_w, w.before _ s = true := fun w h => hts w (List.mem_cons_of_mem _ h)
  have hown : s.vm.findClass "ZoneShelfModel" = some m.cls := findClass_of_methodNamed B.named
  have hlocks := B.notSynchronized
  subst hsz
  have hD := hD0.self (sz := s.heap.size)
  generalize hAe : va_A (zs_wM cI cZ a (up, (nm, hi, ln, op, wd), (nm2, hi2, ln2, op2, wd2))) s.heap.size = A at hD ⊢
  have hA : ∀ q : Nat, s.heap.size ≤ q → A q := fun q h => by rw [← hAe]; exact Or.inr h
  have hS : va_S A s.heap s.heap [] := va_S.rf
  have hP : va_P (dC, dI) zs_cl [(a 0, .inr (2, [.int (zs_b up), .ref (a 1), .ref (a 2), .ref (a 3), .ref (a 4), .ref (a 5), .ref (a 6), .ref (a 7), .ref (a 8), .ref (a 9), .ref (a 10)])), (a 1, .inl (cI, 24, .inl nm)), (a 2, .inl (cI, 24, .inl hi)), (a 3, .inl (cI, 24, .inl ln)), (a 4, .inl (cZ, 24, .inl op)), (a 5, .inl (cI, 1536, .inl wd)), (a 6, .inl (cI, 24, .inl nm2)), (a 7, .inl (cI, 24, .inl hi2)), (a 8, .inl (cI, 24, .inl ln2)), (a 9, .inl (cZ, 24, .inl op2)), (a 10, .inl (cI, 1536, .inl wd2))] s.heap := hP
  have hD : va_D A [(a 0, .inr (2, [.int (zs_b up), .ref (a 1), .ref (a 2), .ref (a 3), .ref (a 4), .ref (a 5), .ref (a 6), .ref (a 7), .ref (a 8), .ref (a 9), .ref (a 10)])), (a 1, .inl (cI, 24, .inl nm)), (a 2, .inl (cI, 24, .inl hi)), (a 3, .inl (cI, 24, .inl ln)), (a 4, .inl (cZ, 24, .inl op)), (a 5, .inl (cI, 1536, .inl wd)), (a 6, .inl (cI, 24, .inl nm2)), (a 7, .inl (cI, 24, .inl hi2)), (a 8, .inl (cI, 24, .inl ln2)), (a 9, .inl (cZ, 24, .inl op2)), (a 10, .inl (cI, 1536, .inl wd2))] := hD
  have hl := lv_entry ([.ref (a 0), .int o]) (n := 2) (Nat.le_of_ble_eq_true rfl)
  rw [lg_entry_eq]
  generalize (lg_sl ([.ref (a 0), .int o]) ++ List.replicate (2 - (lg_sl ([.ref (a 0), .int o])).length) Slot.unset).toArray = ls at hl ⊢
  have hl : lv_has ls 2 [(0, .ref (a 0)), (1, .int o)] := hl
  refine lv_aload_n hx hb zd_M_remove_0 rfl (lv_at hl 0 rfl) ?_
  refine lv_iload_n hx hb zd_M_remove_1 rfl (lv_at hl 1 rfl) ?_
  refine zc_rV (rest := []) [.int o] hx hb hml hown hz (zc_M_is l dC dI cI cZ a (up, (nm, hi, ln, op, wd), (nm2, hi2, ln2, op2, wd2)) o) zf_M_is rfl rfl zq_215 zq_216 zq_15 ⟨Nat.le_of_ble_eq_true rfl, Nat.le_of_ble_eq_true rfl⟩ hk (hP.sub [0, 1, 2, 3, 4, 5, 6, 7, 8, 9, 10] rfl) 0 2 rfl rfl rfl rfl hl.1 rfl (Nat.le_of_ble_eq_true rfl) zd_M_remove_2 ⟨Nat.zero_le _, Nat.zero_le _⟩ (fun r1 e2 => ?_)
  obtain rfl : r1 = zs_b (zm_is up nm o) := e2
  refine zi_ne (tgt := 10) hx hb zd_M_remove_5 rfl (fun h3 => ?_) (fun h3 => ?_)
  · obtain ⟨j, hj, rfl, hup, htk⟩ := zm_is_t h3
    refine lv_aload_n hx hb zd_M_remove_10 rfl (lv_at hl 0 rfl) ?_
    refine va_get (D := (dC, dI)) (ci := 2) (v := .ref (a 1)) (C := "ZoneShelfModel") (T := zs_T_M) (N := 11) hx hb hz zs_in_M hown hk.1 hP 0 rfl rfl 1 (by decide) (hz _ zq_184) (fun _ h9 => h9) rfl zd_M_remove_11 ?_
    refine lv_iload_n hx hb zd_M_remove_14 rfl (lv_at hl 1 rfl) ?_
    refine lv_iconst (v := 0) hx hb zd_M_remove_15 (by decide) ?_
    refine zi_ast hx hb hk hP hD hS 1 (j := j) rfl (by omega) (by decide) zd_M_remove_16 (fun H locs hP hD hS => ?_)
    have hP : va_P (dC, dI) zs_cl [(a 0, .inr (2, [.int (zs_b up), .ref (a 1), .ref (a 2), .ref (a 3), .ref (a 4), .ref (a 5), .ref (a 6), .ref (a 7), .ref (a 8), .ref (a 9), .ref (a 10)])), (a 1, .inl (cI, 24, .inl (upd nm j 0))), (a 2, .inl (cI, 24, .inl hi)), (a 3, .inl (cI, 24, .inl ln)), (a 4, .inl (cZ, 24, .inl op)), (a 5, .inl (cI, 1536, .inl wd)), (a 6, .inl (cI, 24, .inl nm2)), (a 7, .inl (cI, 24, .inl hi2)), (a 8, .inl (cI, 24, .inl ln2)), (a 9, .inl (cZ, 24, .inl op2)), (a 10, .inl (cI, 1536, .inl wd2))] H := hP
    have hD : va_D A [(a 0, .inr (2, [.int (zs_b up), .ref (a 1), .ref (a 2), .ref (a 3), .ref (a 4), .ref (a 5), .ref (a 6), .ref (a 7), .ref (a 8), .ref (a 9), .ref (a 10)])), (a 1, .inl (cI, 24, .inl (upd nm j 0))), (a 2, .inl (cI, 24, .inl hi)), (a 3, .inl (cI, 24, .inl ln)), (a 4, .inl (cZ, 24, .inl op)), (a 5, .inl (cI, 1536, .inl wd)), (a 6, .inl (cI, 24, .inl nm2)), (a 7, .inl (cI, 24, .inl hi2)), (a 8, .inl (cI, 24, .inl ln2)), (a 9, .inl (cZ, 24, .inl op2)), (a 10, .inl (cI, 1536, .inl wd2))] := hD
    refine lv_iconst (v := 1) hx hb zd_M_remove_17 (by decide) ?_
    exact zw_zret (up, (upd nm j 0, hi, ln, op, wd), (nm2, hi2, ln2, op2, wd2)) hx hb hr hlocks zd_M_remove_18 rfl (show (1, (up, (upd nm j 0, hi, ln, op, wd), (nm2, hi2, ln2, op2, wd2))) = zm_remove (up, (nm, hi, ln, op, wd), (nm2, hi2, ln2, op2, wd2)) (nI j)  from by simp [zm_remove, h3, nI_clamp (show j < 2 ^ 31 by omega)]) hP hD hS
  · refine lv_iconst (v := 0) hx hb zd_M_remove_8 (by decide) ?_
    exact zw_zret (up, (nm, hi, ln, op, wd), (nm2, hi2, ln2, op2, wd2)) hx hb hr hlocks zd_M_remove_9 rfl (show (0, (up, (nm, hi, ln, op, wd), (nm2, hi2, ln2, op2, wd2))) = zm_remove (up, (nm, hi, ln, op, wd), (nm2, hi2, ln2, op2, wd2)) o  from by simp [zm_remove, h3]) hP hD hS
set_option maxHeartbeats 4000000 in
set_option maxRecDepth 100000 in
theorem zc_M_rename (l : Launch) (dC : Nat → ClassId) (dI : Nat → Nat → Nat) (cI cZ : ClassId) (a : Nat → Nat) (u : zs_X) (sz : Nat) (o n : Int32) : Met l zy_M_rename (.code zy_M_rename zb_M_rename 3 (some .boolean) :: zs_w) ({ frames := 2, cells := 0, slots := 0, locals := 44 }) (va_Pc [.ref (a 0), .int o, .int n] (zs_s dC dI cI cZ sz (zs_wM cI cZ a u))) (va_Qi (fun r (v : zs_X) => (r, v) = zm_rename u o n) (zs_e dC dI (zs_wM cI cZ a) (va_A (zs_wM cI cZ a u) sz)) (va_A (zs_wM cI cZ a u) sz)) 0 0 (va_A (zs_wM cI cZ a u) sz) := by
  obtain ⟨up, ⟨nm, hi, ln, op, wd⟩, ⟨nm2, hi2, ln2, op2, wd2⟩⟩ := u
  refine Met.ofW (cc := zb_M_rename) (maxL := 3) (ret := (some .boolean)) (by decide) rfl ?_
  intro p e s m args below meth c s₁ B hml hv
  obtain ⟨rfl, hsz, hP, hk, hD0⟩ := hv
  have hx := B.exec
  have hb := B.bytes
  have hr := B.returns
  have hts := atoms_spec (ws := .code zy_M_rename zb_M_rename 3 (some .boolean) :: zs_w) B.pre
  have hz : ∀ w ∈ zs_w, w.before _ s = true := fun w h => hts w (List.mem_cons_of_mem _ h)
  have hown : s.vm.findClass "ZoneShelfModel" = some m.cls := findClass_of_methodNamed B.named
  have hlocks := B.notSynchronized
  subst hsz
  have hD := hD0.self (sz := s.heap.size)
  generalize hAe : va_A (zs_wM cI cZ a (up, (nm, hi, ln, op, wd), (nm2, hi2, ln2, op2, wd2))) s.heap.size = A at hD ⊢
  have hA : ∀ q : Nat, s.heap.size ≤ q → A q := fun q h => by rw [← hAe]; exact Or.inr h
  have hS : va_S A s.heap s.heap [] := va_S.rf
  have hP : va_P (dC, dI) zs_cl [(a 0, .inr (2, [.int (zs_b up), .ref (a 1), .ref (a 2), .ref (a 3), .ref (a 4), .ref (a 5), .ref (a 6), .ref (a 7), .ref (a 8), .ref (a 9), .ref (a 10)])), (a 1, .inl (cI, 24, .inl nm)), (a 2, .inl (cI, 24, .inl hi)), (a 3, .inl (cI, 24, .inl ln)), (a 4, .inl (cZ, 24, .inl op)), (a 5, .inl (cI, 1536, .inl wd)), (a 6, .inl (cI, 24, .inl nm2)), (a 7, .inl (cI, 24, .inl hi2)), (a 8, .inl (cI, 24, .inl ln2)), (a 9, .inl (cZ, 24, .inl op2)), (a 10, .inl (cI, 1536, .inl wd2))] s.heap := hP
  have hD : va_D A [(a 0, .inr (2, [.int (zs_b up), .ref (a 1), .ref (a 2), .ref (a 3), .ref (a 4), .ref (a 5), .ref (a 6), .ref (a 7), .ref (a 8), .ref (a 9), .ref (a 10)])), (a 1, .inl (cI, 24, .inl nm)), (a 2, .inl (cI, 24, .inl hi)), (a 3, .inl (cI, 24, .inl ln)), (a 4, .inl (cZ, 24, .inl op)), (a 5, .inl (cI, 1536, .inl wd)), (a 6, .inl (cI, 24, .inl nm2)), (a 7, .inl (cI, 24, .inl hi2)), (a 8, .inl (cI, 24, .inl ln2)), (a 9, .inl (cZ, 24, .inl op2)), (a 10, .inl (cI, 1536, .inl wd2))] := hD
  have hl := lv_entry ([.ref (a 0), .int o, .int n]) (n := 3) (Nat.le_of_ble_eq_true rfl)
  rw [lg_entry_eq]
  generalize (lg_sl ([.ref (a 0), .int o, .int n]) ++ List.replicate (3 - (lg_sl ([.ref (a 0), .int o, .int n])).length) Slot.unset).toArray = ls at hl ⊢
  have hl : lv_has ls 3 [(0, .ref (a 0)), (1, .int o), (2, .int n)] := hl
  refine lv_aload_n hx hb zd_M_rename_0 rfl (lv_at hl 0 rfl) ?_
  refine lv_iload_n hx hb zd_M_rename_1 rfl (lv_at hl 1 rfl) ?_
  refine zc_rV (rest := []) [.int o] hx hb hml hown hz (zc_M_is l dC dI cI cZ a (up, (nm, hi, ln, op, wd), (nm2, hi2, ln2, op2, wd2)) o) zf_M_is rfl rfl zq_215 zq_216 zq_15 ⟨Nat.le_of_ble_eq_true rfl, Nat.le_of_ble_eq_true rfl⟩ hk (hP.sub [0, 1, 2, 3, 4, 5, 6, 7, 8, 9, 10] rfl) 0 2 rfl rfl rfl rfl hl.1 rfl (Nat.le_of_ble_eq_true rfl) zd_M_rename_2 ⟨Nat.zero_le _, Nat.zero_le _⟩ (fun r1 e2 => ?_)
  obtain rfl : r1 = zs_b (zm_is up nm o) := e2
  refine zi_eq (tgt := 24) hx hb zd_M_rename_5 rfl (fun h3 => ?_) (fun h3 => ?_)
  · refine lv_iconst (v := 0) hx hb zd_M_rename_24 (by decide) ?_
    exact zw_zret (up, (nm, hi, ln, op, wd), (nm2, hi2, ln2, op2, wd2)) hx hb hr hlocks zd_M_rename_25 rfl (show (0, (up, (nm, hi, ln, op, wd), (nm2, hi2, ln2, op2, wd2))) = zm_rename (up, (nm, hi, ln, op, wd), (nm2, hi2, ln2, op2, wd2)) o n from by simp [zm_rename, h3]) hP hD hS
  · obtain ⟨j, hj, rfl, hup, htk⟩ := zm_is_t h3
    refine lv_iload_n hx hb zd_M_rename_8 rfl (lv_at hl 2 rfl) ?_
    refine zc_rS (rest := []) [.int n] hx hb hml hown hz (zc_M_isName l dC dI cI cZ n) zf_M_isName rfl rfl zq_209 zq_210 ⟨Nat.le_of_ble_eq_true rfl, Nat.le_of_ble_eq_true rfl⟩ rfl hl.1 rfl (Nat.le_of_ble_eq_true rfl) zd_M_rename_9 ⟨Nat.zero_le _, Nat.zero_le _⟩ (fun r4 e5 => ?_)
    obtain rfl : r4 = zs_b (zs_nam n) := e5
    refine zi_eq (tgt := 24) hx hb zd_M_rename_12 rfl (fun h6 => ?_) (fun h6 => ?_)
    · refine lv_iconst (v := 0) hx hb zd_M_rename_24 (by decide) ?_
      exact zw_zret (up, (nm, hi, ln, op, wd), (nm2, hi2, ln2, op2, wd2)) hx hb hr hlocks zd_M_rename_25 rfl (show (0, (up, (nm, hi, ln, op, wd), (nm2, hi2, ln2, op2, wd2))) = zm_rename (up, (nm, hi, ln, op, wd), (nm2, hi2, ln2, op2, wd2)) (nI j) n from by simp [zm_rename, h3, nI_clamp (show j < 2 ^ 31 by omega), h6]) hP hD hS
    · refine lv_aload_n hx hb zd_M_rename_15 rfl (lv_at hl 0 rfl) ?_
      refine lv_iload_n hx hb zd_M_rename_16 rfl (lv_at hl 2 rfl) ?_
      refine zc_rV (rest := []) [.int n] hx hb hml hown hz (zc_M_named l dC dI cI cZ a (up, (nm, hi, ln, op, wd), (nm2, hi2, ln2, op2, wd2)) n) zf_M_named rfl rfl zq_212 zq_213 zq_14 ⟨Nat.le_of_ble_eq_true rfl, Nat.le_of_ble_eq_true rfl⟩ hk (hP.sub [0, 1, 2, 3, 4, 5, 6, 7, 8, 9, 10] rfl) 0 2 rfl rfl rfl rfl hl.1 rfl (Nat.le_of_ble_eq_true rfl) zd_M_rename_17 ⟨Nat.zero_le _, Nat.zero_le _⟩ (fun r7 e8 => ?_)
      obtain rfl : r7 = zm_num up nm n 24 0 (-1) := e8
      refine lv_iconst (v := (-1)) hx hb zd_M_rename_20 (by decide) ?_
      refine lv_icmp_eq (tgt := 26) hx hb zd_M_rename_21 rfl (fun h9 => ?_) (fun h9 => ?_)
      · refine lv_aload_n hx hb zd_M_rename_26 rfl (lv_at hl 0 rfl) ?_
        refine va_get (D := (dC, dI)) (ci := 2) (v := .ref (a 1)) (C := "ZoneShelfModel") (T := zs_T_M) (N := 11) hx hb hz zs_in_M hown hk.1 hP 0 rfl rfl 1 (by decide) (hz _ zq_184) (fun _ h9 => h9) rfl zd_M_rename_27 ?_
        refine lv_iload_n hx hb zd_M_rename_30 rfl (lv_at hl 1 rfl) ?_
        refine lv_iload_n hx hb zd_M_rename_31 rfl (lv_at hl 2 rfl) ?_
        refine lv_iconst (v := 1) hx hb zd_M_rename_32 (by decide) ?_
        refine lv_iadd hx hb zd_M_rename_33 ?_
        refine zi_ast hx hb hk hP hD hS 1 (j := j) rfl (by omega) (by decide) zd_M_rename_34 (fun H locs hP hD hS => ?_)
        have hP : va_P (dC, dI) zs_cl [(a 0, .inr (2, [.int (zs_b up), .ref (a 1), .ref (a 2), .ref (a 3), .ref (a 4), .ref (a 5), .ref (a 6), .ref (a 7), .ref (a 8), .ref (a 9), .ref (a 10)])), (a 1, .inl (cI, 24, .inl (upd nm j (n + 1)))), (a 2, .inl (cI, 24, .inl hi)), (a 3, .inl (cI, 24, .inl ln)), (a 4, .inl (cZ, 24, .inl op)), (a 5, .inl (cI, 1536, .inl wd)), (a 6, .inl (cI, 24, .inl nm2)), (a 7, .inl (cI, 24, .inl hi2)), (a 8, .inl (cI, 24, .inl ln2)), (a 9, .inl (cZ, 24, .inl op2)), (a 10, .inl (cI, 1536, .inl wd2))] H := hP
        have hD : va_D A [(a 0, .inr (2, [.int (zs_b up), .ref (a 1), .ref (a 2), .ref (a 3), .ref (a 4), .ref (a 5), .ref (a 6), .ref (a 7), .ref (a 8), .ref (a 9), .ref (a 10)])), (a 1, .inl (cI, 24, .inl (upd nm j (n + 1)))), (a 2, .inl (cI, 24, .inl hi)), (a 3, .inl (cI, 24, .inl ln)), (a 4, .inl (cZ, 24, .inl op)), (a 5, .inl (cI, 1536, .inl wd)), (a 6, .inl (cI, 24, .inl nm2)), (a 7, .inl (cI, 24, .inl hi2)), (a 8, .inl (cI, 24, .inl ln2)), (a 9, .inl (cZ, 24, .inl op2)), (a 10, .inl (cI, 1536, .inl wd2))] := hD
        refine lv_iconst (v := 1) hx hb zd_M_rename_35 (by decide) ?_
        exact zw_zret (up, (upd nm j (n + 1), hi, ln, op, wd), (nm2, hi2, ln2, op2, wd2)) hx hb hr hlocks zd_M_rename_36 rfl (show (1, (up, (upd nm j (n + 1), hi, ln, op, wd), (nm2, hi2, ln2, op2, wd2))) = zm_rename (up, (nm, hi, ln, op, wd), (nm2, hi2, ln2, op2, wd2)) (nI j) n from by simp [zm_rename, h3, nI_clamp (show j < 2 ^ 31 by omega), h6, h9]) hP hD hS
      · refine lv_iconst (v := 0) hx hb zd_M_rename_24 (by decide) ?_
        exact zw_zret (up, (nm, hi, ln, op, wd), (nm2, hi2, ln2, op2, wd2)) hx hb hr hlocks zd_M_rename_25 rfl (show (0, (up, (nm, hi, ln, op, wd), (nm2, hi2, ln2, op2, wd2))) = zm_rename (up, (nm, hi, ln, op, wd), (nm2, hi2, ln2, op2, wd2)) (nI j) n from by simp [zm_rename, h3, nI_clamp (show j < 2 ^ 31 by omega), h6, h9]) hP hD hS
set_option maxHeartbeats 4000000 in
set_option maxRecDepth 100000 in
theorem zc_M_sync (l : Launch) (dC : Nat → ClassId) (dI : Nat → Nat → Nat) (cI cZ : ClassId) (a : Nat → Nat) (u : zs_X) (sz : Nat)  : Met l zy_M_sync (.code zy_M_sync zb_M_sync 2 (some .boolean) :: zs_w) ({ frames := 0, cells := 0, slots := 0, locals := 0 }) (va_Pc [.ref (a 0)] (zs_s dC dI cI cZ sz (zs_wM cI cZ a u))) (va_Qi (fun r (v : zs_X) => (r, v) = zm_sync u) (zs_e dC dI (zs_wM cI cZ a) (va_A (zs_wM cI cZ a u) sz)) (va_A (zs_wM cI cZ a u) sz)) 0 0 (va_A (zs_wM cI cZ a u) sz) := by
  obtain ⟨up, ⟨nm, hi, ln, op, wd⟩, ⟨nm2, hi2, ln2, op2, wd2⟩⟩ := u
  refine Met.ofW (cc := zb_M_sync) (maxL := 2) (ret := (some .boolean)) (by decide) rfl ?_
  intro p e s m args below meth c s₁ B hml hv
  obtain ⟨rfl, hsz, hP, hk, hD0⟩ := hv
  have hx := B.exec
  have hb := B.bytes
  have hr := B.returns
  have hts := atoms_spec (ws := .code zy_M_sync zb_M_sync 2 (some .boolean) :: zs_w) B.pre
  have hz : ∀ w ∈ zs_w, w.before _ s = true := fun w h => hts w (List.mem_cons_of_mem _ h)
  have hown : s.vm.findClass "ZoneShelfModel" = some m.cls := findClass_of_methodNamed B.named
  have hlocks := B.notSynchronized
  subst hsz
  have hD := hD0.self (sz := s.heap.size)
  generalize hAe : va_A (zs_wM cI cZ a (up, (nm, hi, ln, op, wd), (nm2, hi2, ln2, op2, wd2))) s.heap.size = A at hD ⊢
  have hA : ∀ q : Nat, s.heap.size ≤ q → A q := fun q h => by rw [← hAe]; exact Or.inr h
  have hS : va_S A s.heap s.heap [] := va_S.rf
  have hP : va_P (dC, dI) zs_cl [(a 0, .inr (2, [.int (zs_b up), .ref (a 1), .ref (a 2), .ref (a 3), .ref (a 4), .ref (a 5), .ref (a 6), .ref (a 7), .ref (a 8), .ref (a 9), .ref (a 10)])), (a 1, .inl (cI, 24, .inl nm)), (a 2, .inl (cI, 24, .inl hi)), (a 3, .inl (cI, 24, .inl ln)), (a 4, .inl (cZ, 24, .inl op)), (a 5, .inl (cI, 1536, .inl wd)), (a 6, .inl (cI, 24, .inl nm2)), (a 7, .inl (cI, 24, .inl hi2)), (a 8, .inl (cI, 24, .inl ln2)), (a 9, .inl (cZ, 24, .inl op2)), (a 10, .inl (cI, 1536, .inl wd2))] s.heap := hP
  have hD : va_D A [(a 0, .inr (2, [.int (zs_b up), .ref (a 1), .ref (a 2), .ref (a 3), .ref (a 4), .ref (a 5), .ref (a 6), .ref (a 7), .ref (a 8), .ref (a 9), .ref (a 10)])), (a 1, .inl (cI, 24, .inl nm)), (a 2, .inl (cI, 24, .inl hi)), (a 3, .inl (cI, 24, .inl ln)), (a 4, .inl (cZ, 24, .inl op)), (a 5, .inl (cI, 1536, .inl wd)), (a 6, .inl (cI, 24, .inl nm2)), (a 7, .inl (cI, 24, .inl hi2)), (a 8, .inl (cI, 24, .inl ln2)), (a 9, .inl (cZ, 24, .inl op2)), (a 10, .inl (cI, 1536, .inl wd2))] := hD
  have hl := lv_entry ([.ref (a 0)]) (n := 2) (Nat.le_of_ble_eq_true rfl)
  rw [lg_entry_eq]
  generalize (lg_sl ([.ref (a 0)]) ++ List.replicate (2 - (lg_sl ([.ref (a 0)])).length) Slot.unset).toArray = ls at hl ⊢
  have hl : lv_has ls 2 [(0, .ref (a 0))] := hl
  refine lv_aload_n hx hb zd_M_sync_0 rfl (lv_at hl 0 rfl) ?_
  refine va_get (D := (dC, dI)) (ci := 2) (v := .int (zs_b up)) (C := "ZoneShelfModel") (T := zs_T_M) (N := 11) hx hb hz zs_in_M hown hk.1 hP 0 rfl rfl 0 (by decide) (hz _ zq_183) (fun _ h9 => h9) rfl zd_M_sync_1 ?_
  refine zi_ne (tgt := 9) hx hb zd_M_sync_4 rfl (fun h1 => ?_) (fun h1 => ?_)
  · subst h1
    refine lv_iconst (v := 0) hx hb zd_M_sync_9 (by decide) ?_
    refine lv_istore_n (lv' := [(1, .int 0), (0, .ref (a 0))]) hx hb zd_M_sync_10 rfl hl (by decide) rfl (fun ls hl => ?_)
    refine zl_w (N := 24) (α := Unit) (fun kk ii xx ls H locs => lv_has ls 2 [(1, .int (nI ii)), (0, .ref (a 0))] ∧ va_P (dC, dI) zs_cl [(a 0, .inr (2, [.int (zs_b true), .ref (a 1), .ref (a 2), .ref (a 3), .ref (a 4), .ref (a 5), .ref (a 6), .ref (a 7), .ref (a 8), .ref (a 9), .ref (a 10)])), (a 1, .inl (cI, 24, .inl nm)), (a 2, .inl (cI, 24, .inl hi)), (a 3, .inl (cI, 24, .inl ln)), (a 4, .inl (cZ, 24, .inl op)), (a 5, .inl (cI, 1536, .inl wd)), (a 6, .inl (cI, 24, .inl (zs_cp nm nm2 ii))), (a 7, .inl (cI, 24, .inl (zs_cp hi hi2 ii))), (a 8, .inl (cI, 24, .inl (zs_cp ln ln2 ii))), (a 9, .inl (cZ, 24, .inl (zs_cz op op2 ii))), (a 10, .inl (cI, 1536, .inl wd2))] H ∧ va_D A [(a 0, .inr (2, [.int (zs_b true), .ref (a 1), .ref (a 2), .ref (a 3), .ref (a 4), .ref (a 5), .ref (a 6), .ref (a 7), .ref (a 8), .ref (a 9), .ref (a 10)])), (a 1, .inl (cI, 24, .inl nm)), (a 2, .inl (cI, 24, .inl hi)), (a 3, .inl (cI, 24, .inl ln)), (a 4, .inl (cZ, 24, .inl op)), (a 5, .inl (cI, 1536, .inl wd)), (a 6, .inl (cI, 24, .inl (zs_cp nm nm2 ii))), (a 7, .inl (cI, 24, .inl (zs_cp hi hi2 ii))), (a 8, .inl (cI, 24, .inl (zs_cp ln ln2 ii))), (a 9, .inl (cZ, 24, .inl (zs_cz op op2 ii))), (a 10, .inl (cI, 1536, .inl wd2))] ∧ va_S A s.heap H locs) (fun k1 i1 x1 ls H locs e1 hv ih1 => ?_) (fun x1 ls H locs hv => ?_) 24 0 () ls s.heap _ rfl ⟨lv_sub hl [0, 1] rfl, by rw [zs_cp_0, zs_cp_0, zs_cp_0, zs_cz_0]; exact hP, by rw [zs_cp_0, zs_cp_0, zs_cp_0, zs_cz_0]; exact hD, hS⟩
    · obtain ⟨hl, hP, hD, hS⟩ := hv
      have hl : lv_has ls 2 [(1, .int (nI i1)), (0, .ref (a 0))] := hl
      have hP : va_P (dC, dI) zs_cl [(a 0, .inr (2, [.int (zs_b true), .ref (a 1), .ref (a 2), .ref (a 3), .ref (a 4), .ref (a 5), .ref (a 6), .ref (a 7), .ref (a 8), .ref (a 9), .ref (a 10)])), (a 1, .inl (cI, 24, .inl nm)), (a 2, .inl (cI, 24, .inl hi)), (a 3, .inl (cI, 24, .inl ln)), (a 4, .inl (cZ, 24, .inl op)), (a 5, .inl (cI, 1536, .inl wd)), (a 6, .inl (cI, 24, .inl (zs_cp nm nm2 i1))), (a 7, .inl (cI, 24, .inl (zs_cp hi hi2 i1))), (a 8, .inl (cI, 24, .inl (zs_cp ln ln2 i1))), (a 9, .inl (cZ, 24, .inl (zs_cz op op2 i1))), (a 10, .inl (cI, 1536, .inl wd2))] H := hP
      have hD : va_D A [(a 0, .inr (2, [.int (zs_b true), .ref (a 1), .ref (a 2), .ref (a 3), .ref (a 4), .ref (a 5), .ref (a 6), .ref (a 7), .ref (a 8), .ref (a 9), .ref (a 10)])), (a 1, .inl (cI, 24, .inl nm)), (a 2, .inl (cI, 24, .inl hi)), (a 3, .inl (cI, 24, .inl ln)), (a 4, .inl (cZ, 24, .inl op)), (a 5, .inl (cI, 1536, .inl wd)), (a 6, .inl (cI, 24, .inl (zs_cp nm nm2 i1))), (a 7, .inl (cI, 24, .inl (zs_cp hi hi2 i1))), (a 8, .inl (cI, 24, .inl (zs_cp ln ln2 i1))), (a 9, .inl (cZ, 24, .inl (zs_cz op op2 i1))), (a 10, .inl (cI, 1536, .inl wd2))] := hD
      have hlt1 : i1 < 24 := by omega
      refine lv_iload_n hx hb zd_M_sync_11 rfl (lv_at hl 0 rfl) ?_
      refine lv_bipush (v := 24) hx hb zd_M_sync_12 (by decide) ?_
      refine zj_in (tgt := 71) (n := 24) hx hb zd_M_sync_14 rfl (by decide) hlt1 (by decide) ?_
      refine lv_aload_n hx hb zd_M_sync_17 rfl (lv_at hl 1 rfl) ?_
      refine va_get (D := (dC, dI)) (ci := 2) (v := .ref (a 6)) (C := "ZoneShelfModel") (T := zs_T_M) (N := 11) hx hb hz zs_in_M hown hk.1 hP 0 rfl rfl 6 (by decide) (hz _ zq_189) (fun _ h9 => h9) rfl zd_M_sync_18 ?_
      refine lv_iload_n hx hb zd_M_sync_21 rfl (lv_at hl 0 rfl) ?_
      refine lv_aload_n hx hb zd_M_sync_22 rfl (lv_at hl 1 rfl) ?_
      refine va_get (D := (dC, dI)) (ci := 2) (v := .ref (a 1)) (C := "ZoneShelfModel") (T := zs_T_M) (N := 11) hx hb hz zs_in_M hown hk.1 hP 0 rfl rfl 1 (by decide) (hz _ zq_184) (fun _ h9 => h9) rfl zd_M_sync_23 ?_
      refine lv_iload_n hx hb zd_M_sync_26 rfl (lv_at hl 0 rfl) ?_
      refine zi_ald hx hb hk hP 1 (j := i1) rfl (by omega) (by decide) zd_M_sync_27 ?_
      refine zi_ast hx hb hk hP hD hS 6 (j := i1) rfl (by omega) (by decide) zd_M_sync_28 (fun H locs hP hD hS => ?_)
      have hP : va_P (dC, dI) zs_cl [(a 0, .inr (2, [.int (zs_b true), .ref (a 1), .ref (a 2), .ref (a 3), .ref (a 4), .ref (a 5), .ref (a 6), .ref (a 7), .ref (a 8), .ref (a 9), .ref (a 10)])), (a 1, .inl (cI, 24, .inl nm)), (a 2, .inl (cI, 24, .inl hi)), (a 3, .inl (cI, 24, .inl ln)), (a 4, .inl (cZ, 24, .inl op)), (a 5, .inl (cI, 1536, .inl wd)), (a 6, .inl (cI, 24, .inl (upd (zs_cp nm nm2 i1) i1 (nm i1)))), (a 7, .inl (cI, 24, .inl (zs_cp hi hi2 i1))), (a 8, .inl (cI, 24, .inl (zs_cp ln ln2 i1))), (a 9, .inl (cZ, 24, .inl (zs_cz op op2 i1))), (a 10, .inl (cI, 1536, .inl wd2))] H := hP
      have hD : va_D A [(a 0, .inr (2, [.int (zs_b true), .ref (a 1), .ref (a 2), .ref (a 3), .ref (a 4), .ref (a 5), .ref (a 6), .ref (a 7), .ref (a 8), .ref (a 9), .ref (a 10)])), (a 1, .inl (cI, 24, .inl nm)), (a 2, .inl (cI, 24, .inl hi)), (a 3, .inl (cI, 24, .inl ln)), (a 4, .inl (cZ, 24, .inl op)), (a 5, .inl (cI, 1536, .inl wd)), (a 6, .inl (cI, 24, .inl (upd (zs_cp nm nm2 i1) i1 (nm i1)))), (a 7, .inl (cI, 24, .inl (zs_cp hi hi2 i1))), (a 8, .inl (cI, 24, .inl (zs_cp ln ln2 i1))), (a 9, .inl (cZ, 24, .inl (zs_cz op op2 i1))), (a 10, .inl (cI, 1536, .inl wd2))] := hD
      refine lv_aload_n hx hb zd_M_sync_29 rfl (lv_at hl 1 rfl) ?_
      refine va_get (D := (dC, dI)) (ci := 2) (v := .ref (a 7)) (C := "ZoneShelfModel") (T := zs_T_M) (N := 11) hx hb hz zs_in_M hown hk.1 hP 0 rfl rfl 7 (by decide) (hz _ zq_190) (fun _ h9 => h9) rfl zd_M_sync_30 ?_
      refine lv_iload_n hx hb zd_M_sync_33 rfl (lv_at hl 0 rfl) ?_
      refine lv_aload_n hx hb zd_M_sync_34 rfl (lv_at hl 1 rfl) ?_
      refine va_get (D := (dC, dI)) (ci := 2) (v := .ref (a 2)) (C := "ZoneShelfModel") (T := zs_T_M) (N := 11) hx hb hz zs_in_M hown hk.1 hP 0 rfl rfl 2 (by decide) (hz _ zq_185) (fun _ h9 => h9) rfl zd_M_sync_35 ?_
      refine lv_iload_n hx hb zd_M_sync_38 rfl (lv_at hl 0 rfl) ?_
      refine zi_ald hx hb hk hP 2 (j := i1) rfl (by omega) (by decide) zd_M_sync_39 ?_
      refine zi_ast hx hb hk hP hD hS 7 (j := i1) rfl (by omega) (by decide) zd_M_sync_40 (fun H locs hP hD hS => ?_)
      have hP : va_P (dC, dI) zs_cl [(a 0, .inr (2, [.int (zs_b true), .ref (a 1), .ref (a 2), .ref (a 3), .ref (a 4), .ref (a 5), .ref (a 6), .ref (a 7), .ref (a 8), .ref (a 9), .ref (a 10)])), (a 1, .inl (cI, 24, .inl nm)), (a 2, .inl (cI, 24, .inl hi)), (a 3, .inl (cI, 24, .inl ln)), (a 4, .inl (cZ, 24, .inl op)), (a 5, .inl (cI, 1536, .inl wd)), (a 6, .inl (cI, 24, .inl (upd (zs_cp nm nm2 i1) i1 (nm i1)))), (a 7, .inl (cI, 24, .inl (upd (zs_cp hi hi2 i1) i1 (hi i1)))), (a 8, .inl (cI, 24, .inl (zs_cp ln ln2 i1))), (a 9, .inl (cZ, 24, .inl (zs_cz op op2 i1))), (a 10, .inl (cI, 1536, .inl wd2))] H := hP
      have hD : va_D A [(a 0, .inr (2, [.int (zs_b true), .ref (a 1), .ref (a 2), .ref (a 3), .ref (a 4), .ref (a 5), .ref (a 6), .ref (a 7), .ref (a 8), .ref (a 9), .ref (a 10)])), (a 1, .inl (cI, 24, .inl nm)), (a 2, .inl (cI, 24, .inl hi)), (a 3, .inl (cI, 24, .inl ln)), (a 4, .inl (cZ, 24, .inl op)), (a 5, .inl (cI, 1536, .inl wd)), (a 6, .inl (cI, 24, .inl (upd (zs_cp nm nm2 i1) i1 (nm i1)))), (a 7, .inl (cI, 24, .inl (upd (zs_cp hi hi2 i1) i1 (hi i1)))), (a 8, .inl (cI, 24, .inl (zs_cp ln ln2 i1))), (a 9, .inl (cZ, 24, .inl (zs_cz op op2 i1))), (a 10, .inl (cI, 1536, .inl wd2))] := hD
      refine lv_aload_n hx hb zd_M_sync_41 rfl (lv_at hl 1 rfl) ?_
      refine va_get (D := (dC, dI)) (ci := 2) (v := .ref (a 8)) (C := "ZoneShelfModel") (T := zs_T_M) (N := 11) hx hb hz zs_in_M hown hk.1 hP 0 rfl rfl 8 (by decide) (hz _ zq_191) (fun _ h9 => h9) rfl zd_M_sync_42 ?_
      refine lv_iload_n hx hb zd_M_sync_45 rfl (lv_at hl 0 rfl) ?_
      refine lv_aload_n hx hb zd_M_sync_46 rfl (lv_at hl 1 rfl) ?_
      refine va_get (D := (dC, dI)) (ci := 2) (v := .ref (a 3)) (C := "ZoneShelfModel") (T := zs_T_M) (N := 11) hx hb hz zs_in_M hown hk.1 hP 0 rfl rfl 3 (by decide) (hz _ zq_186) (fun _ h9 => h9) rfl zd_M_sync_47 ?_
      refine lv_iload_n hx hb zd_M_sync_50 rfl (lv_at hl 0 rfl) ?_
      refine zi_ald hx hb hk hP 3 (j := i1) rfl (by omega) (by decide) zd_M_sync_51 ?_
      refine zi_ast hx hb hk hP hD hS 8 (j := i1) rfl (by omega) (by decide) zd_M_sync_52 (fun H locs hP hD hS => ?_)
      have hP : va_P (dC, dI) zs_cl [(a 0, .inr (2, [.int (zs_b true), .ref (a 1), .ref (a 2), .ref (a 3), .ref (a 4), .ref (a 5), .ref (a 6), .ref (a 7), .ref (a 8), .ref (a 9), .ref (a 10)])), (a 1, .inl (cI, 24, .inl nm)), (a 2, .inl (cI, 24, .inl hi)), (a 3, .inl (cI, 24, .inl ln)), (a 4, .inl (cZ, 24, .inl op)), (a 5, .inl (cI, 1536, .inl wd)), (a 6, .inl (cI, 24, .inl (upd (zs_cp nm nm2 i1) i1 (nm i1)))), (a 7, .inl (cI, 24, .inl (upd (zs_cp hi hi2 i1) i1 (hi i1)))), (a 8, .inl (cI, 24, .inl (upd (zs_cp ln ln2 i1) i1 (ln i1)))), (a 9, .inl (cZ, 24, .inl (zs_cz op op2 i1))), (a 10, .inl (cI, 1536, .inl wd2))] H := hP
      have hD : va_D A [(a 0, .inr (2, [.int (zs_b true), .ref (a 1), .ref (a 2), .ref (a 3), .ref (a 4), .ref (a 5), .ref (a 6), .ref (a 7), .ref (a 8), .ref (a 9), .ref (a 10)])), (a 1, .inl (cI, 24, .inl nm)), (a 2, .inl (cI, 24, .inl hi)), (a 3, .inl (cI, 24, .inl ln)), (a 4, .inl (cZ, 24, .inl op)), (a 5, .inl (cI, 1536, .inl wd)), (a 6, .inl (cI, 24, .inl (upd (zs_cp nm nm2 i1) i1 (nm i1)))), (a 7, .inl (cI, 24, .inl (upd (zs_cp hi hi2 i1) i1 (hi i1)))), (a 8, .inl (cI, 24, .inl (upd (zs_cp ln ln2 i1) i1 (ln i1)))), (a 9, .inl (cZ, 24, .inl (zs_cz op op2 i1))), (a 10, .inl (cI, 1536, .inl wd2))] := hD
      refine lv_aload_n hx hb zd_M_sync_53 rfl (lv_at hl 1 rfl) ?_
      refine va_get (D := (dC, dI)) (ci := 2) (v := .ref (a 9)) (C := "ZoneShelfModel") (T := zs_T_M) (N := 11) hx hb hz zs_in_M hown hk.1 hP 0 rfl rfl 9 (by decide) (hz _ zq_192) (fun _ h9 => h9) rfl zd_M_sync_54 ?_
      refine lv_iload_n hx hb zd_M_sync_57 rfl (lv_at hl 0 rfl) ?_
      refine lv_aload_n hx hb zd_M_sync_58 rfl (lv_at hl 1 rfl) ?_
      refine va_get (D := (dC, dI)) (ci := 2) (v := .ref (a 4)) (C := "ZoneShelfModel") (T := zs_T_M) (N := 11) hx hb hz zs_in_M hown hk.1 hP 0 rfl rfl 4 (by decide) (hz _ zq_187) (fun _ h9 => h9) rfl zd_M_sync_59 ?_
      refine lv_iload_n hx hb zd_M_sync_62 rfl (lv_at hl 0 rfl) ?_
      refine zi_zld hx hb hk hP 4 (j := i1) rfl (by omega) (by decide) zd_M_sync_63 ?_
      refine zi_zst hx hb hk hP hD hS 9 (j := i1) rfl (by omega) (by decide) zd_M_sync_64 (fun H locs hP hD hS => ?_)
      have hP : va_P (dC, dI) zs_cl [(a 0, .inr (2, [.int (zs_b true), .ref (a 1), .ref (a 2), .ref (a 3), .ref (a 4), .ref (a 5), .ref (a 6), .ref (a 7), .ref (a 8), .ref (a 9), .ref (a 10)])), (a 1, .inl (cI, 24, .inl nm)), (a 2, .inl (cI, 24, .inl hi)), (a 3, .inl (cI, 24, .inl ln)), (a 4, .inl (cZ, 24, .inl op)), (a 5, .inl (cI, 1536, .inl wd)), (a 6, .inl (cI, 24, .inl (upd (zs_cp nm nm2 i1) i1 (nm i1)))), (a 7, .inl (cI, 24, .inl (upd (zs_cp hi hi2 i1) i1 (hi i1)))), (a 8, .inl (cI, 24, .inl (upd (zs_cp ln ln2 i1) i1 (ln i1)))), (a 9, .inl (cZ, 24, .inl (upd (zs_cz op op2 i1) i1 (vp_nar .boolean (op i1))))), (a 10, .inl (cI, 1536, .inl wd2))] H := hP
      have hD : va_D A [(a 0, .inr (2, [.int (zs_b true), .ref (a 1), .ref (a 2), .ref (a 3), .ref (a 4), .ref (a 5), .ref (a 6), .ref (a 7), .ref (a 8), .ref (a 9), .ref (a 10)])), (a 1, .inl (cI, 24, .inl nm)), (a 2, .inl (cI, 24, .inl hi)), (a 3, .inl (cI, 24, .inl ln)), (a 4, .inl (cZ, 24, .inl op)), (a 5, .inl (cI, 1536, .inl wd)), (a 6, .inl (cI, 24, .inl (upd (zs_cp nm nm2 i1) i1 (nm i1)))), (a 7, .inl (cI, 24, .inl (upd (zs_cp hi hi2 i1) i1 (hi i1)))), (a 8, .inl (cI, 24, .inl (upd (zs_cp ln ln2 i1) i1 (ln i1)))), (a 9, .inl (cZ, 24, .inl (upd (zs_cz op op2 i1) i1 (vp_nar .boolean (op i1))))), (a 10, .inl (cI, 1536, .inl wd2))] := hD
      refine lv_iinc (k := 0) (v := nI (i1 + 1)) (lv' := [(1, .int (nI (i1 + 1))), (0, .ref (a 0))]) hx hb zd_M_sync_65 hl rfl (zs_inc _) (by decide) rfl (fun ls hl => ?_)
      refine lv_goto (tgt := 11) hx hb zd_M_sync_68 rfl ?_
      rw [zs_cp_s nm nm2 i1, zs_cp_s hi hi2 i1, zs_cp_s ln ln2 i1, zs_cz_s op op2 i1] at hP hD
      exact ih1 () ls H locs ⟨lv_sub hl [0, 1] rfl, hP, hD, hS⟩
    · obtain ⟨hl, hP, hD, hS⟩ := hv
      have hl : lv_has ls 2 [(1, .int (nI 24)), (0, .ref (a 0))] := hl
      have hP : va_P (dC, dI) zs_cl [(a 0, .inr (2, [.int (zs_b true), .ref (a 1), .ref (a 2), .ref (a 3), .ref (a 4), .ref (a 5), .ref (a 6), .ref (a 7), .ref (a 8), .ref (a 9), .ref (a 10)])), (a 1, .inl (cI, 24, .inl nm)), (a 2, .inl (cI, 24, .inl hi)), (a 3, .inl (cI, 24, .inl ln)), (a 4, .inl (cZ, 24, .inl op)), (a 5, .inl (cI, 1536, .inl wd)), (a 6, .inl (cI, 24, .inl (zs_cp nm nm2 24))), (a 7, .inl (cI, 24, .inl (zs_cp hi hi2 24))), (a 8, .inl (cI, 24, .inl (zs_cp ln ln2 24))), (a 9, .inl (cZ, 24, .inl (zs_cz op op2 24))), (a 10, .inl (cI, 1536, .inl wd2))] H := hP
      have hD : va_D A [(a 0, .inr (2, [.int (zs_b true), .ref (a 1), .ref (a 2), .ref (a 3), .ref (a 4), .ref (a 5), .ref (a 6), .ref (a 7), .ref (a 8), .ref (a 9), .ref (a 10)])), (a 1, .inl (cI, 24, .inl nm)), (a 2, .inl (cI, 24, .inl hi)), (a 3, .inl (cI, 24, .inl ln)), (a 4, .inl (cZ, 24, .inl op)), (a 5, .inl (cI, 1536, .inl wd)), (a 6, .inl (cI, 24, .inl (zs_cp nm nm2 24))), (a 7, .inl (cI, 24, .inl (zs_cp hi hi2 24))), (a 8, .inl (cI, 24, .inl (zs_cp ln ln2 24))), (a 9, .inl (cZ, 24, .inl (zs_cz op op2 24))), (a 10, .inl (cI, 1536, .inl wd2))] := hD
      refine lv_iload_n hx hb zd_M_sync_11 rfl (lv_at hl 0 rfl) ?_
      refine lv_bipush (v := 24) hx hb zd_M_sync_12 (by decide) ?_
      refine zj_out (tgt := 71) (n := 24) (i := 24) hx hb zd_M_sync_14 rfl (by decide) (Nat.le_refl _) (by decide) ?_
      refine lv_iconst (v := 0) hx hb zd_M_sync_71 (by decide) ?_
      refine lv_istore_n (lv' := [(1, .int 0), (0, .ref (a 0))]) hx hb zd_M_sync_72 rfl hl (by decide) rfl (fun ls hl => ?_)
      refine zl_w (N := 1536) (α := Unit) (fun kk ii xx ls H locs => lv_has ls 2 [(1, .int (nI ii)), (0, .ref (a 0))] ∧ va_P (dC, dI) zs_cl [(a 0, .inr (2, [.int (zs_b true), .ref (a 1), .ref (a 2), .ref (a 3), .ref (a 4), .ref (a 5), .ref (a 6), .ref (a 7), .ref (a 8), .ref (a 9), .ref (a 10)])), (a 1, .inl (cI, 24, .inl nm)), (a 2, .inl (cI, 24, .inl hi)), (a 3, .inl (cI, 24, .inl ln)), (a 4, .inl (cZ, 24, .inl op)), (a 5, .inl (cI, 1536, .inl wd)), (a 6, .inl (cI, 24, .inl (zs_cp nm nm2 24))), (a 7, .inl (cI, 24, .inl (zs_cp hi hi2 24))), (a 8, .inl (cI, 24, .inl (zs_cp ln ln2 24))), (a 9, .inl (cZ, 24, .inl (zs_cz op op2 24))), (a 10, .inl (cI, 1536, .inl (zs_cp wd wd2 ii)))] H ∧ va_D A [(a 0, .inr (2, [.int (zs_b true), .ref (a 1), .ref (a 2), .ref (a 3), .ref (a 4), .ref (a 5), .ref (a 6), .ref (a 7), .ref (a 8), .ref (a 9), .ref (a 10)])), (a 1, .inl (cI, 24, .inl nm)), (a 2, .inl (cI, 24, .inl hi)), (a 3, .inl (cI, 24, .inl ln)), (a 4, .inl (cZ, 24, .inl op)), (a 5, .inl (cI, 1536, .inl wd)), (a 6, .inl (cI, 24, .inl (zs_cp nm nm2 24))), (a 7, .inl (cI, 24, .inl (zs_cp hi hi2 24))), (a 8, .inl (cI, 24, .inl (zs_cp ln ln2 24))), (a 9, .inl (cZ, 24, .inl (zs_cz op op2 24))), (a 10, .inl (cI, 1536, .inl (zs_cp wd wd2 ii)))] ∧ va_S A s.heap H locs) (fun k2 i2 x2 ls H locs e2 hv ih2 => ?_) (fun x2 ls H locs hv => ?_) 1536 0 () ls H _ rfl ⟨lv_sub hl [0, 1] rfl, by rw [zs_cp_0]; exact hP, by rw [zs_cp_0]; exact hD, hS⟩
      · obtain ⟨hl, hP, hD, hS⟩ := hv
        have hl : lv_has ls 2 [(1, .int (nI i2)), (0, .ref (a 0))] := hl
        have hP : va_P (dC, dI) zs_cl [(a 0, .inr (2, [.int (zs_b true), .ref (a 1), .ref (a 2), .ref (a 3), .ref (a 4), .ref (a 5), .ref (a 6), .ref (a 7), .ref (a 8), .ref (a 9), .ref (a 10)])), (a 1, .inl (cI, 24, .inl nm)), (a 2, .inl (cI, 24, .inl hi)), (a 3, .inl (cI, 24, .inl ln)), (a 4, .inl (cZ, 24, .inl op)), (a 5, .inl (cI, 1536, .inl wd)), (a 6, .inl (cI, 24, .inl (zs_cp nm nm2 24))), (a 7, .inl (cI, 24, .inl (zs_cp hi hi2 24))), (a 8, .inl (cI, 24, .inl (zs_cp ln ln2 24))), (a 9, .inl (cZ, 24, .inl (zs_cz op op2 24))), (a 10, .inl (cI, 1536, .inl (zs_cp wd wd2 i2)))] H := hP
        have hD : va_D A [(a 0, .inr (2, [.int (zs_b true), .ref (a 1), .ref (a 2), .ref (a 3), .ref (a 4), .ref (a 5), .ref (a 6), .ref (a 7), .ref (a 8), .ref (a 9), .ref (a 10)])), (a 1, .inl (cI, 24, .inl nm)), (a 2, .inl (cI, 24, .inl hi)), (a 3, .inl (cI, 24, .inl ln)), (a 4, .inl (cZ, 24, .inl op)), (a 5, .inl (cI, 1536, .inl wd)), (a 6, .inl (cI, 24, .inl (zs_cp nm nm2 24))), (a 7, .inl (cI, 24, .inl (zs_cp hi hi2 24))), (a 8, .inl (cI, 24, .inl (zs_cp ln ln2 24))), (a 9, .inl (cZ, 24, .inl (zs_cz op op2 24))), (a 10, .inl (cI, 1536, .inl (zs_cp wd wd2 i2)))] := hD
        have hlt2 : i2 < 1536 := by omega
        refine lv_iload_n hx hb zd_M_sync_73 rfl (lv_at hl 0 rfl) ?_
        refine lv_sipush (v := 1536) hx hb zd_M_sync_74 (by decide) ?_
        refine zj_in (tgt := 98) (n := 1536) hx hb zd_M_sync_77 rfl (by decide) hlt2 (by decide) ?_
        refine lv_aload_n hx hb zd_M_sync_80 rfl (lv_at hl 1 rfl) ?_
        refine va_get (D := (dC, dI)) (ci := 2) (v := .ref (a 10)) (C := "ZoneShelfModel") (T := zs_T_M) (N := 11) hx hb hz zs_in_M hown hk.1 hP 0 rfl rfl 10 (by decide) (hz _ zq_193) (fun _ h9 => h9) rfl zd_M_sync_81 ?_
        refine lv_iload_n hx hb zd_M_sync_84 rfl (lv_at hl 0 rfl) ?_
        refine lv_aload_n hx hb zd_M_sync_85 rfl (lv_at hl 1 rfl) ?_
        refine va_get (D := (dC, dI)) (ci := 2) (v := .ref (a 5)) (C := "ZoneShelfModel") (T := zs_T_M) (N := 11) hx hb hz zs_in_M hown hk.1 hP 0 rfl rfl 5 (by decide) (hz _ zq_188) (fun _ h9 => h9) rfl zd_M_sync_86 ?_
        refine lv_iload_n hx hb zd_M_sync_89 rfl (lv_at hl 0 rfl) ?_
        refine zi_ald hx hb hk hP 5 (j := i2) rfl (by omega) (by decide) zd_M_sync_90 ?_
        refine zi_ast hx hb hk hP hD hS 10 (j := i2) rfl (by omega) (by decide) zd_M_sync_91 (fun H locs hP hD hS => ?_)
        have hP : va_P (dC, dI) zs_cl [(a 0, .inr (2, [.int (zs_b true), .ref (a 1), .ref (a 2), .ref (a 3), .ref (a 4), .ref (a 5), .ref (a 6), .ref (a 7), .ref (a 8), .ref (a 9), .ref (a 10)])), (a 1, .inl (cI, 24, .inl nm)), (a 2, .inl (cI, 24, .inl hi)), (a 3, .inl (cI, 24, .inl ln)), (a 4, .inl (cZ, 24, .inl op)), (a 5, .inl (cI, 1536, .inl wd)), (a 6, .inl (cI, 24, .inl (zs_cp nm nm2 24))), (a 7, .inl (cI, 24, .inl (zs_cp hi hi2 24))), (a 8, .inl (cI, 24, .inl (zs_cp ln ln2 24))), (a 9, .inl (cZ, 24, .inl (zs_cz op op2 24))), (a 10, .inl (cI, 1536, .inl (upd (zs_cp wd wd2 i2) i2 (wd i2))))] H := hP
        have hD : va_D A [(a 0, .inr (2, [.int (zs_b true), .ref (a 1), .ref (a 2), .ref (a 3), .ref (a 4), .ref (a 5), .ref (a 6), .ref (a 7), .ref (a 8), .ref (a 9), .ref (a 10)])), (a 1, .inl (cI, 24, .inl nm)), (a 2, .inl (cI, 24, .inl hi)), (a 3, .inl (cI, 24, .inl ln)), (a 4, .inl (cZ, 24, .inl op)), (a 5, .inl (cI, 1536, .inl wd)), (a 6, .inl (cI, 24, .inl (zs_cp nm nm2 24))), (a 7, .inl (cI, 24, .inl (zs_cp hi hi2 24))), (a 8, .inl (cI, 24, .inl (zs_cp ln ln2 24))), (a 9, .inl (cZ, 24, .inl (zs_cz op op2 24))), (a 10, .inl (cI, 1536, .inl (upd (zs_cp wd wd2 i2) i2 (wd i2))))] := hD
        refine lv_iinc (k := 0) (v := nI (i2 + 1)) (lv' := [(1, .int (nI (i2 + 1))), (0, .ref (a 0))]) hx hb zd_M_sync_92 hl rfl (zs_inc _) (by decide) rfl (fun ls hl => ?_)
        refine lv_goto (tgt := 73) hx hb zd_M_sync_95 rfl ?_
        rw [zs_cp_s wd wd2 i2] at hP hD
        exact ih2 () ls H locs ⟨lv_sub hl [0, 1] rfl, hP, hD, hS⟩
      · obtain ⟨hl, hP, hD, hS⟩ := hv
        have hl : lv_has ls 2 [(1, .int (nI 1536)), (0, .ref (a 0))] := hl
        have hP : va_P (dC, dI) zs_cl [(a 0, .inr (2, [.int (zs_b true), .ref (a 1), .ref (a 2), .ref (a 3), .ref (a 4), .ref (a 5), .ref (a 6), .ref (a 7), .ref (a 8), .ref (a 9), .ref (a 10)])), (a 1, .inl (cI, 24, .inl nm)), (a 2, .inl (cI, 24, .inl hi)), (a 3, .inl (cI, 24, .inl ln)), (a 4, .inl (cZ, 24, .inl op)), (a 5, .inl (cI, 1536, .inl wd)), (a 6, .inl (cI, 24, .inl (zs_cp nm nm2 24))), (a 7, .inl (cI, 24, .inl (zs_cp hi hi2 24))), (a 8, .inl (cI, 24, .inl (zs_cp ln ln2 24))), (a 9, .inl (cZ, 24, .inl (zs_cz op op2 24))), (a 10, .inl (cI, 1536, .inl (zs_cp wd wd2 1536)))] H := hP
        have hD : va_D A [(a 0, .inr (2, [.int (zs_b true), .ref (a 1), .ref (a 2), .ref (a 3), .ref (a 4), .ref (a 5), .ref (a 6), .ref (a 7), .ref (a 8), .ref (a 9), .ref (a 10)])), (a 1, .inl (cI, 24, .inl nm)), (a 2, .inl (cI, 24, .inl hi)), (a 3, .inl (cI, 24, .inl ln)), (a 4, .inl (cZ, 24, .inl op)), (a 5, .inl (cI, 1536, .inl wd)), (a 6, .inl (cI, 24, .inl (zs_cp nm nm2 24))), (a 7, .inl (cI, 24, .inl (zs_cp hi hi2 24))), (a 8, .inl (cI, 24, .inl (zs_cp ln ln2 24))), (a 9, .inl (cZ, 24, .inl (zs_cz op op2 24))), (a 10, .inl (cI, 1536, .inl (zs_cp wd wd2 1536)))] := hD
        refine lv_iload_n hx hb zd_M_sync_73 rfl (lv_at hl 0 rfl) ?_
        refine lv_sipush (v := 1536) hx hb zd_M_sync_74 (by decide) ?_
        refine zj_out (tgt := 98) (n := 1536) (i := 1536) hx hb zd_M_sync_77 rfl (by decide) (Nat.le_refl _) (by decide) ?_
        refine lv_iconst (v := 1) hx hb zd_M_sync_98 (by decide) ?_
        exact zw_zret (true, (nm, hi, ln, op, wd), (zs_cp nm nm2 24, zs_cp hi hi2 24, zs_cp ln ln2 24, zs_cz op op2 24, zs_cp wd wd2 1536)) hx hb hr hlocks zd_M_sync_99 rfl (show (1, (true, (nm, hi, ln, op, wd), (zs_cp nm nm2 24, zs_cp hi hi2 24, zs_cp ln ln2 24, zs_cz op op2 24, zs_cp wd wd2 1536))) = zm_sync (true, (nm, hi, ln, op, wd), (nm2, hi2, ln2, op2, wd2)) from by simp [zm_sync, zm_copy]) hP hD hS
  · subst h1
    refine lv_iconst (v := 0) hx hb zd_M_sync_7 (by decide) ?_
    exact zw_zret (false, (nm, hi, ln, op, wd), (nm2, hi2, ln2, op2, wd2)) hx hb hr hlocks zd_M_sync_8 rfl (show (0, (false, (nm, hi, ln, op, wd), (nm2, hi2, ln2, op2, wd2))) = zm_sync (false, (nm, hi, ln, op, wd), (nm2, hi2, ln2, op2, wd2)) from by simp [zm_sync]) hP hD hS
set_option maxHeartbeats 4000000 in
set_option maxRecDepth 100000 in
theorem zc_M_mount (l : Launch) (dC : Nat → ClassId) (dI : Nat → Nat → Nat) (cI cZ : ClassId) (a : Nat → Nat) (u : zs_X) (sz : Nat)  : Met l zy_M_mount (.code zy_M_mount zb_M_mount 2 (some .boolean) :: zs_w) ({ frames := 0, cells := 0, slots := 0, locals := 0 }) (va_Pc [.ref (a 0)] (zs_s dC dI cI cZ sz (zs_wM cI cZ a u))) (va_Qi (fun r (v : zs_X) => (r, v) = zm_mount u) (zs_e dC dI (zs_wM cI cZ a) (va_A (zs_wM cI cZ a u) sz)) (va_A (zs_wM cI cZ a u) sz)) 0 0 (va_A (zs_wM cI cZ a u) sz) := by
  obtain ⟨up, ⟨nm, hi, ln, op, wd⟩, ⟨nm2, hi2, ln2, op2, wd2⟩⟩ := u
  refine Met.ofW (cc := zb_M_mount) (maxL := 2) (ret := (some .boolean)) (by decide) rfl ?_
  intro p e s m args below meth c s₁ B hml hv
  obtain ⟨rfl, hsz, hP, hk, hD0⟩ := hv
  have hx := B.exec
  have hb := B.bytes
  have hr := B.returns
  have hts := atoms_spec (ws := .code zy_M_mount zb_M_mount 2 (some .boolean) :: zs_w) B.pre
  have hz : ∀ w ∈ zs_w, w.before _ s = true := fun w h => hts w (List.mem_cons_of_mem _ h)
  have hown : s.vm.findClass "ZoneShelfModel" = some m.cls := findClass_of_methodNamed B.named
  have hlocks := B.notSynchronized
  subst hsz
  have hD := hD0.self (sz := s.heap.size)
  generalize hAe : va_A (zs_wM cI cZ a (up, (nm, hi, ln, op, wd), (nm2, hi2, ln2, op2, wd2))) s.heap.size = A at hD ⊢
  have hA : ∀ q : Nat, s.heap.size ≤ q → A q := fun q h => by rw [← hAe]; exact Or.inr h
  have hS : va_S A s.heap s.heap [] := va_S.rf
  have hP : va_P (dC, dI) zs_cl [(a 0, .inr (2, [.int (zs_b up), .ref (a 1), .ref (a 2), .ref (a 3), .ref (a 4), .ref (a 5), .ref (a 6), .ref (a 7), .ref (a 8), .ref (a 9), .ref (a 10)])), (a 1, .inl (cI, 24, .inl nm)), (a 2, .inl (cI, 24, .inl hi)), (a 3, .inl (cI, 24, .inl ln)), (a 4, .inl (cZ, 24, .inl op)), (a 5, .inl (cI, 1536, .inl wd)), (a 6, .inl (cI, 24, .inl nm2)), (a 7, .inl (cI, 24, .inl hi2)), (a 8, .inl (cI, 24, .inl ln2)), (a 9, .inl (cZ, 24, .inl op2)), (a 10, .inl (cI, 1536, .inl wd2))] s.heap := hP
  have hD : va_D A [(a 0, .inr (2, [.int (zs_b up), .ref (a 1), .ref (a 2), .ref (a 3), .ref (a 4), .ref (a 5), .ref (a 6), .ref (a 7), .ref (a 8), .ref (a 9), .ref (a 10)])), (a 1, .inl (cI, 24, .inl nm)), (a 2, .inl (cI, 24, .inl hi)), (a 3, .inl (cI, 24, .inl ln)), (a 4, .inl (cZ, 24, .inl op)), (a 5, .inl (cI, 1536, .inl wd)), (a 6, .inl (cI, 24, .inl nm2)), (a 7, .inl (cI, 24, .inl hi2)), (a 8, .inl (cI, 24, .inl ln2)), (a 9, .inl (cZ, 24, .inl op2)), (a 10, .inl (cI, 1536, .inl wd2))] := hD
  have hl := lv_entry ([.ref (a 0)]) (n := 2) (Nat.le_of_ble_eq_true rfl)
  rw [lg_entry_eq]
  generalize (lg_sl ([.ref (a 0)]) ++ List.replicate (2 - (lg_sl ([.ref (a 0)])).length) Slot.unset).toArray = ls at hl ⊢
  have hl : lv_has ls 2 [(0, .ref (a 0))] := hl
  refine lv_aload_n hx hb zd_M_mount_0 rfl (lv_at hl 0 rfl) ?_
  refine va_get (D := (dC, dI)) (ci := 2) (v := .int (zs_b up)) (C := "ZoneShelfModel") (T := zs_T_M) (N := 11) hx hb hz zs_in_M hown hk.1 hP 0 rfl rfl 0 (by decide) (hz _ zq_183) (fun _ h9 => h9) rfl zd_M_mount_1 ?_
  refine zi_eq (tgt := 9) hx hb zd_M_mount_4 rfl (fun h1 => ?_) (fun h1 => ?_)
  · subst h1
    refine lv_iconst (v := 0) hx hb zd_M_mount_9 (by decide) ?_
    refine lv_istore_n (lv' := [(1, .int 0), (0, .ref (a 0))]) hx hb zd_M_mount_10 rfl hl (by decide) rfl (fun ls hl => ?_)
    refine zl_w (N := 24) (α := Unit) (fun kk ii xx ls H locs => lv_has ls 2 [(1, .int (nI ii)), (0, .ref (a 0))] ∧ va_P (dC, dI) zs_cl [(a 0, .inr (2, [.int (zs_b false), .ref (a 1), .ref (a 2), .ref (a 3), .ref (a 4), .ref (a 5), .ref (a 6), .ref (a 7), .ref (a 8), .ref (a 9), .ref (a 10)])), (a 1, .inl (cI, 24, .inl (zs_cp nm2 nm ii))), (a 2, .inl (cI, 24, .inl (zs_cp hi2 hi ii))), (a 3, .inl (cI, 24, .inl (zs_cp ln2 ln ii))), (a 4, .inl (cZ, 24, .inl (zs_cz op2 op ii))), (a 5, .inl (cI, 1536, .inl wd)), (a 6, .inl (cI, 24, .inl nm2)), (a 7, .inl (cI, 24, .inl hi2)), (a 8, .inl (cI, 24, .inl ln2)), (a 9, .inl (cZ, 24, .inl op2)), (a 10, .inl (cI, 1536, .inl wd2))] H ∧ va_D A [(a 0, .inr (2, [.int (zs_b false), .ref (a 1), .ref (a 2), .ref (a 3), .ref (a 4), .ref (a 5), .ref (a 6), .ref (a 7), .ref (a 8), .ref (a 9), .ref (a 10)])), (a 1, .inl (cI, 24, .inl (zs_cp nm2 nm ii))), (a 2, .inl (cI, 24, .inl (zs_cp hi2 hi ii))), (a 3, .inl (cI, 24, .inl (zs_cp ln2 ln ii))), (a 4, .inl (cZ, 24, .inl (zs_cz op2 op ii))), (a 5, .inl (cI, 1536, .inl wd)), (a 6, .inl (cI, 24, .inl nm2)), (a 7, .inl (cI, 24, .inl hi2)), (a 8, .inl (cI, 24, .inl ln2)), (a 9, .inl (cZ, 24, .inl op2)), (a 10, .inl (cI, 1536, .inl wd2))] ∧ va_S A s.heap H locs) (fun k1 i1 x1 ls H locs e1 hv ih1 => ?_) (fun x1 ls H locs hv => ?_) 24 0 () ls s.heap _ rfl ⟨lv_sub hl [0, 1] rfl, by rw [zs_cp_0, zs_cp_0, zs_cp_0, zs_cz_0]; exact hP, by rw [zs_cp_0, zs_cp_0, zs_cp_0, zs_cz_0]; exact hD, hS⟩
    · obtain ⟨hl, hP, hD, hS⟩ := hv
      have hl : lv_has ls 2 [(1, .int (nI i1)), (0, .ref (a 0))] := hl
      have hP : va_P (dC, dI) zs_cl [(a 0, .inr (2, [.int (zs_b false), .ref (a 1), .ref (a 2), .ref (a 3), .ref (a 4), .ref (a 5), .ref (a 6), .ref (a 7), .ref (a 8), .ref (a 9), .ref (a 10)])), (a 1, .inl (cI, 24, .inl (zs_cp nm2 nm i1))), (a 2, .inl (cI, 24, .inl (zs_cp hi2 hi i1))), (a 3, .inl (cI, 24, .inl (zs_cp ln2 ln i1))), (a 4, .inl (cZ, 24, .inl (zs_cz op2 op i1))), (a 5, .inl (cI, 1536, .inl wd)), (a 6, .inl (cI, 24, .inl nm2)), (a 7, .inl (cI, 24, .inl hi2)), (a 8, .inl (cI, 24, .inl ln2)), (a 9, .inl (cZ, 24, .inl op2)), (a 10, .inl (cI, 1536, .inl wd2))] H := hP
      have hD : va_D A [(a 0, .inr (2, [.int (zs_b false), .ref (a 1), .ref (a 2), .ref (a 3), .ref (a 4), .ref (a 5), .ref (a 6), .ref (a 7), .ref (a 8), .ref (a 9), .ref (a 10)])), (a 1, .inl (cI, 24, .inl (zs_cp nm2 nm i1))), (a 2, .inl (cI, 24, .inl (zs_cp hi2 hi i1))), (a 3, .inl (cI, 24, .inl (zs_cp ln2 ln i1))), (a 4, .inl (cZ, 24, .inl (zs_cz op2 op i1))), (a 5, .inl (cI, 1536, .inl wd)), (a 6, .inl (cI, 24, .inl nm2)), (a 7, .inl (cI, 24, .inl hi2)), (a 8, .inl (cI, 24, .inl ln2)), (a 9, .inl (cZ, 24, .inl op2)), (a 10, .inl (cI, 1536, .inl wd2))] := hD
      have hlt1 : i1 < 24 := by omega
      refine lv_iload_n hx hb zd_M_mount_11 rfl (lv_at hl 0 rfl) ?_
      refine lv_bipush (v := 24) hx hb zd_M_mount_12 (by decide) ?_
      refine zj_in (tgt := 71) (n := 24) hx hb zd_M_mount_14 rfl (by decide) hlt1 (by decide) ?_
      refine lv_aload_n hx hb zd_M_mount_17 rfl (lv_at hl 1 rfl) ?_
      refine va_get (D := (dC, dI)) (ci := 2) (v := .ref (a 1)) (C := "ZoneShelfModel") (T := zs_T_M) (N := 11) hx hb hz zs_in_M hown hk.1 hP 0 rfl rfl 1 (by decide) (hz _ zq_184) (fun _ h9 => h9) rfl zd_M_mount_18 ?_
      refine lv_iload_n hx hb zd_M_mount_21 rfl (lv_at hl 0 rfl) ?_
      refine lv_aload_n hx hb zd_M_mount_22 rfl (lv_at hl 1 rfl) ?_
      refine va_get (D := (dC, dI)) (ci := 2) (v := .ref (a 6)) (C := "ZoneShelfModel") (T := zs_T_M) (N := 11) hx hb hz zs_in_M hown hk.1 hP 0 rfl rfl 6 (by decide) (hz _ zq_189) (fun _ h9 => h9) rfl zd_M_mount_23 ?_
      refine lv_iload_n hx hb zd_M_mount_26 rfl (lv_at hl 0 rfl) ?_
      refine zi_ald hx hb hk hP 6 (j := i1) rfl (by omega) (by decide) zd_M_mount_27 ?_
      refine zi_ast hx hb hk hP hD hS 1 (j := i1) rfl (by omega) (by decide) zd_M_mount_28 (fun H locs hP hD hS => ?_)
      have hP : va_P (dC, dI) zs_cl [(a 0, .inr (2, [.int (zs_b false), .ref (a 1), .ref (a 2), .ref (a 3), .ref (a 4), .ref (a 5), .ref (a 6), .ref (a 7), .ref (a 8), .ref (a 9), .ref (a 10)])), (a 1, .inl (cI, 24, .inl (upd (zs_cp nm2 nm i1) i1 (nm2 i1)))), (a 2, .inl (cI, 24, .inl (zs_cp hi2 hi i1))), (a 3, .inl (cI, 24, .inl (zs_cp ln2 ln i1))), (a 4, .inl (cZ, 24, .inl (zs_cz op2 op i1))), (a 5, .inl (cI, 1536, .inl wd)), (a 6, .inl (cI, 24, .inl nm2)), (a 7, .inl (cI, 24, .inl hi2)), (a 8, .inl (cI, 24, .inl ln2)), (a 9, .inl (cZ, 24, .inl op2)), (a 10, .inl (cI, 1536, .inl wd2))] H := hP
      have hD : va_D A [(a 0, .inr (2, [.int (zs_b false), .ref (a 1), .ref (a 2), .ref (a 3), .ref (a 4), .ref (a 5), .ref (a 6), .ref (a 7), .ref (a 8), .ref (a 9), .ref (a 10)])), (a 1, .inl (cI, 24, .inl (upd (zs_cp nm2 nm i1) i1 (nm2 i1)))), (a 2, .inl (cI, 24, .inl (zs_cp hi2 hi i1))), (a 3, .inl (cI, 24, .inl (zs_cp ln2 ln i1))), (a 4, .inl (cZ, 24, .inl (zs_cz op2 op i1))), (a 5, .inl (cI, 1536, .inl wd)), (a 6, .inl (cI, 24, .inl nm2)), (a 7, .inl (cI, 24, .inl hi2)), (a 8, .inl (cI, 24, .inl ln2)), (a 9, .inl (cZ, 24, .inl op2)), (a 10, .inl (cI, 1536, .inl wd2))] := hD
      refine lv_aload_n hx hb zd_M_mount_29 rfl (lv_at hl 1 rfl) ?_
      refine va_get (D := (dC, dI)) (ci := 2) (v := .ref (a 2)) (C := "ZoneShelfModel") (T := zs_T_M) (N := 11) hx hb hz zs_in_M hown hk.1 hP 0 rfl rfl 2 (by decide) (hz _ zq_185) (fun _ h9 => h9) rfl zd_M_mount_30 ?_
      refine lv_iload_n hx hb zd_M_mount_33 rfl (lv_at hl 0 rfl) ?_
      refine lv_aload_n hx hb zd_M_mount_34 rfl (lv_at hl 1 rfl) ?_
      refine va_get (D := (dC, dI)) (ci := 2) (v := .ref (a 7)) (C := "ZoneShelfModel") (T := zs_T_M) (N := 11) hx hb hz zs_in_M hown hk.1 hP 0 rfl rfl 7 (by decide) (hz _ zq_190) (fun _ h9 => h9) rfl zd_M_mount_35 ?_
      refine lv_iload_n hx hb zd_M_mount_38 rfl (lv_at hl 0 rfl) ?_
      refine zi_ald hx hb hk hP 7 (j := i1) rfl (by omega) (by decide) zd_M_mount_39 ?_
      refine zi_ast hx hb hk hP hD hS 2 (j := i1) rfl (by omega) (by decide) zd_M_mount_40 (fun H locs hP hD hS => ?_)
      have hP : va_P (dC, dI) zs_cl [(a 0, .inr (2, [.int (zs_b false), .ref (a 1), .ref (a 2), .ref (a 3), .ref (a 4), .ref (a 5), .ref (a 6), .ref (a 7), .ref (a 8), .ref (a 9), .ref (a 10)])), (a 1, .inl (cI, 24, .inl (upd (zs_cp nm2 nm i1) i1 (nm2 i1)))), (a 2, .inl (cI, 24, .inl (upd (zs_cp hi2 hi i1) i1 (hi2 i1)))), (a 3, .inl (cI, 24, .inl (zs_cp ln2 ln i1))), (a 4, .inl (cZ, 24, .inl (zs_cz op2 op i1))), (a 5, .inl (cI, 1536, .inl wd)), (a 6, .inl (cI, 24, .inl nm2)), (a 7, .inl (cI, 24, .inl hi2)), (a 8, .inl (cI, 24, .inl ln2)), (a 9, .inl (cZ, 24, .inl op2)), (a 10, .inl (cI, 1536, .inl wd2))] H := hP
      have hD : va_D A [(a 0, .inr (2, [.int (zs_b false), .ref (a 1), .ref (a 2), .ref (a 3), .ref (a 4), .ref (a 5), .ref (a 6), .ref (a 7), .ref (a 8), .ref (a 9), .ref (a 10)])), (a 1, .inl (cI, 24, .inl (upd (zs_cp nm2 nm i1) i1 (nm2 i1)))), (a 2, .inl (cI, 24, .inl (upd (zs_cp hi2 hi i1) i1 (hi2 i1)))), (a 3, .inl (cI, 24, .inl (zs_cp ln2 ln i1))), (a 4, .inl (cZ, 24, .inl (zs_cz op2 op i1))), (a 5, .inl (cI, 1536, .inl wd)), (a 6, .inl (cI, 24, .inl nm2)), (a 7, .inl (cI, 24, .inl hi2)), (a 8, .inl (cI, 24, .inl ln2)), (a 9, .inl (cZ, 24, .inl op2)), (a 10, .inl (cI, 1536, .inl wd2))] := hD
      refine lv_aload_n hx hb zd_M_mount_41 rfl (lv_at hl 1 rfl) ?_
      refine va_get (D := (dC, dI)) (ci := 2) (v := .ref (a 3)) (C := "ZoneShelfModel") (T := zs_T_M) (N := 11) hx hb hz zs_in_M hown hk.1 hP 0 rfl rfl 3 (by decide) (hz _ zq_186) (fun _ h9 => h9) rfl zd_M_mount_42 ?_
      refine lv_iload_n hx hb zd_M_mount_45 rfl (lv_at hl 0 rfl) ?_
      refine lv_aload_n hx hb zd_M_mount_46 rfl (lv_at hl 1 rfl) ?_
      refine va_get (D := (dC, dI)) (ci := 2) (v := .ref (a 8)) (C := "ZoneShelfModel") (T := zs_T_M) (N := 11) hx hb hz zs_in_M hown hk.1 hP 0 rfl rfl 8 (by decide) (hz _ zq_191) (fun _ h9 => h9) rfl zd_M_mount_47 ?_
      refine lv_iload_n hx hb zd_M_mount_50 rfl (lv_at hl 0 rfl) ?_
      refine zi_ald hx hb hk hP 8 (j := i1) rfl (by omega) (by decide) zd_M_mount_51 ?_
      refine zi_ast hx hb hk hP hD hS 3 (j := i1) rfl (by omega) (by decide) zd_M_mount_52 (fun H locs hP hD hS => ?_)
      have hP : va_P (dC, dI) zs_cl [(a 0, .inr (2, [.int (zs_b false), .ref (a 1), .ref (a 2), .ref (a 3), .ref (a 4), .ref (a 5), .ref (a 6), .ref (a 7), .ref (a 8), .ref (a 9), .ref (a 10)])), (a 1, .inl (cI, 24, .inl (upd (zs_cp nm2 nm i1) i1 (nm2 i1)))), (a 2, .inl (cI, 24, .inl (upd (zs_cp hi2 hi i1) i1 (hi2 i1)))), (a 3, .inl (cI, 24, .inl (upd (zs_cp ln2 ln i1) i1 (ln2 i1)))), (a 4, .inl (cZ, 24, .inl (zs_cz op2 op i1))), (a 5, .inl (cI, 1536, .inl wd)), (a 6, .inl (cI, 24, .inl nm2)), (a 7, .inl (cI, 24, .inl hi2)), (a 8, .inl (cI, 24, .inl ln2)), (a 9, .inl (cZ, 24, .inl op2)), (a 10, .inl (cI, 1536, .inl wd2))] H := hP
      have hD : va_D A [(a 0, .inr (2, [.int (zs_b false), .ref (a 1), .ref (a 2), .ref (a 3), .ref (a 4), .ref (a 5), .ref (a 6), .ref (a 7), .ref (a 8), .ref (a 9), .ref (a 10)])), (a 1, .inl (cI, 24, .inl (upd (zs_cp nm2 nm i1) i1 (nm2 i1)))), (a 2, .inl (cI, 24, .inl (upd (zs_cp hi2 hi i1) i1 (hi2 i1)))), (a 3, .inl (cI, 24, .inl (upd (zs_cp ln2 ln i1) i1 (ln2 i1)))), (a 4, .inl (cZ, 24, .inl (zs_cz op2 op i1))), (a 5, .inl (cI, 1536, .inl wd)), (a 6, .inl (cI, 24, .inl nm2)), (a 7, .inl (cI, 24, .inl hi2)), (a 8, .inl (cI, 24, .inl ln2)), (a 9, .inl (cZ, 24, .inl op2)), (a 10, .inl (cI, 1536, .inl wd2))] := hD
      refine lv_aload_n hx hb zd_M_mount_53 rfl (lv_at hl 1 rfl) ?_
      refine va_get (D := (dC, dI)) (ci := 2) (v := .ref (a 4)) (C := "ZoneShelfModel") (T := zs_T_M) (N := 11) hx hb hz zs_in_M hown hk.1 hP 0 rfl rfl 4 (by decide) (hz _ zq_187) (fun _ h9 => h9) rfl zd_M_mount_54 ?_
      refine lv_iload_n hx hb zd_M_mount_57 rfl (lv_at hl 0 rfl) ?_
      refine lv_aload_n hx hb zd_M_mount_58 rfl (lv_at hl 1 rfl) ?_
      refine va_get (D := (dC, dI)) (ci := 2) (v := .ref (a 9)) (C := "ZoneShelfModel") (T := zs_T_M) (N := 11) hx hb hz zs_in_M hown hk.1 hP 0 rfl rfl 9 (by decide) (hz _ zq_192) (fun _ h9 => h9) rfl zd_M_mount_59 ?_
      refine lv_iload_n hx hb zd_M_mount_62 rfl (lv_at hl 0 rfl) ?_
      refine zi_zld hx hb hk hP 9 (j := i1) rfl (by omega) (by decide) zd_M_mount_63 ?_
      refine zi_zst hx hb hk hP hD hS 4 (j := i1) rfl (by omega) (by decide) zd_M_mount_64 (fun H locs hP hD hS => ?_)
      have hP : va_P (dC, dI) zs_cl [(a 0, .inr (2, [.int (zs_b false), .ref (a 1), .ref (a 2), .ref (a 3), .ref (a 4), .ref (a 5), .ref (a 6), .ref (a 7), .ref (a 8), .ref (a 9), .ref (a 10)])), (a 1, .inl (cI, 24, .inl (upd (zs_cp nm2 nm i1) i1 (nm2 i1)))), (a 2, .inl (cI, 24, .inl (upd (zs_cp hi2 hi i1) i1 (hi2 i1)))), (a 3, .inl (cI, 24, .inl (upd (zs_cp ln2 ln i1) i1 (ln2 i1)))), (a 4, .inl (cZ, 24, .inl (upd (zs_cz op2 op i1) i1 (vp_nar .boolean (op2 i1))))), (a 5, .inl (cI, 1536, .inl wd)), (a 6, .inl (cI, 24, .inl nm2)), (a 7, .inl (cI, 24, .inl hi2)), (a 8, .inl (cI, 24, .inl ln2)), (a 9, .inl (cZ, 24, .inl op2)), (a 10, .inl (cI, 1536, .inl wd2))] H := hP
      have hD : va_D A [(a 0, .inr (2, [.int (zs_b false), .ref (a 1), .ref (a 2), .ref (a 3), .ref (a 4), .ref (a 5), .ref (a 6), .ref (a 7), .ref (a 8), .ref (a 9), .ref (a 10)])), (a 1, .inl (cI, 24, .inl (upd (zs_cp nm2 nm i1) i1 (nm2 i1)))), (a 2, .inl (cI, 24, .inl (upd (zs_cp hi2 hi i1) i1 (hi2 i1)))), (a 3, .inl (cI, 24, .inl (upd (zs_cp ln2 ln i1) i1 (ln2 i1)))), (a 4, .inl (cZ, 24, .inl (upd (zs_cz op2 op i1) i1 (vp_nar .boolean (op2 i1))))), (a 5, .inl (cI, 1536, .inl wd)), (a 6, .inl (cI, 24, .inl nm2)), (a 7, .inl (cI, 24, .inl hi2)), (a 8, .inl (cI, 24, .inl ln2)), (a 9, .inl (cZ, 24, .inl op2)), (a 10, .inl (cI, 1536, .inl wd2))] := hD
      refine lv_iinc (k := 0) (v := nI (i1 + 1)) (lv' := [(1, .int (nI (i1 + 1))), (0, .ref (a 0))]) hx hb zd_M_mount_65 hl rfl (zs_inc _) (by decide) rfl (fun ls hl => ?_)
      refine lv_goto (tgt := 11) hx hb zd_M_mount_68 rfl ?_
      rw [zs_cp_s nm2 nm i1, zs_cp_s hi2 hi i1, zs_cp_s ln2 ln i1, zs_cz_s op2 op i1] at hP hD
      exact ih1 () ls H locs ⟨lv_sub hl [0, 1] rfl, hP, hD, hS⟩
    · obtain ⟨hl, hP, hD, hS⟩ := hv
      have hl : lv_has ls 2 [(1, .int (nI 24)), (0, .ref (a 0))] := hl
      have hP : va_P (dC, dI) zs_cl [(a 0, .inr (2, [.int (zs_b false), .ref (a 1), .ref (a 2), .ref (a 3), .ref (a 4), .ref (a 5), .ref (a 6), .ref (a 7), .ref (a 8), .ref (a 9), .ref (a 10)])), (a 1, .inl (cI, 24, .inl (zs_cp nm2 nm 24))), (a 2, .inl (cI, 24, .inl (zs_cp hi2 hi 24))), (a 3, .inl (cI, 24, .inl (zs_cp ln2 ln 24))), (a 4, .inl (cZ, 24, .inl (zs_cz op2 op 24))), (a 5, .inl (cI, 1536, .inl wd)), (a 6, .inl (cI, 24, .inl nm2)), (a 7, .inl (cI, 24, .inl hi2)), (a 8, .inl (cI, 24, .inl ln2)), (a 9, .inl (cZ, 24, .inl op2)), (a 10, .inl (cI, 1536, .inl wd2))] H := hP
      have hD : va_D A [(a 0, .inr (2, [.int (zs_b false), .ref (a 1), .ref (a 2), .ref (a 3), .ref (a 4), .ref (a 5), .ref (a 6), .ref (a 7), .ref (a 8), .ref (a 9), .ref (a 10)])), (a 1, .inl (cI, 24, .inl (zs_cp nm2 nm 24))), (a 2, .inl (cI, 24, .inl (zs_cp hi2 hi 24))), (a 3, .inl (cI, 24, .inl (zs_cp ln2 ln 24))), (a 4, .inl (cZ, 24, .inl (zs_cz op2 op 24))), (a 5, .inl (cI, 1536, .inl wd)), (a 6, .inl (cI, 24, .inl nm2)), (a 7, .inl (cI, 24, .inl hi2)), (a 8, .inl (cI, 24, .inl ln2)), (a 9, .inl (cZ, 24, .inl op2)), (a 10, .inl (cI, 1536, .inl wd2))] := hD
      refine lv_iload_n hx hb zd_M_mount_11 rfl (lv_at hl 0 rfl) ?_
      refine lv_bipush (v := 24) hx hb zd_M_mount_12 (by decide) ?_
      refine zj_out (tgt := 71) (n := 24) (i := 24) hx hb zd_M_mount_14 rfl (by decide) (Nat.le_refl _) (by decide) ?_
      refine lv_iconst (v := 0) hx hb zd_M_mount_71 (by decide) ?_
      refine lv_istore_n (lv' := [(1, .int 0), (0, .ref (a 0))]) hx hb zd_M_mount_72 rfl hl (by decide) rfl (fun ls hl => ?_)
      refine zl_w (N := 1536) (α := Unit) (fun kk ii xx ls H locs => lv_has ls 2 [(1, .int (nI ii)), (0, .ref (a 0))] ∧ va_P (dC, dI) zs_cl [(a 0, .inr (2, [.int (zs_b false), .ref (a 1), .ref (a 2), .ref (a 3), .ref (a 4), .ref (a 5), .ref (a 6), .ref (a 7), .ref (a 8), .ref (a 9), .ref (a 10)])), (a 1, .inl (cI, 24, .inl (zs_cp nm2 nm 24))), (a 2, .inl (cI, 24, .inl (zs_cp hi2 hi 24))), (a 3, .inl (cI, 24, .inl (zs_cp ln2 ln 24))), (a 4, .inl (cZ, 24, .inl (zs_cz op2 op 24))), (a 5, .inl (cI, 1536, .inl (zs_cp wd2 wd ii))), (a 6, .inl (cI, 24, .inl nm2)), (a 7, .inl (cI, 24, .inl hi2)), (a 8, .inl (cI, 24, .inl ln2)), (a 9, .inl (cZ, 24, .inl op2)), (a 10, .inl (cI, 1536, .inl wd2))] H ∧ va_D A [(a 0, .inr (2, [.int (zs_b false), .ref (a 1), .ref (a 2), .ref (a 3), .ref (a 4), .ref (a 5), .ref (a 6), .ref (a 7), .ref (a 8), .ref (a 9), .ref (a 10)])), (a 1, .inl (cI, 24, .inl (zs_cp nm2 nm 24))), (a 2, .inl (cI, 24, .inl (zs_cp hi2 hi 24))), (a 3, .inl (cI, 24, .inl (zs_cp ln2 ln 24))), (a 4, .inl (cZ, 24, .inl (zs_cz op2 op 24))), (a 5, .inl (cI, 1536, .inl (zs_cp wd2 wd ii))), (a 6, .inl (cI, 24, .inl nm2)), (a 7, .inl (cI, 24, .inl hi2)), (a 8, .inl (cI, 24, .inl ln2)), (a 9, .inl (cZ, 24, .inl op2)), (a 10, .inl (cI, 1536, .inl wd2))] ∧ va_S A s.heap H locs) (fun k2 i2 x2 ls H locs e2 hv ih2 => ?_) (fun x2 ls H locs hv => ?_) 1536 0 () ls H _ rfl ⟨lv_sub hl [0, 1] rfl, by rw [zs_cp_0]; exact hP, by rw [zs_cp_0]; exact hD, hS⟩
      · obtain ⟨hl, hP, hD, hS⟩ := hv
        have hl : lv_has ls 2 [(1, .int (nI i2)), (0, .ref (a 0))] := hl
        have hP : va_P (dC, dI) zs_cl [(a 0, .inr (2, [.int (zs_b false), .ref (a 1), .ref (a 2), .ref (a 3), .ref (a 4), .ref (a 5), .ref (a 6), .ref (a 7), .ref (a 8), .ref (a 9), .ref (a 10)])), (a 1, .inl (cI, 24, .inl (zs_cp nm2 nm 24))), (a 2, .inl (cI, 24, .inl (zs_cp hi2 hi 24))), (a 3, .inl (cI, 24, .inl (zs_cp ln2 ln 24))), (a 4, .inl (cZ, 24, .inl (zs_cz op2 op 24))), (a 5, .inl (cI, 1536, .inl (zs_cp wd2 wd i2))), (a 6, .inl (cI, 24, .inl nm2)), (a 7, .inl (cI, 24, .inl hi2)), (a 8, .inl (cI, 24, .inl ln2)), (a 9, .inl (cZ, 24, .inl op2)), (a 10, .inl (cI, 1536, .inl wd2))] H := hP
        have hD : va_D A [(a 0, .inr (2, [.int (zs_b false), .ref (a 1), .ref (a 2), .ref (a 3), .ref (a 4), .ref (a 5), .ref (a 6), .ref (a 7), .ref (a 8), .ref (a 9), .ref (a 10)])), (a 1, .inl (cI, 24, .inl (zs_cp nm2 nm 24))), (a 2, .inl (cI, 24, .inl (zs_cp hi2 hi 24))), (a 3, .inl (cI, 24, .inl (zs_cp ln2 ln 24))), (a 4, .inl (cZ, 24, .inl (zs_cz op2 op 24))), (a 5, .inl (cI, 1536, .inl (zs_cp wd2 wd i2))), (a 6, .inl (cI, 24, .inl nm2)), (a 7, .inl (cI, 24, .inl hi2)), (a 8, .inl (cI, 24, .inl ln2)), (a 9, .inl (cZ, 24, .inl op2)), (a 10, .inl (cI, 1536, .inl wd2))] := hD
        have hlt2 : i2 < 1536 := by omega
        refine lv_iload_n hx hb zd_M_mount_73 rfl (lv_at hl 0 rfl) ?_
        refine lv_sipush (v := 1536) hx hb zd_M_mount_74 (by decide) ?_
        refine zj_in (tgt := 98) (n := 1536) hx hb zd_M_mount_77 rfl (by decide) hlt2 (by decide) ?_
        refine lv_aload_n hx hb zd_M_mount_80 rfl (lv_at hl 1 rfl) ?_
        refine va_get (D := (dC, dI)) (ci := 2) (v := .ref (a 5)) (C := "ZoneShelfModel") (T := zs_T_M) (N := 11) hx hb hz zs_in_M hown hk.1 hP 0 rfl rfl 5 (by decide) (hz _ zq_188) (fun _ h9 => h9) rfl zd_M_mount_81 ?_
        refine lv_iload_n hx hb zd_M_mount_84 rfl (lv_at hl 0 rfl) ?_
        refine lv_aload_n hx hb zd_M_mount_85 rfl (lv_at hl 1 rfl) ?_
        refine va_get (D := (dC, dI)) (ci := 2) (v := .ref (a 10)) (C := "ZoneShelfModel") (T := zs_T_M) (N := 11) hx hb hz zs_in_M hown hk.1 hP 0 rfl rfl 10 (by decide) (hz _ zq_193) (fun _ h9 => h9) rfl zd_M_mount_86 ?_
        refine lv_iload_n hx hb zd_M_mount_89 rfl (lv_at hl 0 rfl) ?_
        refine zi_ald hx hb hk hP 10 (j := i2) rfl (by omega) (by decide) zd_M_mount_90 ?_
        refine zi_ast hx hb hk hP hD hS 5 (j := i2) rfl (by omega) (by decide) zd_M_mount_91 (fun H locs hP hD hS => ?_)
        have hP : va_P (dC, dI) zs_cl [(a 0, .inr (2, [.int (zs_b false), .ref (a 1), .ref (a 2), .ref (a 3), .ref (a 4), .ref (a 5), .ref (a 6), .ref (a 7), .ref (a 8), .ref (a 9), .ref (a 10)])), (a 1, .inl (cI, 24, .inl (zs_cp nm2 nm 24))), (a 2, .inl (cI, 24, .inl (zs_cp hi2 hi 24))), (a 3, .inl (cI, 24, .inl (zs_cp ln2 ln 24))), (a 4, .inl (cZ, 24, .inl (zs_cz op2 op 24))), (a 5, .inl (cI, 1536, .inl (upd (zs_cp wd2 wd i2) i2 (wd2 i2)))), (a 6, .inl (cI, 24, .inl nm2)), (a 7, .inl (cI, 24, .inl hi2)), (a 8, .inl (cI, 24, .inl ln2)), (a 9, .inl (cZ, 24, .inl op2)), (a 10, .inl (cI, 1536, .inl wd2))] H := hP
        have hD : va_D A [(a 0, .inr (2, [.int (zs_b false), .ref (a 1), .ref (a 2), .ref (a 3), .ref (a 4), .ref (a 5), .ref (a 6), .ref (a 7), .ref (a 8), .ref (a 9), .ref (a 10)])), (a 1, .inl (cI, 24, .inl (zs_cp nm2 nm 24))), (a 2, .inl (cI, 24, .inl (zs_cp hi2 hi 24))), (a 3, .inl (cI, 24, .inl (zs_cp ln2 ln 24))), (a 4, .inl (cZ, 24, .inl (zs_cz op2 op 24))), (a 5, .inl (cI, 1536, .inl (upd (zs_cp wd2 wd i2) i2 (wd2 i2)))), (a 6, .inl (cI, 24, .inl nm2)), (a 7, .inl (cI, 24, .inl hi2)), (a 8, .inl (cI, 24, .inl ln2)), (a 9, .inl (cZ, 24, .inl op2)), (a 10, .inl (cI, 1536, .inl wd2))] := hD
        refine lv_iinc (k := 0) (v := nI (i2 + 1)) (lv' := [(1, .int (nI (i2 + 1))), (0, .ref (a 0))]) hx hb zd_M_mount_92 hl rfl (zs_inc _) (by decide) rfl (fun ls hl => ?_)
        refine lv_goto (tgt := 73) hx hb zd_M_mount_95 rfl ?_
        rw [zs_cp_s wd2 wd i2] at hP hD
        exact ih2 () ls H locs ⟨lv_sub hl [0, 1] rfl, hP, hD, hS⟩
      · obtain ⟨hl, hP, hD, hS⟩ := hv
        have hl : lv_has ls 2 [(1, .int (nI 1536)), (0, .ref (a 0))] := hl
        have hP : va_P (dC, dI) zs_cl [(a 0, .inr (2, [.int (zs_b false), .ref (a 1), .ref (a 2), .ref (a 3), .ref (a 4), .ref (a 5), .ref (a 6), .ref (a 7), .ref (a 8), .ref (a 9), .ref (a 10)])), (a 1, .inl (cI, 24, .inl (zs_cp nm2 nm 24))), (a 2, .inl (cI, 24, .inl (zs_cp hi2 hi 24))), (a 3, .inl (cI, 24, .inl (zs_cp ln2 ln 24))), (a 4, .inl (cZ, 24, .inl (zs_cz op2 op 24))), (a 5, .inl (cI, 1536, .inl (zs_cp wd2 wd 1536))), (a 6, .inl (cI, 24, .inl nm2)), (a 7, .inl (cI, 24, .inl hi2)), (a 8, .inl (cI, 24, .inl ln2)), (a 9, .inl (cZ, 24, .inl op2)), (a 10, .inl (cI, 1536, .inl wd2))] H := hP
        have hD : va_D A [(a 0, .inr (2, [.int (zs_b false), .ref (a 1), .ref (a 2), .ref (a 3), .ref (a 4), .ref (a 5), .ref (a 6), .ref (a 7), .ref (a 8), .ref (a 9), .ref (a 10)])), (a 1, .inl (cI, 24, .inl (zs_cp nm2 nm 24))), (a 2, .inl (cI, 24, .inl (zs_cp hi2 hi 24))), (a 3, .inl (cI, 24, .inl (zs_cp ln2 ln 24))), (a 4, .inl (cZ, 24, .inl (zs_cz op2 op 24))), (a 5, .inl (cI, 1536, .inl (zs_cp wd2 wd 1536))), (a 6, .inl (cI, 24, .inl nm2)), (a 7, .inl (cI, 24, .inl hi2)), (a 8, .inl (cI, 24, .inl ln2)), (a 9, .inl (cZ, 24, .inl op2)), (a 10, .inl (cI, 1536, .inl wd2))] := hD
        refine lv_iload_n hx hb zd_M_mount_73 rfl (lv_at hl 0 rfl) ?_
        refine lv_sipush (v := 1536) hx hb zd_M_mount_74 (by decide) ?_
        refine zj_out (tgt := 98) (n := 1536) (i := 1536) hx hb zd_M_mount_77 rfl (by decide) (Nat.le_refl _) (by decide) ?_
        refine lv_aload_n hx hb zd_M_mount_98 rfl (lv_at hl 1 rfl) ?_
        refine lv_iconst (v := 1) hx hb zd_M_mount_99 (by decide) ?_
        refine va_put (D := (dC, dI)) (ci := 2) (v := .int 1) (ty := .boolean) (C := "ZoneShelfModel") (T := zs_T_M) (N := 11) hx hb hz zs_in_M zs_t_M zs_tok_M zs_nok_M hown hk.1 hP hD hS 0 rfl rfl 0 (by decide) (hz _ zq_183) (fun _ h9 => h9) rfl (by decide +kernel) rfl rfl (Nat.le_of_ble_eq_true rfl) zd_M_mount_100 (fun H locs hP hD hS => ?_)
        have hP : va_P (dC, dI) zs_cl [(a 0, .inr (2, [.int (zs_b true), .ref (a 1), .ref (a 2), .ref (a 3), .ref (a 4), .ref (a 5), .ref (a 6), .ref (a 7), .ref (a 8), .ref (a 9), .ref (a 10)])), (a 1, .inl (cI, 24, .inl (zs_cp nm2 nm 24))), (a 2, .inl (cI, 24, .inl (zs_cp hi2 hi 24))), (a 3, .inl (cI, 24, .inl (zs_cp ln2 ln 24))), (a 4, .inl (cZ, 24, .inl (zs_cz op2 op 24))), (a 5, .inl (cI, 1536, .inl (zs_cp wd2 wd 1536))), (a 6, .inl (cI, 24, .inl nm2)), (a 7, .inl (cI, 24, .inl hi2)), (a 8, .inl (cI, 24, .inl ln2)), (a 9, .inl (cZ, 24, .inl op2)), (a 10, .inl (cI, 1536, .inl wd2))] H := hP
        have hD : va_D A [(a 0, .inr (2, [.int (zs_b true), .ref (a 1), .ref (a 2), .ref (a 3), .ref (a 4), .ref (a 5), .ref (a 6), .ref (a 7), .ref (a 8), .ref (a 9), .ref (a 10)])), (a 1, .inl (cI, 24, .inl (zs_cp nm2 nm 24))), (a 2, .inl (cI, 24, .inl (zs_cp hi2 hi 24))), (a 3, .inl (cI, 24, .inl (zs_cp ln2 ln 24))), (a 4, .inl (cZ, 24, .inl (zs_cz op2 op 24))), (a 5, .inl (cI, 1536, .inl (zs_cp wd2 wd 1536))), (a 6, .inl (cI, 24, .inl nm2)), (a 7, .inl (cI, 24, .inl hi2)), (a 8, .inl (cI, 24, .inl ln2)), (a 9, .inl (cZ, 24, .inl op2)), (a 10, .inl (cI, 1536, .inl wd2))] := hD
        refine lv_iconst (v := 1) hx hb zd_M_mount_103 (by decide) ?_
        exact zw_zret (true, (zs_cp nm2 nm 24, zs_cp hi2 hi 24, zs_cp ln2 ln 24, zs_cz op2 op 24, zs_cp wd2 wd 1536), (nm2, hi2, ln2, op2, wd2)) hx hb hr hlocks zd_M_mount_104 rfl (show (1, (true, (zs_cp nm2 nm 24, zs_cp hi2 hi 24, zs_cp ln2 ln 24, zs_cz op2 op 24, zs_cp wd2 wd 1536), (nm2, hi2, ln2, op2, wd2))) = zm_mount (false, (nm, hi, ln, op, wd), (nm2, hi2, ln2, op2, wd2)) from by simp [zm_mount, zm_copy]) hP hD hS
  · subst h1
    refine lv_iconst (v := 0) hx hb zd_M_mount_7 (by decide) ?_
    exact zw_zret (true, (nm, hi, ln, op, wd), (nm2, hi2, ln2, op2, wd2)) hx hb hr hlocks zd_M_mount_8 rfl (show (0, (true, (nm, hi, ln, op, wd), (nm2, hi2, ln2, op2, wd2))) = zm_mount (true, (nm, hi, ln, op, wd), (nm2, hi2, ln2, op2, wd2)) from by simp [zm_mount]) hP hD hS
set_option maxHeartbeats 4000000 in
set_option maxRecDepth 100000 in
theorem zc_M_cut (l : Launch) (dC : Nat → ClassId) (dI : Nat → Nat → Nat) (cI cZ : ClassId) (a : Nat → Nat) (u : zs_X) (sz : Nat)  : Met l zy_M_cut (.code zy_M_cut zb_M_cut 2 (some .boolean) :: zs_w) ({ frames := 0, cells := 0, slots := 0, locals := 0 }) (va_Pc [.ref (a 0)] (zs_s dC dI cI cZ sz (zs_wM cI cZ a u))) (va_Qi (fun r (v : zs_X) => (r, v) = zm_cut u) (zs_e dC dI (zs_wM cI cZ a) (va_A (zs_wM cI cZ a u) sz)) (va_A (zs_wM cI cZ a u) sz)) 0 0 (va_A (zs_wM cI cZ a u) sz) := by
  obtain ⟨up, ⟨nm, hi, ln, op, wd⟩, ⟨nm2, hi2, ln2, op2, wd2⟩⟩ := u
  refine Met.ofW (cc := zb_M_cut) (maxL := 2) (ret := (some .boolean)) (by decide) rfl ?_
  intro p e s m args below meth c s₁ B hml hv
  obtain ⟨rfl, hsz, hP, hk, hD0⟩ := hv
  have hx := B.exec
  have hb := B.bytes
  have hr := B.returns
  have hts := atoms_spec (ws := .code zy_M_cut zb_M_cut 2 (some .boolean) :: zs_w) B.pre
  have hz : ∀ w ∈ zs_w, w.before _ s = true := fun w h => hts w (List.mem_cons_of_mem _ h)
  have hown : s.vm.findClass "ZoneShelfModel" = some m.cls := findClass_of_methodNamed B.named
  have hlocks := B.notSynchronized
  subst hsz
  have hD := hD0.self (sz := s.heap.size)
  generalize hAe : va_A (zs_wM cI cZ a (up, (nm, hi, ln, op, wd), (nm2, hi2, ln2, op2, wd2))) s.heap.size = A at hD ⊢
  have hA : ∀ q : Nat, s.heap.size ≤ q → A q := fun q h => by rw [← hAe]; exact Or.inr h
  have hS : va_S A s.heap s.heap [] := va_S.rf
  have hP : va_P (dC, dI) zs_cl [(a 0, .inr (2, [.int (zs_b up), .ref (a 1), .ref (a 2), .ref (a 3), .ref (a 4), .ref (a 5), .ref (a 6), .ref (a 7), .ref (a 8), .ref (a 9), .ref (a 10)])), (a 1, .inl (cI, 24, .inl nm)), (a 2, .inl (cI, 24, .inl hi)), (a 3, .inl (cI, 24, .inl ln)), (a 4, .inl (cZ, 24, .inl op)), (a 5, .inl (cI, 1536, .inl wd)), (a 6, .inl (cI, 24, .inl nm2)), (a 7, .inl (cI, 24, .inl hi2)), (a 8, .inl (cI, 24, .inl ln2)), (a 9, .inl (cZ, 24, .inl op2)), (a 10, .inl (cI, 1536, .inl wd2))] s.heap := hP
  have hD : va_D A [(a 0, .inr (2, [.int (zs_b up), .ref (a 1), .ref (a 2), .ref (a 3), .ref (a 4), .ref (a 5), .ref (a 6), .ref (a 7), .ref (a 8), .ref (a 9), .ref (a 10)])), (a 1, .inl (cI, 24, .inl nm)), (a 2, .inl (cI, 24, .inl hi)), (a 3, .inl (cI, 24, .inl ln)), (a 4, .inl (cZ, 24, .inl op)), (a 5, .inl (cI, 1536, .inl wd)), (a 6, .inl (cI, 24, .inl nm2)), (a 7, .inl (cI, 24, .inl hi2)), (a 8, .inl (cI, 24, .inl ln2)), (a 9, .inl (cZ, 24, .inl op2)), (a 10, .inl (cI, 1536, .inl wd2))] := hD
  have hl := lv_entry ([.ref (a 0)]) (n := 2) (Nat.le_of_ble_eq_true rfl)
  rw [lg_entry_eq]
  generalize (lg_sl ([.ref (a 0)]) ++ List.replicate (2 - (lg_sl ([.ref (a 0)])).length) Slot.unset).toArray = ls at hl ⊢
  have hl : lv_has ls 2 [(0, .ref (a 0))] := hl
  refine lv_aload_n hx hb zd_M_cut_0 rfl (lv_at hl 0 rfl) ?_
  refine va_get (D := (dC, dI)) (ci := 2) (v := .int (zs_b up)) (C := "ZoneShelfModel") (T := zs_T_M) (N := 11) hx hb hz zs_in_M hown hk.1 hP 0 rfl rfl 0 (by decide) (hz _ zq_183) (fun _ h9 => h9) rfl zd_M_cut_1 ?_
  refine lv_istore_n (lv' := [(1, .int (zs_b up)), (0, .ref (a 0))]) hx hb zd_M_cut_4 rfl hl (by decide) rfl (fun ls hl => ?_)
  refine lv_aload_n hx hb zd_M_cut_5 rfl (lv_at hl 1 rfl) ?_
  refine lv_iconst (v := 0) hx hb zd_M_cut_6 (by decide) ?_
  refine va_put (D := (dC, dI)) (ci := 2) (v := .int 0) (ty := .boolean) (C := "ZoneShelfModel") (T := zs_T_M) (N := 11) hx hb hz zs_in_M zs_t_M zs_tok_M zs_nok_M hown hk.1 hP hD hS 0 rfl rfl 0 (by decide) (hz _ zq_183) (fun _ h9 => h9) rfl (by decide +kernel) rfl rfl (Nat.le_of_ble_eq_true rfl) zd_M_cut_7 (fun H locs hP hD hS => ?_)
  have hP : va_P (dC, dI) zs_cl [(a 0, .inr (2, [.int (zs_b false), .ref (a 1), .ref (a 2), .ref (a 3), .ref (a 4), .ref (a 5), .ref (a 6), .ref (a 7), .ref (a 8), .ref (a 9), .ref (a 10)])), (a 1, .inl (cI, 24, .inl nm)), (a 2, .inl (cI, 24, .inl hi)), (a 3, .inl (cI, 24, .inl ln)), (a 4, .inl (cZ, 24, .inl op)), (a 5, .inl (cI, 1536, .inl wd)), (a 6, .inl (cI, 24, .inl nm2)), (a 7, .inl (cI, 24, .inl hi2)), (a 8, .inl (cI, 24, .inl ln2)), (a 9, .inl (cZ, 24, .inl op2)), (a 10, .inl (cI, 1536, .inl wd2))] H := hP
  have hD : va_D A [(a 0, .inr (2, [.int (zs_b false), .ref (a 1), .ref (a 2), .ref (a 3), .ref (a 4), .ref (a 5), .ref (a 6), .ref (a 7), .ref (a 8), .ref (a 9), .ref (a 10)])), (a 1, .inl (cI, 24, .inl nm)), (a 2, .inl (cI, 24, .inl hi)), (a 3, .inl (cI, 24, .inl ln)), (a 4, .inl (cZ, 24, .inl op)), (a 5, .inl (cI, 1536, .inl wd)), (a 6, .inl (cI, 24, .inl nm2)), (a 7, .inl (cI, 24, .inl hi2)), (a 8, .inl (cI, 24, .inl ln2)), (a 9, .inl (cZ, 24, .inl op2)), (a 10, .inl (cI, 1536, .inl wd2))] := hD
  refine lv_iload_n hx hb zd_M_cut_10 rfl (lv_at hl 0 rfl) ?_
  exact zw_zret (false, (nm, hi, ln, op, wd), (nm2, hi2, ln2, op2, wd2)) hx hb hr hlocks zd_M_cut_11 (zs_b_n _) (show (zs_b up, (false, (nm, hi, ln, op, wd), (nm2, hi2, ln2, op2, wd2))) = zm_cut (up, (nm, hi, ln, op, wd), (nm2, hi2, ln2, op2, wd2)) from by rfl) hP hD hS
set_option maxHeartbeats 4000000 in
set_option maxRecDepth 100000 in
theorem zc_M_tear (l : Launch) (dC : Nat → ClassId) (dI : Nat → Nat → Nat) (cI cZ : ClassId) (a : Nat → Nat) (u : zs_X) (sz : Nat)  : Met l zy_M_tear (.code zy_M_tear zb_M_tear 1 (some .boolean) :: zs_w) ({ frames := 1, cells := 0, slots := 0, locals := 21 }) (va_Pc [.ref (a 0)] (zs_s dC dI cI cZ sz (zs_wM cI cZ a u))) (va_Qi (fun r (v : zs_X) => (r, v) = zm_cut u) (zs_e dC dI (zs_wM cI cZ a) (va_A (zs_wM cI cZ a u) sz)) (va_A (zs_wM cI cZ a u) sz)) 0 0 (va_A (zs_wM cI cZ a u) sz) := by
  obtain ⟨up, ⟨nm, hi, ln, op, wd⟩, ⟨nm2, hi2, ln2, op2, wd2⟩⟩ := u
  refine Met.ofW (cc := zb_M_tear) (maxL := 1) (ret := (some .boolean)) (by decide) rfl ?_
  intro p e s m args below meth c s₁ B hml hv
  obtain ⟨rfl, hsz, hP, hk, hD0⟩ := hv
  have hx := B.exec
  have hb := B.bytes
  have hr := B.returns
  have hts := atoms_spec (ws := .code zy_M_tear zb_M_tear 1 (some .boolean) :: zs_w) B.pre
  have hz : ∀ w ∈ zs_w, w.before _ s = true := fun w h => hts w (List.mem_cons_of_mem _ h)
  have hown : s.vm.findClass "ZoneShelfModel" = some m.cls := findClass_of_methodNamed B.named
  have hlocks := B.notSynchronized
  subst hsz
  have hD := hD0.self (sz := s.heap.size)
  generalize hAe : va_A (zs_wM cI cZ a (up, (nm, hi, ln, op, wd), (nm2, hi2, ln2, op2, wd2))) s.heap.size = A at hD ⊢
  have hA : ∀ q : Nat, s.heap.size ≤ q → A q := fun q h => by rw [← hAe]; exact Or.inr h
  have hS : va_S A s.heap s.heap [] := va_S.rf
  have hP : va_P (dC, dI) zs_cl [(a 0, .inr (2, [.int (zs_b up), .ref (a 1), .ref (a 2), .ref (a 3), .ref (a 4), .ref (a 5), .ref (a 6), .ref (a 7), .ref (a 8), .ref (a 9), .ref (a 10)])), (a 1, .inl (cI, 24, .inl nm)), (a 2, .inl (cI, 24, .inl hi)), (a 3, .inl (cI, 24, .inl ln)), (a 4, .inl (cZ, 24, .inl op)), (a 5, .inl (cI, 1536, .inl wd)), (a 6, .inl (cI, 24, .inl nm2)), (a 7, .inl (cI, 24, .inl hi2)), (a 8, .inl (cI, 24, .inl ln2)), (a 9, .inl (cZ, 24, .inl op2)), (a 10, .inl (cI, 1536, .inl wd2))] s.heap := hP
  have hD : va_D A [(a 0, .inr (2, [.int (zs_b up), .ref (a 1), .ref (a 2), .ref (a 3), .ref (a 4), .ref (a 5), .ref (a 6), .ref (a 7), .ref (a 8), .ref (a 9), .ref (a 10)])), (a 1, .inl (cI, 24, .inl nm)), (a 2, .inl (cI, 24, .inl hi)), (a 3, .inl (cI, 24, .inl ln)), (a 4, .inl (cZ, 24, .inl op)), (a 5, .inl (cI, 1536, .inl wd)), (a 6, .inl (cI, 24, .inl nm2)), (a 7, .inl (cI, 24, .inl hi2)), (a 8, .inl (cI, 24, .inl ln2)), (a 9, .inl (cZ, 24, .inl op2)), (a 10, .inl (cI, 1536, .inl wd2))] := hD
  have hl := lv_entry ([.ref (a 0)]) (n := 1) (Nat.le_of_ble_eq_true rfl)
  rw [lg_entry_eq]
  generalize (lg_sl ([.ref (a 0)]) ++ List.replicate (1 - (lg_sl ([.ref (a 0)])).length) Slot.unset).toArray = ls at hl ⊢
  have hl : lv_has ls 1 [(0, .ref (a 0))] := hl
  refine lv_aload_n hx hb zd_M_tear_0 rfl (lv_at hl 0 rfl) ?_
  refine zc_wV (rest := []) (wr := []) [] hx hb hml hown hz (zc_M_cut l dC dI cI cZ a (up, (nm, hi, ln, op, wd), (nm2, hi2, ln2, op2, wd2)) s.heap.size  ) zf_M_cut rfl rfl zq_250 zq_251 zq_252 ⟨Nat.le_of_ble_eq_true rfl, Nat.le_of_ble_eq_true rfl⟩ hk hP hD hS hA [0, 1, 2, 3, 4, 5, 6, 7, 8, 9, 10] [] rfl rfl (by decide) (by decide) (by decide) 0 2 rfl rfl rfl rfl hl.1 rfl (Nat.le_of_ble_eq_true rfl) zd_M_tear_1 ⟨Nat.zero_le _, Nat.zero_le _⟩ (fun r1 u3 H locs e2 hP hD hS => ?_)
  exact zw_zret u3 hx hb hr hlocks zd_M_tear_4 (by rw [show r1 = (zm_cut (up, (nm, hi, ln, op, wd), (nm2, hi2, ln2, op2, wd2)) ).1 from congrArg Prod.fst e2]; exact zm_cut_n _ ) (show (r1, u3) = zm_cut (up, (nm, hi, ln, op, wd), (nm2, hi2, ln2, op2, wd2))  from e2) hP hD hS
end
section
/-! The two sides agree. zp_1: contents of the shelf and of the reference; zp_R: all. -/
def zp_o1 (x m : zs_C) (o : Nat) : Prop := (x.1 o = -1 ∧ m.1 o = 0 ∧ x.2.2.1 o = 0) ∨ ∃ n q : Nat, n ≤ 9999 ∧ q ≤ 64 ∧ x.1 o = nI n ∧ m.1 o = nI (n + 1) ∧ x.2.1 o = m.2.1 o ∧ x.2.2.1 o = nI q ∧ m.2.2.1 o = nI q ∧ x.2.2.2.1 o = m.2.2.2.1 o ∧ ∀ i : Nat, i < q → x.2.2.2.2 (o * 64 + i) = m.2.2.2.2 (o * 64 + i)
def zp_d (nm : zs_F) : Prop := ∀ o t : Nat, o < 24 → t < 24 → ¬ nm o = -1 → nm o = nm t → o = t
def zp_1 (x m : zs_C) : Prop := (∀ o : Nat, o < 24 → zp_o1 x m o) ∧ zp_d x.1
def zp_R (x m : zs_X) : Prop := x.1 = m.1 ∧ zp_1 x.2.1 m.2.1 ∧ zp_1 x.2.2 m.2.2
theorem zp_t {x m : zs_C} (h : zp_1 x m) {o : Nat} (ho : o < 24) : zs_t x.1 o = !decide (m.1 o ≤ 0) := by
  rcases h.1 o ho with ⟨h1, h2, -⟩ | ⟨n, q, hn, -, h1, h2, -⟩
  · simp [zs_t, h1, h2]
  · have e1 : ¬ nI n = -1 := zs_nm1 (by omega)
    have e2 : ¬ nI (n + 1) ≤ 0 := nI_nle (by omega) (by omega)
    simp [zs_t, h1, h2, e1, e2]
theorem zp_at {x m : zs_C} (h : zp_1 x m) {o : Nat} (ho : o < 24) : zm_at true m.1 o = zs_t x.1 o := by
  rw [zp_t h ho]
  rfl
theorem zp_is {x m : zs_C} (h : zp_1 x m) (up : Bool) (n : Int32) : zs_is up x.1 n = zm_is up m.1 n := by
  by_cases h1 : n < 0
  · simp [zs_is, zm_is, h1]
  · by_cases h2 : 24 ≤ n
    · simp [zs_is, zm_is, h2]
    · obtain ⟨j, hj, rfl⟩ := zs_ix h1 h2
      rw [zs_is_at hj, zm_is_at hj, zm_at, zp_t h hj]
theorem zp_nam {n : Int32} (h : zs_nam n = true) : ∃ k : Nat, k ≤ 9999 ∧ n = nI k := by
  simp only [zs_nam, Bool.and_eq_true, Bool.not_eq_true', decide_eq_false_iff_not] at h
  obtain ⟨k, hk, rfl⟩ := nI_of h.1
  have h2 : ¬ nI 9999 < nI k := h.2
  rw [nI_ltI (by omega) hk] at h2
  exact ⟨k, by omega, rfl⟩
/-- a name stands at the same number on both sides -/
theorem zp_nmeq {x m : zs_C} (h : zp_1 x m) {o k : Nat} (ho : o < 24) (hk : k ≤ 9999) : (zs_t x.1 o = true ∧ m.1 o = nI k + 1) ↔ x.1 o = nI k := by
  rw [nI_1]
  rcases h.1 o ho with ⟨h1, h2, -⟩ | ⟨n, q, hn, -, h1, h2, -⟩
  · constructor
    · rintro ⟨q, -⟩
      simp [zs_t, h1] at q
    · intro q
      rw [h1] at q
      exact absurd q.symm (zs_nm1 (by omega))
  · have e1 : ¬ nI n = -1 := zs_nm1 (by omega)
    rw [h1, h2, nI_eq (by omega) (by omega), nI_eq (by omega) (by omega)]
    constructor
    · rintro ⟨-, q⟩
      omega
    · intro q
      exact ⟨by simp [zs_t, h1, e1], by omega⟩
theorem zs_num_no {nm : zs_F} {x : Int32} : ∀ k i : Nat, (∀ t, i ≤ t → t < i + k → ¬ nm t = x) → zs_num nm x k i = -1 := by
  intro k
  induction k with
  | zero => exact fun _ _ => rfl
  | succ k ih =>
    intro i h
    simp only [zs_num]
    rw [if_neg (h i (Nat.le_refl _) (by omega))]
    exact ih (i + 1) (fun t h1 h2 => h t (by omega) (by omega))
theorem zs_num_some {nm : zs_F} {x : Int32} : ∀ k i : Nat, i + k ≤ 24 → zs_num nm x k i = -1 → ∀ t, i ≤ t → t < i + k → ¬ nm t = x := by
  intro k
  induction k with
  | zero => exact fun i _ _ t h1 h2 => by omega
  | succ k ih =>
    intro i hi h t h1 h2
    simp only [zs_num] at h
    by_cases hx : nm i = x
    · rw [if_pos hx] at h
      exact absurd h (zs_nm1 (by omega))
    · rw [if_neg hx] at h
      by_cases ht : t = i
      · rw [ht]
        exact hx
      · exact ih (i + 1) (by omega) h t (by omega) (by omega)
theorem zp_num {x m : zs_C} (h : zp_1 x m) {n : Nat} (hn : n ≤ 9999) : ∀ (k i : Nat) (a : Int32), i + k = 24 → zm_num true m.1 (nI n) k i a = (if zs_num x.1 (nI n) k i = -1 then a else zs_num x.1 (nI n) k i) := by
  have hnam : zs_nam (nI n) = true := by
    have e1 : ¬ nI n < 0 := nI_pos (by omega)
    have e2 : ¬ (9999 : Int32) < nI n := nI_nlt (a := 9999) (b := n) hn (by decide)
    simp [zs_nam, e1, e2]
  intro k
  induction k with
  | zero => exact fun _ _ _ => rfl
  | succ k ih =>
    intro i a hi
    have hc := zp_nmeq h (o := i) (k := n) (by omega) hn
    by_cases hx : x.1 i = nI n
    · have hc2 := hc.mpr hx
      have e1 : zm_num true m.1 (nI n) (k + 1) i a = zm_num true m.1 (nI n) k (i + 1) (nI i) := by
        simp only [zm_num]
        rw [if_pos ⟨hnam, by rw [zp_at h (by omega)]; exact hc2.1, hc2.2⟩]
      have e2 : zs_num x.1 (nI n) (k + 1) i = nI i := by
        simp only [zs_num]
        rw [if_pos hx]
      have hno : zs_num x.1 (nI n) k (i + 1) = -1 := zs_num_no k (i + 1) (fun t h1 h2 q => by
        have h3 := h.2 i t (by omega) (by omega) (by rw [hx]; exact zs_nm1 (by omega)) (by rw [hx, q])
        omega)
      rw [e1, e2, ih (i + 1) _ (by omega), if_pos hno, if_neg (zs_nm1 (by omega))]
    · have e1 : zm_num true m.1 (nI n) (k + 1) i a = zm_num true m.1 (nI n) k (i + 1) a := by
        simp only [zm_num]
        rw [if_neg (fun q => hx (hc.mp ⟨by rw [← zp_at h (by omega)]; exact q.2.1, q.2.2⟩))]
      have e2 : zs_num x.1 (nI n) (k + 1) i = zs_num x.1 (nI n) k (i + 1) := by
        simp only [zs_num]
        rw [if_neg hx]
      rw [e1, e2]
      exact ih (i + 1) a (by omega)
theorem zm_num_f {nm : zs_F} {n : Int32} : ∀ (k i : Nat) (a : Int32), zm_num false nm n k i a = a := by
  intro k
  induction k with
  | zero => exact fun _ _ => rfl
  | succ k ih =>
    intro i a
    simp only [zm_num]
    rw [if_neg (fun q => by have z := q.2.1; simp [zm_at] at z)]
    exact ih (i + 1) a
theorem zm_num_x {up : Bool} {nm : zs_F} {n : Int32} (h : ¬ zs_nam n = true) : ∀ (k i : Nat) (a : Int32), zm_num up nm n k i a = a := by
  intro k
  induction k with
  | zero => exact fun _ _ => rfl
  | succ k ih =>
    intro i a
    simp only [zm_num]
    rw [if_neg (fun q => h q.1)]
    exact ih (i + 1) a
theorem zp_find {x m : zs_X} (h : zp_R x m) (n : Int32) : zs_find x n = zm_find m n := by
  obtain ⟨up, cx, ox⟩ := x
  obtain ⟨up2, cm, om⟩ := m
  obtain ⟨rfl, h1, -⟩ := h
  simp only [zs_find, zm_find]
  cases up with
  | false =>
    rw [zm_num_f]
    rfl
  | true =>
    by_cases hn : zs_nam n = true
    · rw [if_pos (by rw [hn]; rfl)]
      obtain ⟨k, hk, rfl⟩ := zp_nam hn
      rw [zp_num h1 hk 24 0 (-1) rfl]
      split
      · rename_i q
        exact q
      · rfl
    · rw [zm_num_x hn, if_neg (by simpa using hn)]
theorem zp_below {x m : zs_C} (h : zp_1 x m) {o : Nat} (ho : o < 24) (ht : zs_t x.1 o = true) : ∀ (k i : Nat) (a : Int32), i + k = 24 → zs_below x.1 (x.1 o) k i a = zm_below true m.1 (m.1 o) k i a := by
  intro k
  induction k with
  | zero => exact fun _ _ _ => rfl
  | succ k ih =>
    intro i a hi
    simp only [zs_below, zm_below]
    rw [zp_at h (by omega)]
    have hc : (zs_t x.1 i = true ∧ ¬ x.1 o ≤ x.1 i) ↔ (zs_t x.1 i = true ∧ ¬ m.1 o ≤ m.1 i) := by
      rcases h.1 o ho with ⟨q, -⟩ | ⟨n, q, hn, -, h1, h2, -⟩
      · simp [zs_t, q] at ht
      · rcases h.1 i (by omega) with ⟨q, -⟩ | ⟨n2, q2, hn2, -, h3, h4, -⟩
        · have e : zs_t x.1 i = false := by simp [zs_t, q]
          simp [e]
        · rw [h1, h2, h3, h4, nI_leI (by omega) (by omega), nI_leI (by omega) (by omega)]
          constructor <;> rintro ⟨q1, q2⟩ <;> exact ⟨q1, by omega⟩
    by_cases hh : zs_t x.1 i = true ∧ ¬ x.1 o ≤ x.1 i
    · rw [if_pos hh, if_pos (hc.mp hh)]
      exact ih (i + 1) _ (by omega)
    · rw [if_neg hh, if_neg (fun q => hh (hc.mpr q)), Int32.add_zero]
      exact ih (i + 1) _ (by omega)
theorem zp_rank {x m : zs_C} (h : zp_1 x m) (c : Int32) : ∀ k i : Nat, i + k = 24 → zs_rank x.1 c k i = zm_rank true m.1 c k i := by
  intro k
  induction k with
  | zero => exact fun _ _ => rfl
  | succ k ih =>
    intro i hi
    simp only [zs_rank, zm_rank]
    rw [zp_at h (by omega)]
    by_cases ht : zs_t x.1 i = true
    · rw [zp_below h (by omega) ht 24 0 0 rfl, ih (i + 1) (by omega)]
    · rw [if_neg (fun q => ht q.1), if_neg (fun q => ht q.1)]
      exact ih (i + 1) (by omega)
theorem zm_rank_f {nm : zs_F} {c : Int32} : ∀ k i : Nat, zm_rank false nm c k i = -1 := by
  intro k
  induction k with
  | zero => exact fun _ => rfl
  | succ k ih =>
    intro i
    simp only [zm_rank]
    rw [if_neg (fun q => by have z := q.1; simp [zm_at] at z)]
    exact ih (i + 1)
theorem zp_list {x m : zs_X} (h : zp_R x m) (c : Int32) : zs_list x c = zm_list m c := by
  obtain ⟨up, cx, ox⟩ := x
  obtain ⟨up2, cm, om⟩ := m
  obtain ⟨rfl, h1, -⟩ := h
  simp only [zs_list, zm_list]
  cases up with
  | false =>
    rw [zm_rank_f]
    rfl
  | true =>
    rw [if_pos rfl]
    exact zp_rank h1 c 24 0 rfl
theorem zp_cnt {x m : zs_C} (h : zp_1 x m) : ∀ (k i : Nat) (a : Int32), i + k = 24 → zs_cnt x.1 k i a = zm_cnt true m.1 k i a := by
  intro k
  induction k with
  | zero => exact fun _ _ _ => rfl
  | succ k ih =>
    intro i a hi
    simp only [zs_cnt, zm_cnt]
    rw [zp_at h (by omega)]
    by_cases ht : zs_t x.1 i = true
    · rw [if_pos ht, if_pos ht]
      exact ih (i + 1) _ (by omega)
    · rw [if_neg ht, if_neg ht, Int32.add_zero]
      exact ih (i + 1) _ (by omega)
theorem zm_cnt_f {nm : zs_F} : ∀ (k i : Nat) (a : Int32), zm_cnt false nm k i a = a := by
  intro k
  induction k with
  | zero => exact fun _ _ => rfl
  | succ k ih =>
    intro i a
    simp only [zm_cnt]
    rw [if_neg (fun q => by simp [zm_at] at q), Int32.add_zero]
    exact ih (i + 1) a
theorem zp_objects {x m : zs_X} (h : zp_R x m) : zs_objects x = zm_objects m := by
  obtain ⟨up, cx, ox⟩ := x
  obtain ⟨up2, cm, om⟩ := m
  obtain ⟨rfl, h1, -⟩ := h
  simp only [zs_objects, zm_objects]
  cases up with
  | false =>
    rw [zm_cnt_f]
    rfl
  | true =>
    rw [if_pos rfl]
    exact zp_cnt h1 24 0 0 rfl
theorem zp_left {x m : zs_C} (h : zp_1 x m) (c : Int32) : ∀ (k i : Nat) (a : Int32), i + k = 24 → c - zs_sum x.2.2.1 k i a = zm_left m.1 m.2.2.1 k i (c - a) := by
  intro k
  induction k with
  | zero => exact fun _ _ _ => rfl
  | succ k ih =>
    intro i a hi
    simp only [zs_sum, zm_left]
    have e : (if m.1 i ≤ 0 then (0 : Int32) else m.2.2.1 i) = x.2.2.1 i := by
      rcases h.1 i (by omega) with ⟨-, h2, h3⟩ | ⟨n, q, hn, -, h1, h2, -, h3, h4, -⟩
      · rw [h2, h3, if_pos (by decide)]
      · rw [h2, h3, h4, if_neg (nI_nle (by omega) (by omega))]
    rw [e, ih (i + 1) _ (by omega), Int32.sub_sub]
theorem zp_left0 {x m : zs_C} (h : zp_1 x m) : 200 - zs_sum x.2.2.1 24 0 0 = zm_left m.1 m.2.2.1 24 0 200 := by
  rw [zp_left h 200 24 0 0 rfl, Int32.sub_zero]
theorem zp_room {x m : zs_X} (h : zp_R x m) : zs_room x = zm_room m := by
  obtain ⟨up, cx, ox⟩ := x
  obtain ⟨up2, cm, om⟩ := m
  obtain ⟨rfl, h1, -⟩ := h
  simp only [zs_room, zm_room]
  rw [zp_left0 h1]
/-- an object that is there, on both sides -/
theorem zp_o {x m : zs_C} (h : zp_1 x m) {o : Nat} (ho : o < 24) (ht : zs_t x.1 o = true) : ∃ n q : Nat, n ≤ 9999 ∧ q ≤ 64 ∧ x.1 o = nI n ∧ m.1 o = nI (n + 1) ∧ x.2.1 o = m.2.1 o ∧ x.2.2.1 o = nI q ∧ m.2.2.1 o = nI q ∧ x.2.2.2.1 o = m.2.2.2.1 o ∧ ∀ i : Nat, i < q → x.2.2.2.2 (o * 64 + i) = m.2.2.2.2 (o * 64 + i) := by
  rcases h.1 o ho with ⟨h1, -⟩ | h1
  · simp [zs_t, h1] at ht
  · exact h1
theorem zp_object {x m : zs_X} (h : zp_R x m) (o w : Int32) : zs_object x o w = zm_object m o w := by
  obtain ⟨up, cx, ox⟩ := x
  obtain ⟨up2, cm, om⟩ := m
  obtain ⟨rfl, h1, -⟩ := h
  simp only [zs_object, zm_object]
  rw [← zp_is h1]
  by_cases hi : zs_is up cx.1 o = true
  · rw [if_pos hi, if_pos hi]
    obtain ⟨j, hj, rfl, -, ht⟩ := zs_is_t hi
    obtain ⟨n, q, -, -, e1, e2, e3, e4, e5, e6, -⟩ := zp_o h1 hj ht
    rw [nI_clamp (by omega), e1, e2, e3, e4, e5, e6, nI_pred]
  · rw [if_neg hi, if_neg hi]
theorem zp_word {x m : zs_X} (h : zp_R x m) (o i : Int32) : zs_word x o i = zm_word m o i := by
  obtain ⟨up, cx, ox⟩ := x
  obtain ⟨up2, cm, om⟩ := m
  obtain ⟨rfl, h1, -⟩ := h
  simp only [zs_word, zm_word]
  rw [← zp_is h1]
  by_cases hi : zs_is up cx.1 o = true
  · obtain ⟨j, hj, rfl, -, ht⟩ := zs_is_t hi
    obtain ⟨n, q, -, hq, e1, e2, e3, e4, e5, e6, e7⟩ := zp_o h1 hj ht
    rw [nI_clamp (by omega), e4, e5]
    by_cases hc : ¬ i < 0 ∧ i < nI q
    · rw [if_pos ⟨hi, hc⟩, if_pos ⟨hi, hc⟩]
      obtain ⟨t, ht, rfl⟩ := nI_of hc.1
      have h3 := hc.2
      rw [nI_ltI ht (by omega)] at h3
      rw [nI_clamp (by omega)]
      exact e7 t h3
    · rw [if_neg (fun z => hc z.2), if_neg (fun z => hc z.2)]
  · rw [if_neg (fun z => hi z.1), if_neg (fun z => hi z.1)]
end
section
/-! The two sides agree behind each call that writes. -/
theorem zp_keep {x m y n : zs_C} {o : Nat} (a1 : y.1 o = x.1 o) (a2 : y.2.1 o = x.2.1 o) (a3 : y.2.2.1 o = x.2.2.1 o) (a4 : y.2.2.2.1 o = x.2.2.2.1 o) (a5 : ∀ i : Nat, i < 64 → y.2.2.2.2 (o * 64 + i) = x.2.2.2.2 (o * 64 + i))
    (b1 : n.1 o = m.1 o) (b2 : n.2.1 o = m.2.1 o) (b3 : n.2.2.1 o = m.2.2.1 o) (b4 : n.2.2.2.1 o = m.2.2.2.1 o) (b5 : ∀ i : Nat, i < 64 → n.2.2.2.2 (o * 64 + i) = m.2.2.2.2 (o * 64 + i)) (h : zp_o1 x m o) : zp_o1 y n o := by
  rcases h with ⟨h1, h2, h3⟩ | ⟨k, q, hk, hq, h1, h2, h3, h4, h5, h6, h7⟩
  · exact Or.inl ⟨a1.trans h1, b1.trans h2, a3.trans h3⟩
  · exact Or.inr ⟨k, q, hk, hq, a1.trans h1, b1.trans h2, by rw [a2, b2, h3], a3.trans h4, b3.trans h5, by rw [a4, b4, h6], fun i hi => by rw [a5 i (by omega), b5 i (by omega)]; exact h7 i hi⟩
theorem zp_d_new {nm : zs_F} {f : Nat} {n : Int32} (h : zp_d nm) (hno : ∀ t : Nat, t < 24 → ¬ nm t = n) : zp_d (upd nm f n) := by
  intro o t ho ht h1 h2
  by_cases e1 : o = f
  · by_cases e2 : t = f
    · omega
    · rw [e1, pk_us, pk_un e2] at h2
      exact absurd h2.symm (hno t ht)
  · by_cases e2 : t = f
    · rw [e2, pk_us, pk_un e1] at h2
      exact absurd h2 (hno o ho)
    · rw [pk_un e1] at h1
      rw [pk_un e1, pk_un e2] at h2
      exact h o t ho ht h1 h2
theorem zp_d_del {nm : zs_F} {f : Nat} (h : zp_d nm) : zp_d (upd nm f (-1)) := by
  intro o t ho ht h1 h2
  by_cases e1 : o = f
  · rw [e1, pk_us] at h1
    exact absurd rfl h1
  · rw [pk_un e1] at h1 h2
    by_cases e2 : t = f
    · rw [e2, pk_us] at h2
      exact absurd h2 h1
    · rw [pk_un e2] at h2
      exact h o t ho ht h1 h2
theorem zp_fr {x m : zs_C} (h : zp_1 x m) {n : Int32} (hn : zs_nam n = true) : zm_num true m.1 n 24 0 (-1) = -1 ↔ zs_num x.1 n 24 0 = -1 := by
  obtain ⟨k, hk, rfl⟩ := zp_nam hn
  rw [zp_num h hk 24 0 (-1) rfl]
  split
  · rename_i q
    exact ⟨fun _ => q, fun _ => rfl⟩
  · exact Iff.rfl
theorem zp_free {x m : zs_C} (h : zp_1 x m) : ∀ k i : Nat, i + k = 24 → (zs_free x.1 k i = -1 ∧ zm_free m.1 k i = 24) ∨ (zm_free m.1 k i < 24 ∧ zs_free x.1 k i = nI (zm_free m.1 k i) ∧ zs_t x.1 (zm_free m.1 k i) = false) := by
  intro k
  induction k with
  | zero => exact fun i hi => Or.inl ⟨rfl, hi⟩
  | succ k ih =>
    intro i hi
    have ht := zp_t h (o := i) (by omega)
    simp only [zs_free, zm_free]
    by_cases hm : m.1 i ≤ 0
    · have e : zs_t x.1 i = false := by rw [ht]; simp [hm]
      rw [if_pos hm, if_neg (by rw [e]; decide)]
      exact Or.inr ⟨by omega, rfl, e⟩
    · have e : zs_t x.1 i = true := by rw [ht]; simp [hm]
      rw [if_neg hm, if_pos e]
      exact ih (i + 1) (by omega)
theorem zp_gone {x m : zs_C} (h : zp_1 x m) {o : Nat} (ho : o < 24) (ht : zs_t x.1 o = false) : x.2.2.1 o = 0 := by
  rcases h.1 o ho with ⟨-, -, h3⟩ | ⟨n, q, hn, -, h1, -⟩
  · exact h3
  · have e : ¬ nI n = -1 := zs_nm1 (by omega)
    simp [zs_t, h1, e] at ht
theorem zp_create {x m : zs_X} (h : zp_R x m) (n hh : Int32) : (zs_create x n hh).1 = (zm_create m n hh).1 ∧ zp_R (zs_create x n hh).2 (zm_create m n hh).2 := by
  obtain ⟨up, cx, ox⟩ := x
  obtain ⟨up2, cm, om⟩ := m
  have hR := h
  obtain ⟨rfl, h1, h2⟩ := h
  have hX : ((up && (zs_fr cx.1 n && zs_hin hh)) = true) ↔ (up = true ∧ zs_nam n = true ∧ (¬ hh < 0 ∧ ¬ 3 < hh) ∧ zs_num cx.1 n 24 0 = -1) := by
    simp only [zs_fr, zs_hin, Bool.and_eq_true, Bool.not_eq_true', decide_eq_false_iff_not, decide_eq_true_eq]
    constructor
    · rintro ⟨q1, ⟨q2, q3⟩, q4⟩
      exact ⟨q1, q2, q4, q3⟩
    · rintro ⟨q1, q2, q4, q3⟩
      exact ⟨q1, ⟨q2, q3⟩, q4⟩
  have hM : (up = true ∧ zs_nam n = true ∧ ¬ hh < 0 ∧ ¬ 3 < hh ∧ zm_num up cm.1 n 24 0 (-1) = -1) ↔ (up = true ∧ zs_nam n = true ∧ (¬ hh < 0 ∧ ¬ 3 < hh) ∧ zs_num cx.1 n 24 0 = -1) := by
    constructor
    · rintro ⟨rfl, q2, q3, q4, q5⟩
      exact ⟨rfl, q2, ⟨q3, q4⟩, (zp_fr h1 q2).mp q5⟩
    · rintro ⟨rfl, q2, ⟨q3, q4⟩, q5⟩
      exact ⟨rfl, q2, q3, q4, (zp_fr h1 q2).mpr q5⟩
  simp only [zs_create, zm_create]
  by_cases hc : up = true ∧ zs_nam n = true ∧ (¬ hh < 0 ∧ ¬ 3 < hh) ∧ zs_num cx.1 n 24 0 = -1
  · rw [if_pos (hX.mpr hc), if_pos (hM.mpr hc)]
    obtain ⟨rfl, hn, -, hnum⟩ := hc
    rcases zp_free h1 24 0 rfl with ⟨e1, e2⟩ | ⟨e1, e2, e3⟩
    · rw [if_pos e1, if_pos e2]
      exact ⟨rfl, hR⟩
    · generalize zm_free cm.1 24 0 = f at e1 e2 e3 ⊢
      rw [e2, if_neg (zs_nm1 (by omega)), if_neg (by omega), nI_clamp (by omega)]
      obtain ⟨k, hk, rfl⟩ := zp_nam hn
      refine ⟨rfl, rfl, ⟨fun o ho => ?_, zp_d_new h1.2 (fun t ht => zs_num_some 24 0 (by omega) hnum t (by omega) (by omega))⟩, h2⟩
      by_cases e : o = f
      · subst e
        refine Or.inr ⟨k, 0, hk, by omega, pk_us, ?_, ?_, zp_gone h1 ho e3, pk_us, ?_, fun i hi => by omega⟩
        · show upd cm.1 o (nI k + 1) o = _
          rw [pk_us, nI_1]
        · show upd cx.2.1 o hh o = upd cm.2.1 o hh o
          rw [pk_us, pk_us]
        · show upd cx.2.2.2.1 o _ o = upd cm.2.2.2.1 o _ o
          rw [pk_us, pk_us]
      · exact zp_keep (x := cx) (m := cm) (pk_un e) (pk_un e) rfl (pk_un e) (fun _ _ => rfl) (pk_un e) (pk_un e) (pk_un e) (pk_un e) (fun _ _ => rfl) (h1.1 o ho)
  · rw [if_neg (fun q => hc (hX.mp q)), if_neg (fun q => hc (hM.mp q))]
    exact ⟨rfl, hR⟩
theorem zs_row_in {wd : zs_F} {st : Nat} {w : Int32} : ∀ (k i : Nat), i < k → zs_row wd st w k (st + i) = w + nI i := by
  intro k
  induction k with
  | zero => exact fun i hi => by omega
  | succ k ih =>
    intro i hi
    simp only [zs_row]
    by_cases e : i = k
    · rw [e, pk_us]
    · rw [pk_un (by omega)]
      exact ih i (by omega)
theorem zs_row_out {wd : zs_F} {st : Nat} {w : Int32} {j : Nat} : ∀ k : Nat, (j < st ∨ st + k ≤ j) → zs_row wd st w k j = wd j := by
  intro k
  induction k with
  | zero => exact fun _ => rfl
  | succ k ih =>
    intro hj
    simp only [zs_row]
    rw [pk_un (by omega)]
    exact ih (by omega)
theorem zp_okr {x m : zs_X} (h : zp_R x m) (o k : Int32) : zs_okr x o k = zm_okr m o k := by
  obtain ⟨up, cx, ox⟩ := x
  obtain ⟨up2, cm, om⟩ := m
  obtain ⟨rfl, h1, -⟩ := h
  simp only [zs_okr, zm_okr]
  rw [← zp_is h1]
  by_cases hi : zs_is up cx.1 o = true
  · obtain ⟨j, hj, rfl, -, ht⟩ := zs_is_t hi
    obtain ⟨n, q, -, -, e1, e2, e3, e4, e5, e6, -⟩ := zp_o h1 hj ht
    rw [hi, nI_clamp (by omega), e6, ← zp_left0 h1, e5, ← e4]
    have e : decide (k ≤ zs_rm cx.2.2.1 j) = (!decide (64 - cx.2.2.1 j < k) && decide (k ≤ 200 - zs_sum cx.2.2.1 24 0 0)) := by
      rw [Bool.eq_iff_iff]
      simp only [Bool.and_eq_true, Bool.not_eq_true', decide_eq_false_iff_not, decide_eq_true_eq]
      rw [zs_rm_le, Int32.not_lt]
    rw [e]
  · have e : zs_is up cx.1 o = false := by simpa using hi
    rw [e]
    rfl
theorem zp_appendRow {x m : zs_X} (h : zp_R x m) (o w k : Int32) : (zs_appendRow x o w k).1 = (zm_appendRow m o w k).1 ∧ zp_R (zs_appendRow x o w k).2 (zm_appendRow m o w k).2 := by
  have hR := h
  have hk := zp_okr h o k
  obtain ⟨up, cx, ox⟩ := x
  obtain ⟨up2, cm, om⟩ := m
  obtain ⟨rfl, h1, h2⟩ := h
  simp only [zs_appendRow, zm_appendRow]
  rw [← hk]
  by_cases hc : zs_okr (up, cx, ox) o k = true
  · rw [if_pos hc, if_pos hc]
    simp only [zs_okr, Bool.and_eq_true, Bool.not_eq_true', decide_eq_false_iff_not, decide_eq_true_eq] at hc
    obtain ⟨hi, -, hk1, hk2⟩ := hc
    obtain ⟨j, hj, rfl, -, ht⟩ := zs_is_t hi
    obtain ⟨n, q, hn, hq, e1, e2, e3, e4, e5, e6, e7⟩ := zp_o h1 hj ht
    rw [nI_clamp (by omega)] at hk2 ⊢
    obtain ⟨t, hqt, rfl⟩ := zs_fit e4 hq hk1 hk2
    rw [e4, e5, nI_clamp (show q < 2 ^ 31 by omega), nI_clamp (show t < 2 ^ 31 by omega)]
    refine ⟨rfl, rfl, ⟨fun a ha => ?_, h1.2⟩, h2⟩
    by_cases e : a = j
    · subst e
      refine Or.inr ⟨n, q + t, hn, hqt, e1, e2, e3, pk_us, pk_us, e6, fun i hi => ?_⟩
      show zs_row cx.2.2.2.2 (a * 64 + q) w t (a * 64 + i) = zs_row cm.2.2.2.2 (a * 64 + q) w t (a * 64 + i)
      by_cases hiq : i < q
      · rw [zs_row_out t (by omega), zs_row_out t (by omega)]
        exact e7 i hiq
      · rw [show a * 64 + i = a * 64 + q + (i - q) by omega, zs_row_in t (i - q) (by omega), zs_row_in t (i - q) (by omega)]
    · exact zp_keep (x := cx) (m := cm) rfl rfl (pk_un e) rfl (fun i hi => zs_row_out t (by omega)) rfl rfl (pk_un e) rfl (fun i hi => zs_row_out t (by omega)) (h1.1 a ha)
  · rw [if_neg hc, if_neg hc]
    exact ⟨rfl, hR⟩
theorem zp_open {x m : zs_X} (h : zp_R x m) (o b : Int32) : (zs_open x o b).1 = (zm_open m o b).1 ∧ zp_R (zs_open x o b).2 (zm_open m o b).2 := by
  have hR := h
  obtain ⟨up, cx, ox⟩ := x
  obtain ⟨up2, cm, om⟩ := m
  obtain ⟨rfl, h1, h2⟩ := h
  simp only [zs_open, zm_open]
  rw [← zp_is h1]
  by_cases hi : zs_is up cx.1 o = true
  · rw [if_pos hi, if_pos hi]
    obtain ⟨j, hj, rfl, -, ht⟩ := zs_is_t hi
    rw [nI_clamp (by omega)]
    obtain ⟨n, q, hn, hq, e1, e2, e3, e4, e5, e6, e7⟩ := zp_o h1 hj ht
    refine ⟨rfl, rfl, ⟨fun a ha => ?_, h1.2⟩, h2⟩
    by_cases e : a = j
    · subst e
      refine Or.inr ⟨n, q, hn, hq, e1, e2, e3, e4, e5, ?_, e7⟩
      show upd cx.2.2.2.1 a _ a = upd cm.2.2.2.1 a _ a
      rw [pk_us, pk_us]
    · exact zp_keep (x := cx) (m := cm) rfl rfl rfl (pk_un e) (fun _ _ => rfl) rfl rfl rfl (pk_un e) (fun _ _ => rfl) (h1.1 a ha)
  · rw [if_neg hi, if_neg hi]
    exact ⟨rfl, hR⟩
theorem zp_remove {x m : zs_X} (h : zp_R x m) (o : Int32) : (zs_remove x o).1 = (zm_remove m o).1 ∧ zp_R (zs_remove x o).2 (zm_remove m o).2 := by
  have hR := h
  obtain ⟨up, cx, ox⟩ := x
  obtain ⟨up2, cm, om⟩ := m
  obtain ⟨rfl, h1, h2⟩ := h
  simp only [zs_remove, zm_remove]
  rw [← zp_is h1]
  by_cases hi : zs_is up cx.1 o = true
  · rw [if_pos hi, if_pos hi]
    obtain ⟨j, hj, rfl, -, ht⟩ := zs_is_t hi
    rw [nI_clamp (by omega)]
    refine ⟨rfl, rfl, ⟨fun a ha => ?_, zp_d_del h1.2⟩, h2⟩
    by_cases e : a = j
    · subst e
      exact Or.inl ⟨pk_us, pk_us, pk_us⟩
    · exact zp_keep (x := cx) (m := cm) (pk_un e) rfl (pk_un e) rfl (fun _ _ => rfl) (pk_un e) rfl rfl rfl (fun _ _ => rfl) (h1.1 a ha)
  · rw [if_neg hi, if_neg hi]
    exact ⟨rfl, hR⟩
theorem zp_rename {x m : zs_X} (h : zp_R x m) (o n : Int32) : (zs_rename x o n).1 = (zm_rename m o n).1 ∧ zp_R (zs_rename x o n).2 (zm_rename m o n).2 := by
  have hR := h
  obtain ⟨up, cx, ox⟩ := x
  obtain ⟨up2, cm, om⟩ := m
  obtain ⟨rfl, h1, h2⟩ := h
  simp only [zs_rename, zm_rename]
  rw [← zp_is h1]
  by_cases hi : zs_is up cx.1 o = true
  · obtain ⟨j, hj, rfl, hup, ht⟩ := zs_is_t hi
    subst hup
    by_cases hc : zs_nam n = true ∧ zs_num cx.1 n 24 0 = -1
    · rw [if_pos (by simp [hi, zs_fr, hc.1, hc.2]), if_pos ⟨hi, hc.1, (zp_fr h1 hc.1).mpr hc.2⟩, nI_clamp (by omega)]
      obtain ⟨k, hk, rfl⟩ := zp_nam hc.1
      obtain ⟨n0, q, hn, hq, e1, e2, e3, e4, e5, e6, e7⟩ := zp_o h1 hj ht
      refine ⟨rfl, rfl, ⟨fun a ha => ?_, zp_d_new h1.2 (fun t ht => zs_num_some 24 0 (by omega) hc.2 t (by omega) (by omega))⟩, h2⟩
      by_cases e : a = j
      · subst e
        refine Or.inr ⟨k, q, hk, hq, pk_us, ?_, e3, e4, e5, e6, e7⟩
        show upd cm.1 a (nI k + 1) a = _
        rw [pk_us, nI_1]
      · exact zp_keep (x := cx) (m := cm) (pk_un e) rfl rfl rfl (fun _ _ => rfl) (pk_un e) rfl rfl rfl (fun _ _ => rfl) (h1.1 a ha)
    · rw [if_neg (fun z => hc (by simpa [hi, zs_fr] using z)), if_neg (fun z => hc ⟨z.2.1, (zp_fr h1 z.2.1).mp z.2.2⟩)]
      exact ⟨rfl, hR⟩
  · rw [if_neg (fun z => hi (by simp only [Bool.and_eq_true] at z; exact z.1)), if_neg (fun z => hi z.1)]
    exact ⟨rfl, hR⟩
theorem zs_cp_at {f g : zs_F} {n j : Nat} (h : j < n) : zs_cp f g n j = f j := if_pos h
theorem zs_cz_at {f g : zs_F} {n j : Nat} (h : j < n) : zs_cz f g n j = vp_nar .boolean (f j) := if_pos h
theorem zp_copy {x m y n : zs_C} (h : zp_1 x m) : zp_1 (zs_copy x y) (zm_copy m n) := by
  refine ⟨fun o ho => ?_, fun o t ho ht h1 h2 => ?_⟩
  · rcases h.1 o ho with ⟨h1, h2, h3⟩ | ⟨k, q, hk, hq, h1, h2, h3, h4, h5, h6, h7⟩
    · exact Or.inl ⟨(zs_cp_at ho).trans h1, (zs_cp_at ho).trans h2, (zs_cp_at ho).trans h3⟩
    · refine Or.inr ⟨k, q, hk, hq, (zs_cp_at ho).trans h1, (zs_cp_at ho).trans h2, ?_, (zs_cp_at ho).trans h4, (zs_cp_at ho).trans h5, ?_, fun i hi => ?_⟩
      · exact ((zs_cp_at ho).trans h3).trans (zs_cp_at ho).symm
      · exact ((zs_cz_at ho).trans (congrArg _ h6)).trans (zs_cz_at ho).symm
      · exact ((sb_cpy0 (by omega)).trans (h7 i hi)).trans (zs_cp_at (by omega)).symm
  · have e1 : zs_cp x.1 y.1 24 o = x.1 o := zs_cp_at ho
    have e2 : zs_cp x.1 y.1 24 t = x.1 t := zs_cp_at ht
    have h1 : ¬ zs_cp x.1 y.1 24 o = -1 := h1
    have h2 : zs_cp x.1 y.1 24 o = zs_cp x.1 y.1 24 t := h2
    rw [e1] at h1
    rw [e1, e2] at h2
    exact h.2 o t ho ht h1 h2
theorem zp_sync {x m : zs_X} (h : zp_R x m) : (zs_sync x).1 = (zm_sync m).1 ∧ zp_R (zs_sync x).2 (zm_sync m).2 := by
  have hR := h
  obtain ⟨up, cx, ox⟩ := x
  obtain ⟨up2, cm, om⟩ := m
  obtain ⟨rfl, h1, h2⟩ := h
  simp only [zs_sync, zm_sync]
  split
  · exact ⟨rfl, rfl, h1, zp_copy h1⟩
  · exact ⟨rfl, hR⟩
theorem zp_cut {x m : zs_X} (h : zp_R x m) : (zs_cut x).1 = (zm_cut m).1 ∧ zp_R (zs_cut x).2 (zm_cut m).2 := by
  obtain ⟨up, cx, ox⟩ := x
  obtain ⟨up2, cm, om⟩ := m
  obtain ⟨rfl, h1, h2⟩ := h
  cases up with
  | false => exact ⟨rfl, rfl, h1, h2⟩
  | true => exact ⟨rfl, rfl, h1, h2⟩
theorem zp_mount {x m : zs_X} (h : zp_R x m) : (zs_mount x).1 = (zm_mount m).1 ∧ zp_R (zs_mount x).2 (zm_mount m).2 := by
  have hR := h
  obtain ⟨up, cx, ox⟩ := x
  obtain ⟨up2, cm, om⟩ := m
  obtain ⟨rfl, h1, h2⟩ := h
  simp only [zs_mount, zm_mount]
  split
  · exact ⟨rfl, hR⟩
  · exact ⟨rfl, rfl, zp_copy h2, h2⟩
theorem zp_ok1 {x m : zs_X} (h : zp_R x m) : zs_ok x := by
  intro j hj
  rcases h.2.1.1 j hj with ⟨-, -, h3⟩ | ⟨k, q, -, hq, -, -, -, h4, -⟩
  · exact ⟨0, by omega, h3⟩
  · exact ⟨q, hq, h4⟩
theorem zp_ok2 {x m : zs_X} (h : zp_R x m) : zm_ok m := by
  intro j hj ht
  rcases h.2.1.1 j hj with ⟨-, h2, -⟩ | ⟨k, q, -, hq, -, -, -, -, h5, -⟩
  · exact absurd (by rw [h2]; decide) ht
  · exact ⟨q, hq, h5⟩
/-- a new shelf, a new reference -/
def zs_0 : zs_X := (true, (zs_fl (fun _ => 0) (-1) 24, fun _ => 0, fun _ => 0, fun _ => 0, fun _ => 0), (zs_fl (fun _ => 0) (-1) 24, fun _ => 0, fun _ => 0, fun _ => 0, fun _ => 0))
def zm_0 : zs_X := (true, (fun _ => 0, fun _ => 0, fun _ => 0, fun _ => 0, fun _ => 0), (fun _ => 0, fun _ => 0, fun _ => 0, fun _ => 0, fun _ => 0))
theorem zp_00 : zp_1 (zs_fl (fun _ => 0) (-1) 24, fun _ => 0, fun _ => 0, fun _ => 0, fun _ => 0) (fun _ => 0, fun _ => 0, fun _ => 0, fun _ => 0, fun _ => 0) := by
  refine ⟨fun o ho => Or.inl ⟨if_pos ho, rfl, rfl⟩, fun o t ho ht h1 _ => absurd (if_pos ho) h1⟩
theorem zp_0 : zp_R zs_0 zm_0 := ⟨rfl, zp_00, zp_00⟩
end
section
set_option maxHeartbeats 4000000 in
set_option maxRecDepth 100000 in
theorem zc_J_fill (l : Launch) (dC : Nat → ClassId) (dI : Nat → Nat → Nat) (cI cZ : ClassId) (q : Nat) (f : zs_F) (sz : Nat) (x : Int32) : Met l zy_J_fill (.code zy_J_fill zb_J_fill 4 none :: zs_w) ({ frames := 0, cells := 0, slots := 0, locals := 0 }) (va_Pc [.ref q, .int x] (zs_s dC dI cI cZ sz [(q, .inl (cI, 24, .inl f))])) (va_Qv (fun g : zs_F => g = zs_fl f x 24) (zs_e dC dI (fun g => [(q, .inl (cI, 24, .inl g))]) (va_A ([(q, .inl (cI, 24, .inl f))]) sz)) (va_A ([(q, .inl (cI, 24, .inl f))]) sz)) 0 0 (va_A ([(q, .inl (cI, 24, .inl f))]) sz) := by
  refine Met.ofW (cc := zb_J_fill) (maxL := 4) (ret := none) (by decide) rfl ?_
  intro p e s m args below meth c s₁ B hml hv
  obtain ⟨rfl, hsz, hP, hk, hD0⟩ := hv
  have hx := B.exec
  have hb := B.bytes
  have hr := B.returns
  have hts := atoms_spec (ws := .code zy_J_fill zb_J_fill 4 none :: zs_w) B.pre
  have hz : ∀ w ∈ zs_w, w.before _ s = true := fun w h => hts w (List.mem_cons_of_mem _ h)
  have hown : s.vm.findClass "java/util/Arrays" = some m.cls := findClass_of_methodNamed B.named
  have hlocks := B.notSynchronized
  subst hsz
  have hD := hD0.self (sz := s.heap.size)
  generalize hAe : va_A ([(q, .inl (cI, 24, .inl f))]) s.heap.size = A at hD ⊢
  have hA : ∀ q : Nat, s.heap.size ≤ q → A q := fun q h => by rw [← hAe]; exact Or.inr h
  have hS : va_S A s.heap s.heap [] := va_S.rf
  have hP : va_P (dC, dI) zs_cl [(q, .inl (cI, 24, .inl f))] s.heap := hP
  have hD : va_D A [(q, .inl (cI, 24, .inl f))] := hD
  have hl := lv_entry ([.ref q, .int x]) (n := 4) (Nat.le_of_ble_eq_true rfl)
  rw [lg_entry_eq]
  generalize (lg_sl ([.ref q, .int x]) ++ List.replicate (4 - (lg_sl ([.ref q, .int x])).length) Slot.unset).toArray = ls at hl ⊢
  have hl : lv_has ls 4 [(0, .ref q), (1, .int x)] := hl
  refine lv_iconst (v := 0) hx hb zd_J_fill_0 (by decide) ?_
  refine lv_istore_n (lv' := [(2, .int 0), (0, .ref q), (1, .int x)]) hx hb zd_J_fill_1 rfl hl (by decide) rfl (fun ls hl => ?_)
  refine lv_aload_n hx hb zd_J_fill_2 rfl (lv_at hl 1 rfl) ?_
  refine va_alen hx hb hk.1 hP 0 0 rfl rfl (v := nI 24) rfl zd_J_fill_3 ?_
  refine lv_istore_n (lv' := [(3, .int (nI 24)), (2, .int 0), (0, .ref q), (1, .int x)]) hx hb zd_J_fill_4 rfl hl (by decide) rfl (fun ls hl => ?_)
  refine zl_w (N := 24) (α := Unit) (fun kk ii xx ls H locs => lv_has ls 4 [(2, .int (nI ii)), (3, .int (nI 24)), (0, .ref q), (1, .int x)] ∧ va_P (dC, dI) zs_cl [(q, .inl (cI, 24, .inl (zs_fl f x ii)))] H ∧ va_D A [(q, .inl (cI, 24, .inl (zs_fl f x ii)))] ∧ va_S A s.heap H locs) (fun k1 i1 x1 ls H locs e1 hv ih1 => ?_) (fun x1 ls H locs hv => ?_) 24 0 () ls s.heap _ rfl ⟨lv_sub hl [1, 0, 2, 3] rfl, by rw [zs_fl_0]; exact hP, by rw [zs_fl_0]; exact hD, hS⟩
  · obtain ⟨hl, hP, hD, hS⟩ := hv
    have hl : lv_has ls 4 [(2, .int (nI i1)), (3, .int (nI 24)), (0, .ref q), (1, .int x)] := hl
    have hP : va_P (dC, dI) zs_cl [(q, .inl (cI, 24, .inl (zs_fl f x i1)))] H := hP
    have hD : va_D A [(q, .inl (cI, 24, .inl (zs_fl f x i1)))] := hD
    have hlt1 : i1 < 24 := by omega
    refine lv_iload_n hx hb zd_J_fill_5 rfl (lv_at hl 0 rfl) ?_
    refine lv_iload_n hx hb zd_J_fill_6 rfl (lv_at hl 1 rfl) ?_
    refine zj_in (tgt := 20) (n := 24) hx hb zd_J_fill_7 rfl rfl hlt1 (by decide) ?_
    refine lv_aload_n hx hb zd_J_fill_10 rfl (lv_at hl 2 rfl) ?_
    refine lv_iload_n hx hb zd_J_fill_11 rfl (lv_at hl 0 rfl) ?_
    refine lv_iload_n hx hb zd_J_fill_12 rfl (lv_at hl 3 rfl) ?_
    refine zi_ast hx hb hk hP hD hS 0 (j := i1) rfl (by omega) (by decide) zd_J_fill_13 (fun H locs hP hD hS => ?_)
    have hP : va_P (dC, dI) zs_cl [(q, .inl (cI, 24, .inl (upd (zs_fl f x i1) i1 x)))] H := hP
    have hD : va_D A [(q, .inl (cI, 24, .inl (upd (zs_fl f x i1) i1 x)))] := hD
    refine lv_iinc (k := 0) (v := nI (i1 + 1)) (lv' := [(2, .int (nI (i1 + 1))), (3, .int (nI 24)), (0, .ref q), (1, .int x)]) hx hb zd_J_fill_14 hl rfl (zs_inc _) (by decide) rfl (fun ls hl => ?_)
    refine lv_goto (tgt := 5) hx hb zd_J_fill_17 rfl ?_
    rw [zs_fl_s f x i1] at hP hD
    exact ih1 () ls H locs ⟨lv_sub hl [0, 1, 2, 3] rfl, hP, hD, hS⟩
  · obtain ⟨hl, hP, hD, hS⟩ := hv
    have hl : lv_has ls 4 [(2, .int (nI 24)), (3, .int (nI 24)), (0, .ref q), (1, .int x)] := hl
    have hP : va_P (dC, dI) zs_cl [(q, .inl (cI, 24, .inl (zs_fl f x 24)))] H := hP
    have hD : va_D A [(q, .inl (cI, 24, .inl (zs_fl f x 24)))] := hD
    refine lv_iload_n hx hb zd_J_fill_5 rfl (lv_at hl 0 rfl) ?_
    refine lv_iload_n hx hb zd_J_fill_6 rfl (lv_at hl 1 rfl) ?_
    refine zj_out (tgt := 20) (n := 24) (i := 24) hx hb zd_J_fill_7 rfl rfl (Nat.le_refl _) (by decide) ?_
    exact zw_vret (zs_fl f x 24) hx hb hr hlocks zd_J_fill_20 rfl hP hD hS
set_option maxHeartbeats 4000000 in
set_option maxRecDepth 100000 in
theorem zc_C_init (l : Launch) (dC : Nat → ClassId) (dI : Nat → Nat → Nat) (cI cZ : ClassId) (q0 sz : Nat) : Met l zy_C_init (.code zy_C_init zb_C_init 1 none :: zs_w) ({ frames := 1, cells := 5, slots := 1632, locals := 23 }) (va_Pc [.ref q0] (zs_s dC dI cI cZ sz [(q0, .inr (1, [.null, .null, .null, .null, .null]))])) (va_Qv (fun _ : Nat × Nat × Nat × Nat × Nat => True) (zs_e dC dI (fun v : Nat × Nat × Nat × Nat × Nat => zs_wC cI cZ q0 v.1 v.2.1 v.2.2.1 v.2.2.2.1 v.2.2.2.2 (zs_fl (fun _ => 0) (-1) 24, fun _ => 0, fun _ => 0, fun _ => 0, fun _ => 0)) (va_A ([(q0, .inr (1, [.null, .null, .null, .null, .null]))]) sz)) (va_A ([(q0, .inr (1, [.null, .null, .null, .null, .null]))]) sz)) 5 1632 (va_A ([(q0, .inr (1, [.null, .null, .null, .null, .null]))]) sz) := by
  refine Met.ofW (cc := zb_C_init) (maxL := 1) (ret := none) (by decide) rfl ?_
  intro p e s m args below meth c s₁ B hml hv
  obtain ⟨rfl, hsz, hP, hk, hD0⟩ := hv
  have hx := B.exec
  have hb := B.bytes
  have hr := B.returns
  have hts := atoms_spec (ws := .code zy_C_init zb_C_init 1 none :: zs_w) B.pre
  have hz : ∀ w ∈ zs_w, w.before _ s = true := fun w h => hts w (List.mem_cons_of_mem _ h)
  have hown : s.vm.findClass "ZoneShelf$Contents" = some m.cls := findClass_of_methodNamed B.named
  have hlocks := B.notSynchronized
  have hin : meth.name = "<init>" := (name_of_methodNamed B.named B.method).1
  subst hsz
  have hD := hD0.self (sz := s.heap.size)
  generalize hAe : va_A ([(q0, .inr (1, [.null, .null, .null, .null, .null]))]) s.heap.size = A at hD ⊢
  have hA : ∀ q : Nat, s.heap.size ≤ q → A q := fun q h => by rw [← hAe]; exact Or.inr h
  have hS : va_S A s.heap s.heap [] := va_S.rf
  have hP : va_P (dC, dI) zs_cl [(q0, .inr (1, [.null, .null, .null, .null, .null]))] s.heap := hP
  have hD : va_D A [(q0, .inr (1, [.null, .null, .null, .null, .null]))] := hD
  have hl := lv_entry ([.ref q0]) (n := 1) (Nat.le_of_ble_eq_true rfl)
  rw [lg_entry_eq]
  generalize (lg_sl ([.ref q0]) ++ List.replicate (1 - (lg_sl ([.ref q0])).length) Slot.unset).toArray = ls at hl ⊢
  have hl : lv_has ls 1 [(0, .ref q0)] := hl
  refine lv_aload_n hx hb zd_C_init_0 rfl (lv_at hl 0 rfl) ?_
  refine W.objInit hx hb hown (hz _ zq_36) (hz _ zq_30) (hz _ zq_31) rfl (by rw [hml]; exact hl.1) rfl zd_C_init_1 (Nat.le_of_ble_eq_true rfl) (Nat.le_of_ble_eq_true rfl) ?_
  refine W.eq (g2 := F0 m 4 ls []) rfl ?_
  refine lv_aload_n hx hb zd_C_init_4 rfl (lv_at hl 0 rfl) ?_
  refine lv_bipush (v := 24) hx hb zd_C_init_5 (by decide) ?_
  refine zi_newi (N := 24) hx hb hz zq_50 hk hP hD hS hA (by decide) (by decide) (by decide) (Nat.le_of_ble_eq_true rfl) (Nat.le_of_ble_eq_true rfl) zd_C_init_7 (fun q1 H hP hD hS => ?_)
  have hP : va_P (dC, dI) zs_cl [(q0, .inr (1, [.null, .null, .null, .null, .null])), (q1, .inl (cI, 24, .inl (fun _ => 0)))] H := hP
  have hD : va_D A [(q0, .inr (1, [.null, .null, .null, .null, .null])), (q1, .inl (cI, 24, .inl (fun _ => 0)))] := hD
  refine va_putF (D := (dC, dI)) (ci := 1) (v := .ref q1) (ty := (.array .int)) (C := "ZoneShelf$Contents") (T := zs_T_C) (N := 5) hx hb hz zs_in_C zs_t_C zs_tok_C zs_nok_C hown hk.1 hP hD hS 0 rfl rfl 0 (by decide) (hz _ zq_40) (fun _ h9 => h9) rfl hin rfl (by decide +kernel) rfl rfl (Nat.le_of_ble_eq_true rfl) zd_C_init_9 (fun H locs hP hD hS => ?_)
  have hP : va_P (dC, dI) zs_cl [(q0, .inr (1, [.ref q1, .null, .null, .null, .null])), (q1, .inl (cI, 24, .inl (fun _ => 0)))] H := hP
  have hD : va_D A [(q0, .inr (1, [.ref q1, .null, .null, .null, .null])), (q1, .inl (cI, 24, .inl (fun _ => 0)))] := hD
  refine lv_aload_n hx hb zd_C_init_12 rfl (lv_at hl 0 rfl) ?_
  refine lv_bipush (v := 24) hx hb zd_C_init_13 (by decide) ?_
  refine zi_newi (N := 24) hx hb hz zq_50 hk hP hD hS hA (by decide) (by decide) (by decide) (Nat.le_of_ble_eq_true rfl) (Nat.le_of_ble_eq_true rfl) zd_C_init_15 (fun q2 H hP hD hS => ?_)
  have hP : va_P (dC, dI) zs_cl [(q0, .inr (1, [.ref q1, .null, .null, .null, .null])), (q1, .inl (cI, 24, .inl (fun _ => 0))), (q2, .inl (cI, 24, .inl (fun _ => 0)))] H := hP
  have hD : va_D A [(q0, .inr (1, [.ref q1, .null, .null, .null, .null])), (q1, .inl (cI, 24, .inl (fun _ => 0))), (q2, .inl (cI, 24, .inl (fun _ => 0)))] := hD
  refine va_putF (D := (dC, dI)) (ci := 1) (v := .ref q2) (ty := (.array .int)) (C := "ZoneShelf$Contents") (T := zs_T_C) (N := 5) hx hb hz zs_in_C zs_t_C zs_tok_C zs_nok_C hown hk.1 hP hD hS 0 rfl rfl 1 (by decide) (hz _ zq_41) (fun _ h9 => h9) rfl hin rfl (by decide +kernel) rfl rfl (Nat.le_of_ble_eq_true rfl) zd_C_init_17 (fun H locs hP hD hS => ?_)
  have hP : va_P (dC, dI) zs_cl [(q0, .inr (1, [.ref q1, .ref q2, .null, .null, .null])), (q1, .inl (cI, 24, .inl (fun _ => 0))), (q2, .inl (cI, 24, .inl (fun _ => 0)))] H := hP
  have hD : va_D A [(q0, .inr (1, [.ref q1, .ref q2, .null, .null, .null])), (q1, .inl (cI, 24, .inl (fun _ => 0))), (q2, .inl (cI, 24, .inl (fun _ => 0)))] := hD
  refine lv_aload_n hx hb zd_C_init_20 rfl (lv_at hl 0 rfl) ?_
  refine lv_bipush (v := 24) hx hb zd_C_init_21 (by decide) ?_
  refine zi_newi (N := 24) hx hb hz zq_50 hk hP hD hS hA (by decide) (by decide) (by decide) (Nat.le_of_ble_eq_true rfl) (Nat.le_of_ble_eq_true rfl) zd_C_init_23 (fun q3 H hP hD hS => ?_)
  have hP : va_P (dC, dI) zs_cl [(q0, .inr (1, [.ref q1, .ref q2, .null, .null, .null])), (q1, .inl (cI, 24, .inl (fun _ => 0))), (q2, .inl (cI, 24, .inl (fun _ => 0))), (q3, .inl (cI, 24, .inl (fun _ => 0)))] H := hP
  have hD : va_D A [(q0, .inr (1, [.ref q1, .ref q2, .null, .null, .null])), (q1, .inl (cI, 24, .inl (fun _ => 0))), (q2, .inl (cI, 24, .inl (fun _ => 0))), (q3, .inl (cI, 24, .inl (fun _ => 0)))] := hD
  refine va_putF (D := (dC, dI)) (ci := 1) (v := .ref q3) (ty := (.array .int)) (C := "ZoneShelf$Contents") (T := zs_T_C) (N := 5) hx hb hz zs_in_C zs_t_C zs_tok_C zs_nok_C hown hk.1 hP hD hS 0 rfl rfl 2 (by decide) (hz _ zq_42) (fun _ h9 => h9) rfl hin rfl (by decide +kernel) rfl rfl (Nat.le_of_ble_eq_true rfl) zd_C_init_25 (fun H locs hP hD hS => ?_)
  have hP : va_P (dC, dI) zs_cl [(q0, .inr (1, [.ref q1, .ref q2, .ref q3, .null, .null])), (q1, .inl (cI, 24, .inl (fun _ => 0))), (q2, .inl (cI, 24, .inl (fun _ => 0))), (q3, .inl (cI, 24, .inl (fun _ => 0)))] H := hP
  have hD : va_D A [(q0, .inr (1, [.ref q1, .ref q2, .ref q3, .null, .null])), (q1, .inl (cI, 24, .inl (fun _ => 0))), (q2, .inl (cI, 24, .inl (fun _ => 0))), (q3, .inl (cI, 24, .inl (fun _ => 0)))] := hD
  refine lv_aload_n hx hb zd_C_init_28 rfl (lv_at hl 0 rfl) ?_
  refine lv_bipush (v := 24) hx hb zd_C_init_29 (by decide) ?_
  refine zi_newz (N := 24) hx hb hz zq_51 hk hP hD hS hA (by decide) (by decide) (by decide) (Nat.le_of_ble_eq_true rfl) (Nat.le_of_ble_eq_true rfl) zd_C_init_31 (fun q4 H hP hD hS => ?_)
  have hP : va_P (dC, dI) zs_cl [(q0, .inr (1, [.ref q1, .ref q2, .ref q3, .null, .null])), (q1, .inl (cI, 24, .inl (fun _ => 0))), (q2, .inl (cI, 24, .inl (fun _ => 0))), (q3, .inl (cI, 24, .inl (fun _ => 0))), (q4, .inl (cZ, 24, .inl (fun _ => 0)))] H := hP
  have hD : va_D A [(q0, .inr (1, [.ref q1, .ref q2, .ref q3, .null, .null])), (q1, .inl (cI, 24, .inl (fun _ => 0))), (q2, .inl (cI, 24, .inl (fun _ => 0))), (q3, .inl (cI, 24, .inl (fun _ => 0))), (q4, .inl (cZ, 24, .inl (fun _ => 0)))] := hD
  refine va_putF (D := (dC, dI)) (ci := 1) (v := .ref q4) (ty := (.array .boolean)) (C := "ZoneShelf$Contents") (T := zs_T_C) (N := 5) hx hb hz zs_in_C zs_t_C zs_tok_C zs_nok_C hown hk.1 hP hD hS 0 rfl rfl 3 (by decide) (hz _ zq_43) (fun _ h9 => h9) rfl hin rfl (by decide +kernel) rfl rfl (Nat.le_of_ble_eq_true rfl) zd_C_init_33 (fun H locs hP hD hS => ?_)
  have hP : va_P (dC, dI) zs_cl [(q0, .inr (1, [.ref q1, .ref q2, .ref q3, .ref q4, .null])), (q1, .inl (cI, 24, .inl (fun _ => 0))), (q2, .inl (cI, 24, .inl (fun _ => 0))), (q3, .inl (cI, 24, .inl (fun _ => 0))), (q4, .inl (cZ, 24, .inl (fun _ => 0)))] H := hP
  have hD : va_D A [(q0, .inr (1, [.ref q1, .ref q2, .ref q3, .ref q4, .null])), (q1, .inl (cI, 24, .inl (fun _ => 0))), (q2, .inl (cI, 24, .inl (fun _ => 0))), (q3, .inl (cI, 24, .inl (fun _ => 0))), (q4, .inl (cZ, 24, .inl (fun _ => 0)))] := hD
  refine lv_aload_n hx hb zd_C_init_36 rfl (lv_at hl 0 rfl) ?_
  refine lv_sipush (v := 1536) hx hb zd_C_init_37 (by decide) ?_
  refine zi_newi (N := 1536) hx hb hz zq_50 hk hP hD hS hA (by decide) (by decide) (by decide) (Nat.le_of_ble_eq_true rfl) (Nat.le_of_ble_eq_true rfl) zd_C_init_40 (fun q5 H hP hD hS => ?_)
  have hP : va_P (dC, dI) zs_cl [(q0, .inr (1, [.ref q1, .ref q2, .ref q3, .ref q4, .null])), (q1, .inl (cI, 24, .inl (fun _ => 0))), (q2, .inl (cI, 24, .inl (fun _ => 0))), (q3, .inl (cI, 24, .inl (fun _ => 0))), (q4, .inl (cZ, 24, .inl (fun _ => 0))), (q5, .inl (cI, 1536, .inl (fun _ => 0)))] H := hP
  have hD : va_D A [(q0, .inr (1, [.ref q1, .ref q2, .ref q3, .ref q4, .null])), (q1, .inl (cI, 24, .inl (fun _ => 0))), (q2, .inl (cI, 24, .inl (fun _ => 0))), (q3, .inl (cI, 24, .inl (fun _ => 0))), (q4, .inl (cZ, 24, .inl (fun _ => 0))), (q5, .inl (cI, 1536, .inl (fun _ => 0)))] := hD
  refine va_putF (D := (dC, dI)) (ci := 1) (v := .ref q5) (ty := (.array .int)) (C := "ZoneShelf$Contents") (T := zs_T_C) (N := 5) hx hb hz zs_in_C zs_t_C zs_tok_C zs_nok_C hown hk.1 hP hD hS 0 rfl rfl 4 (by decide) (hz _ zq_44) (fun _ h9 => h9) rfl hin rfl (by decide +kernel) rfl rfl (Nat.le_of_ble_eq_true rfl) zd_C_init_42 (fun H locs hP hD hS => ?_)
  have hP : va_P (dC, dI) zs_cl [(q0, .inr (1, [.ref q1, .ref q2, .ref q3, .ref q4, .ref q5])), (q1, .inl (cI, 24, .inl (fun _ => 0))), (q2, .inl (cI, 24, .inl (fun _ => 0))), (q3, .inl (cI, 24, .inl (fun _ => 0))), (q4, .inl (cZ, 24, .inl (fun _ => 0))), (q5, .inl (cI, 1536, .inl (fun _ => 0)))] H := hP
  have hD : va_D A [(q0, .inr (1, [.ref q1, .ref q2, .ref q3, .ref q4, .ref q5])), (q1, .inl (cI, 24, .inl (fun _ => 0))), (q2, .inl (cI, 24, .inl (fun _ => 0))), (q3, .inl (cI, 24, .inl (fun _ => 0))), (q4, .inl (cZ, 24, .inl (fun _ => 0))), (q5, .inl (cI, 1536, .inl (fun _ => 0)))] := hD
  refine lv_aload_n hx hb zd_C_init_45 rfl (lv_at hl 0 rfl) ?_
  refine va_get (D := (dC, dI)) (ci := 1) (v := .ref q1) (C := "ZoneShelf$Contents") (T := zs_T_C) (N := 5) hx hb hz zs_in_C hown hk.1 hP 0 rfl rfl 0 (by decide) (hz _ zq_40) (fun _ h9 => h9) rfl zd_C_init_46 ?_
  refine lv_iconst (v := (-1)) hx hb zd_C_init_49 (by decide) ?_
  refine zc_wS (rest := []) (wr := [(q0, .inr (1, [.ref q1, .ref q2, .ref q3, .ref q4, .ref q5])), (q2, .inl (cI, 24, .inl (fun _ => 0))), (q3, .inl (cI, 24, .inl (fun _ => 0))), (q4, .inl (cZ, 24, .inl (fun _ => 0))), (q5, .inl (cI, 1536, .inl (fun _ => 0)))]) [.ref q1, .int (-1)] hx hb hml hown hz (zc_J_fill l dC dI cI cZ q1 (fun _ => 0) H.size (-1)) zf_J_fill rfl rfl zq_37 zq_38 ⟨Nat.le_of_ble_eq_true rfl, Nat.le_of_ble_eq_true rfl⟩ hk hP hD hS hA [1] [0, 2, 3, 4, 5] rfl rfl (by decide) (by decide) (by decide) rfl hl.1 rfl (Nat.le_of_ble_eq_true rfl) zd_C_init_50 ⟨Nat.le_of_ble_eq_true rfl, Nat.le_of_ble_eq_true rfl⟩ (fun g H locs eg hP hD hS => ?_)
  obtain rfl : g = zs_fl (fun _ => 0) (-1) 24 := eg
  have hP : va_P (dC, dI) zs_cl [(q0, .inr (1, [.ref q1, .ref q2, .ref q3, .ref q4, .ref q5])), (q2, .inl (cI, 24, .inl (fun _ => 0))), (q3, .inl (cI, 24, .inl (fun _ => 0))), (q4, .inl (cZ, 24, .inl (fun _ => 0))), (q5, .inl (cI, 1536, .inl (fun _ => 0))), (q1, .inl (cI, 24, .inl (zs_fl (fun _ => 0) (-1) 24)))] H := hP
  have hD : va_D A [(q0, .inr (1, [.ref q1, .ref q2, .ref q3, .ref q4, .ref q5])), (q2, .inl (cI, 24, .inl (fun _ => 0))), (q3, .inl (cI, 24, .inl (fun _ => 0))), (q4, .inl (cZ, 24, .inl (fun _ => 0))), (q5, .inl (cI, 1536, .inl (fun _ => 0))), (q1, .inl (cI, 24, .inl (zs_fl (fun _ => 0) (-1) 24)))] := hD
  refine W.widen (k := 5) (n := 1632) (Nat.le_of_ble_eq_true rfl) (Nat.le_of_ble_eq_true rfl) ?_
  exact zw_vret (q1, q2, q3, q4, q5) hx hb hr hlocks zd_C_init_53 trivial (hP.sub [0, 5, 1, 2, 3, 4] rfl) (hD.sub [0, 5, 1, 2, 3, 4] (by decide) rfl) hS
set_option maxHeartbeats 4000000 in
set_option maxRecDepth 100000 in
theorem zc_X_init (l : Launch) (dC : Nat → ClassId) (dI : Nat → Nat → Nat) (cI cZ : ClassId) (h0 sz : Nat) : Met l zy_X_init (.code zy_X_init zb_X_init 1 none :: zs_w) ({ frames := 2, cells := 12, slots := 3274, locals := 43 }) (va_Pc [.ref h0] (zs_s dC dI cI cZ sz [(h0, .inr (0, [.null, .null, .int 0]))])) (va_Qv (fun v : Nat → Nat => v 0 = h0) (zs_e dC dI (fun v : Nat → Nat => zs_wX cI cZ v zs_0) (va_A ([(h0, .inr (0, [.null, .null, .int 0]))]) sz)) (va_A ([(h0, .inr (0, [.null, .null, .int 0]))]) sz)) 12 3274 (va_A ([(h0, .inr (0, [.null, .null, .int 0]))]) sz) := by
  refine Met.ofW (cc := zb_X_init) (maxL := 1) (ret := none) (by decide) rfl ?_
  intro p e s m args below meth c s₁ B hml hv
  obtain ⟨rfl, hsz, hP, hk, hD0⟩ := hv
  have hx := B.exec
  have hb := B.bytes
  have hr := B.returns
  have hts := atoms_spec (ws := .code zy_X_init zb_X_init 1 none :: zs_w) B.pre
  have hz : ∀ w ∈ zs_w, w.before _ s = true := fun w h => hts w (List.mem_cons_of_mem _ h)
  have hown : s.vm.findClass "ZoneShelf" = some m.cls := findClass_of_methodNamed B.named
  have hlocks := B.notSynchronized
  have hin : meth.name = "<init>" := (name_of_methodNamed B.named B.method).1
  subst hsz
  have hD := hD0.self (sz := s.heap.size)
  generalize hAe : va_A ([(h0, .inr (0, [.null, .null, .int 0]))]) s.heap.size = A at hD ⊢
  have hA : ∀ q : Nat, s.heap.size ≤ q → A q := fun q h => by rw [← hAe]; exact Or.inr h
  have hS : va_S A s.heap s.heap [] := va_S.rf
  have hP : va_P (dC, dI) zs_cl [(h0, .inr (0, [.null, .null, .int 0]))] s.heap := hP
  have hD : va_D A [(h0, .inr (0, [.null, .null, .int 0]))] := hD
  have hl := lv_entry ([.ref h0]) (n := 1) (Nat.le_of_ble_eq_true rfl)
  rw [lg_entry_eq]
  generalize (lg_sl ([.ref h0]) ++ List.replicate (1 - (lg_sl ([.ref h0])).length) Slot.unset).toArray = ls at hl ⊢
  have hl : lv_has ls 1 [(0, .ref h0)] := hl
  refine lv_aload_n hx hb zd_X_init_0 rfl (lv_at hl 0 rfl) ?_
  refine W.objInit hx hb hown (hz _ zq_29) (hz _ zq_30) (hz _ zq_31) rfl (by rw [hml]; exact hl.1) rfl zd_X_init_1 (Nat.le_of_ble_eq_true rfl) (Nat.le_of_ble_eq_true rfl) ?_
  refine W.eq (g2 := F0 m 4 ls []) rfl ?_
  refine lv_aload_n hx hb zd_X_init_4 rfl (lv_at hl 0 rfl) ?_
  refine va_new (ci := 1) (fs := [.null, .null, .null, .null, .null]) (C := "ZoneShelf$Contents") (T := zs_T_C) (N := 5) hx hb hz zs_in_C zs_t_C zs_tok_C hown (hz _ zq_32) (hz _ zq_33) (hz _ zq_19) hk.1 hP hD hS hA rfl (fun j hj => by rcases (show j = 0 ∨ j = 1 ∨ j = 2 ∨ j = 3 ∨ j = 4 by omega) with rfl | rfl | rfl | rfl | rfl <;> rfl) (Nat.le_of_ble_eq_true rfl) (Nat.le_of_ble_eq_true rfl) zd_X_init_5 (fun c1 H hP hD hS => ?_)
  have hP : va_P (dC, dI) zs_cl [(h0, .inr (0, [.null, .null, .int 0])), (c1, .inr (1, [.null, .null, .null, .null, .null]))] H := hP
  have hD : va_D A [(h0, .inr (0, [.null, .null, .int 0])), (c1, .inr (1, [.null, .null, .null, .null, .null]))] := hD
  refine lv_dup hx hb zd_X_init_8 rfl ?_
  refine zc_iN (rest := [.ref c1, .ref h0]) (wr := [(h0, .inr (0, [.null, .null, .int 0]))]) hx hb hml hown hz (zc_C_init l dC dI cI cZ c1 H.size) zf_C_init rfl rfl zv_0 zq_34 rfl ⟨Nat.le_of_ble_eq_true rfl, Nat.le_of_ble_eq_true rfl⟩ hk hP hD hS hA [1] [0] rfl rfl (by decide) (by decide) (by decide) hl.1 rfl (Nat.le_of_ble_eq_true rfl) zd_X_init_9 ⟨Nat.le_of_ble_eq_true rfl, Nat.le_of_ble_eq_true rfl⟩ (fun g H locs eg hP hD hS => ?_)
  obtain ⟨n1, h1, l1, o1, w1⟩ := g
  have hP : va_P (dC, dI) zs_cl [(h0, .inr (0, [.null, .null, .int 0])), (c1, .inr (1, [.ref n1, .ref h1, .ref l1, .ref o1, .ref w1])), (n1, .inl (cI, 24, .inl (zs_fl (fun _ => 0) (-1) 24))), (h1, .inl (cI, 24, .inl (fun _ => 0))), (l1, .inl (cI, 24, .inl (fun _ => 0))), (o1, .inl (cZ, 24, .inl (fun _ => 0))), (w1, .inl (cI, 1536, .inl (fun _ => 0)))] H := hP
  have hD : va_D A [(h0, .inr (0, [.null, .null, .int 0])), (c1, .inr (1, [.ref n1, .ref h1, .ref l1, .ref o1, .ref w1])), (n1, .inl (cI, 24, .inl (zs_fl (fun _ => 0) (-1) 24))), (h1, .inl (cI, 24, .inl (fun _ => 0))), (l1, .inl (cI, 24, .inl (fun _ => 0))), (o1, .inl (cZ, 24, .inl (fun _ => 0))), (w1, .inl (cI, 1536, .inl (fun _ => 0)))] := hD
  refine va_putF (D := (dC, dI)) (ci := 0) (v := .ref c1) (ty := (.object "ZoneShelf$Contents")) (C := "ZoneShelf") (T := zs_T_X) (N := 3) hx hb hz zs_in_X zs_t_X zs_tok_X zs_nok_X hown hk.1 hP hD hS 0 rfl rfl 0 (by decide) (hz _ zq_52) (fun _ h9 => h9) rfl hin rfl (by decide +kernel) rfl rfl (Nat.le_of_ble_eq_true rfl) zd_X_init_12 (fun H locs hP hD hS => ?_)
  have hP : va_P (dC, dI) zs_cl [(h0, .inr (0, [.ref c1, .null, .int 0])), (c1, .inr (1, [.ref n1, .ref h1, .ref l1, .ref o1, .ref w1])), (n1, .inl (cI, 24, .inl (zs_fl (fun _ => 0) (-1) 24))), (h1, .inl (cI, 24, .inl (fun _ => 0))), (l1, .inl (cI, 24, .inl (fun _ => 0))), (o1, .inl (cZ, 24, .inl (fun _ => 0))), (w1, .inl (cI, 1536, .inl (fun _ => 0)))] H := hP
  have hD : va_D A [(h0, .inr (0, [.ref c1, .null, .int 0])), (c1, .inr (1, [.ref n1, .ref h1, .ref l1, .ref o1, .ref w1])), (n1, .inl (cI, 24, .inl (zs_fl (fun _ => 0) (-1) 24))), (h1, .inl (cI, 24, .inl (fun _ => 0))), (l1, .inl (cI, 24, .inl (fun _ => 0))), (o1, .inl (cZ, 24, .inl (fun _ => 0))), (w1, .inl (cI, 1536, .inl (fun _ => 0)))] := hD
  refine lv_aload_n hx hb zd_X_init_15 rfl (lv_at hl 0 rfl) ?_
  refine va_new (ci := 1) (fs := [.null, .null, .null, .null, .null]) (C := "ZoneShelf$Contents") (T := zs_T_C) (N := 5) hx hb hz zs_in_C zs_t_C zs_tok_C hown (hz _ zq_32) (hz _ zq_33) (hz _ zq_19) hk.1 hP hD hS hA rfl (fun j hj => by rcases (show j = 0 ∨ j = 1 ∨ j = 2 ∨ j = 3 ∨ j = 4 by omega) with rfl | rfl | rfl | rfl | rfl <;> rfl) (Nat.le_of_ble_eq_true rfl) (Nat.le_of_ble_eq_true rfl) zd_X_init_16 (fun c2 H hP hD hS => ?_)
  have hP : va_P (dC, dI) zs_cl [(h0, .inr (0, [.ref c1, .null, .int 0])), (c1, .inr (1, [.ref n1, .ref h1, .ref l1, .ref o1, .ref w1])), (n1, .inl (cI, 24, .inl (zs_fl (fun _ => 0) (-1) 24))), (h1, .inl (cI, 24, .inl (fun _ => 0))), (l1, .inl (cI, 24, .inl (fun _ => 0))), (o1, .inl (cZ, 24, .inl (fun _ => 0))), (w1, .inl (cI, 1536, .inl (fun _ => 0))), (c2, .inr (1, [.null, .null, .null, .null, .null]))] H := hP
  have hD : va_D A [(h0, .inr (0, [.ref c1, .null, .int 0])), (c1, .inr (1, [.ref n1, .ref h1, .ref l1, .ref o1, .ref w1])), (n1, .inl (cI, 24, .inl (zs_fl (fun _ => 0) (-1) 24))), (h1, .inl (cI, 24, .inl (fun _ => 0))), (l1, .inl (cI, 24, .inl (fun _ => 0))), (o1, .inl (cZ, 24, .inl (fun _ => 0))), (w1, .inl (cI, 1536, .inl (fun _ => 0))), (c2, .inr (1, [.null, .null, .null, .null, .null]))] := hD
  refine lv_dup hx hb zd_X_init_19 rfl ?_
  refine zc_iN (rest := [.ref c2, .ref h0]) (wr := [(h0, .inr (0, [.ref c1, .null, .int 0])), (c1, .inr (1, [.ref n1, .ref h1, .ref l1, .ref o1, .ref w1])), (n1, .inl (cI, 24, .inl (zs_fl (fun _ => 0) (-1) 24))), (h1, .inl (cI, 24, .inl (fun _ => 0))), (l1, .inl (cI, 24, .inl (fun _ => 0))), (o1, .inl (cZ, 24, .inl (fun _ => 0))), (w1, .inl (cI, 1536, .inl (fun _ => 0)))]) hx hb hml hown hz (zc_C_init l dC dI cI cZ c2 H.size) zf_C_init rfl rfl zv_0 zq_34 rfl ⟨Nat.le_of_ble_eq_true rfl, Nat.le_of_ble_eq_true rfl⟩ hk hP hD hS hA [7] [0, 1, 2, 3, 4, 5, 6] rfl rfl (by decide) (by decide) (by decide) hl.1 rfl (Nat.le_of_ble_eq_true rfl) zd_X_init_20 ⟨Nat.le_of_ble_eq_true rfl, Nat.le_of_ble_eq_true rfl⟩ (fun g H locs eg hP hD hS => ?_)
  obtain ⟨n2, h2, l2, o2, w2⟩ := g
  have hP : va_P (dC, dI) zs_cl [(h0, .inr (0, [.ref c1, .null, .int 0])), (c1, .inr (1, [.ref n1, .ref h1, .ref l1, .ref o1, .ref w1])), (n1, .inl (cI, 24, .inl (zs_fl (fun _ => 0) (-1) 24))), (h1, .inl (cI, 24, .inl (fun _ => 0))), (l1, .inl (cI, 24, .inl (fun _ => 0))), (o1, .inl (cZ, 24, .inl (fun _ => 0))), (w1, .inl (cI, 1536, .inl (fun _ => 0))), (c2, .inr (1, [.ref n2, .ref h2, .ref l2, .ref o2, .ref w2])), (n2, .inl (cI, 24, .inl (zs_fl (fun _ => 0) (-1) 24))), (h2, .inl (cI, 24, .inl (fun _ => 0))), (l2, .inl (cI, 24, .inl (fun _ => 0))), (o2, .inl (cZ, 24, .inl (fun _ => 0))), (w2, .inl (cI, 1536, .inl (fun _ => 0)))] H := hP
  have hD : va_D A [(h0, .inr (0, [.ref c1, .null, .int 0])), (c1, .inr (1, [.ref n1, .ref h1, .ref l1, .ref o1, .ref w1])), (n1, .inl (cI, 24, .inl (zs_fl (fun _ => 0) (-1) 24))), (h1, .inl (cI, 24, .inl (fun _ => 0))), (l1, .inl (cI, 24, .inl (fun _ => 0))), (o1, .inl (cZ, 24, .inl (fun _ => 0))), (w1, .inl (cI, 1536, .inl (fun _ => 0))), (c2, .inr (1, [.ref n2, .ref h2, .ref l2, .ref o2, .ref w2])), (n2, .inl (cI, 24, .inl (zs_fl (fun _ => 0) (-1) 24))), (h2, .inl (cI, 24, .inl (fun _ => 0))), (l2, .inl (cI, 24, .inl (fun _ => 0))), (o2, .inl (cZ, 24, .inl (fun _ => 0))), (w2, .inl (cI, 1536, .inl (fun _ => 0)))] := hD
  refine va_putF (D := (dC, dI)) (ci := 0) (v := .ref c2) (ty := (.object "ZoneShelf$Contents")) (C := "ZoneShelf") (T := zs_T_X) (N := 3) hx hb hz zs_in_X zs_t_X zs_tok_X zs_nok_X hown hk.1 hP hD hS 0 rfl rfl 1 (by decide) (hz _ zq_53) (fun _ h9 => h9) rfl hin rfl (by decide +kernel) rfl rfl (Nat.le_of_ble_eq_true rfl) zd_X_init_23 (fun H locs hP hD hS => ?_)
  have hP : va_P (dC, dI) zs_cl [(h0, .inr (0, [.ref c1, .ref c2, .int 0])), (c1, .inr (1, [.ref n1, .ref h1, .ref l1, .ref o1, .ref w1])), (n1, .inl (cI, 24, .inl (zs_fl (fun _ => 0) (-1) 24))), (h1, .inl (cI, 24, .inl (fun _ => 0))), (l1, .inl (cI, 24, .inl (fun _ => 0))), (o1, .inl (cZ, 24, .inl (fun _ => 0))), (w1, .inl (cI, 1536, .inl (fun _ => 0))), (c2, .inr (1, [.ref n2, .ref h2, .ref l2, .ref o2, .ref w2])), (n2, .inl (cI, 24, .inl (zs_fl (fun _ => 0) (-1) 24))), (h2, .inl (cI, 24, .inl (fun _ => 0))), (l2, .inl (cI, 24, .inl (fun _ => 0))), (o2, .inl (cZ, 24, .inl (fun _ => 0))), (w2, .inl (cI, 1536, .inl (fun _ => 0)))] H := hP
  have hD : va_D A [(h0, .inr (0, [.ref c1, .ref c2, .int 0])), (c1, .inr (1, [.ref n1, .ref h1, .ref l1, .ref o1, .ref w1])), (n1, .inl (cI, 24, .inl (zs_fl (fun _ => 0) (-1) 24))), (h1, .inl (cI, 24, .inl (fun _ => 0))), (l1, .inl (cI, 24, .inl (fun _ => 0))), (o1, .inl (cZ, 24, .inl (fun _ => 0))), (w1, .inl (cI, 1536, .inl (fun _ => 0))), (c2, .inr (1, [.ref n2, .ref h2, .ref l2, .ref o2, .ref w2])), (n2, .inl (cI, 24, .inl (zs_fl (fun _ => 0) (-1) 24))), (h2, .inl (cI, 24, .inl (fun _ => 0))), (l2, .inl (cI, 24, .inl (fun _ => 0))), (o2, .inl (cZ, 24, .inl (fun _ => 0))), (w2, .inl (cI, 1536, .inl (fun _ => 0)))] := hD
  refine lv_aload_n hx hb zd_X_init_26 rfl (lv_at hl 0 rfl) ?_
  refine lv_iconst (v := 1) hx hb zd_X_init_27 (by decide) ?_
  refine va_put (D := (dC, dI)) (ci := 0) (v := .int 1) (ty := .boolean) (C := "ZoneShelf") (T := zs_T_X) (N := 3) hx hb hz zs_in_X zs_t_X zs_tok_X zs_nok_X hown hk.1 hP hD hS 0 rfl rfl 2 (by decide) (hz _ zq_54) (fun _ h9 => h9) rfl (by decide +kernel) rfl rfl (Nat.le_of_ble_eq_true rfl) zd_X_init_28 (fun H locs hP hD hS => ?_)
  have hP : va_P (dC, dI) zs_cl [(h0, .inr (0, [.ref c1, .ref c2, .int (zs_b true)])), (c1, .inr (1, [.ref n1, .ref h1, .ref l1, .ref o1, .ref w1])), (n1, .inl (cI, 24, .inl (zs_fl (fun _ => 0) (-1) 24))), (h1, .inl (cI, 24, .inl (fun _ => 0))), (l1, .inl (cI, 24, .inl (fun _ => 0))), (o1, .inl (cZ, 24, .inl (fun _ => 0))), (w1, .inl (cI, 1536, .inl (fun _ => 0))), (c2, .inr (1, [.ref n2, .ref h2, .ref l2, .ref o2, .ref w2])), (n2, .inl (cI, 24, .inl (zs_fl (fun _ => 0) (-1) 24))), (h2, .inl (cI, 24, .inl (fun _ => 0))), (l2, .inl (cI, 24, .inl (fun _ => 0))), (o2, .inl (cZ, 24, .inl (fun _ => 0))), (w2, .inl (cI, 1536, .inl (fun _ => 0)))] H := hP
  have hD : va_D A [(h0, .inr (0, [.ref c1, .ref c2, .int (zs_b true)])), (c1, .inr (1, [.ref n1, .ref h1, .ref l1, .ref o1, .ref w1])), (n1, .inl (cI, 24, .inl (zs_fl (fun _ => 0) (-1) 24))), (h1, .inl (cI, 24, .inl (fun _ => 0))), (l1, .inl (cI, 24, .inl (fun _ => 0))), (o1, .inl (cZ, 24, .inl (fun _ => 0))), (w1, .inl (cI, 1536, .inl (fun _ => 0))), (c2, .inr (1, [.ref n2, .ref h2, .ref l2, .ref o2, .ref w2])), (n2, .inl (cI, 24, .inl (zs_fl (fun _ => 0) (-1) 24))), (h2, .inl (cI, 24, .inl (fun _ => 0))), (l2, .inl (cI, 24, .inl (fun _ => 0))), (o2, .inl (cZ, 24, .inl (fun _ => 0))), (w2, .inl (cI, 1536, .inl (fun _ => 0)))] := hD
  refine W.widen (k := 12) (n := 3274) (Nat.le_of_ble_eq_true rfl) (Nat.le_of_ble_eq_true rfl) ?_
  exact zw_vret (fun k => [h0, c1, n1, h1, l1, o1, w1, c2, n2, h2, l2, o2, w2].getD k 0) hx hb hr hlocks zd_X_init_31 rfl (hP.sub [0, 1, 2, 3, 4, 5, 6, 7, 8, 9, 10, 11, 12] rfl) (hD.sub [0, 1, 2, 3, 4, 5, 6, 7, 8, 9, 10, 11, 12] (by decide) rfl) hS
set_option maxHeartbeats 4000000 in
set_option maxRecDepth 100000 in
theorem zc_M_init (l : Launch) (dC : Nat → ClassId) (dI : Nat → Nat → Nat) (cI cZ : ClassId) (h0 sz : Nat) : Met l zy_M_init (.code zy_M_init zb_M_init 1 none :: zs_w) ({ frames := 1, cells := 10, slots := 3264, locals := 20 }) (va_Pc [.ref h0] (zs_s dC dI cI cZ sz [(h0, .inr (2, [.int 0, .null, .null, .null, .null, .null, .null, .null, .null, .null, .null]))])) (va_Qv (fun v : Nat → Nat => v 0 = h0) (zs_e dC dI (fun v : Nat → Nat => zs_wM cI cZ v zm_0) (va_A ([(h0, .inr (2, [.int 0, .null, .null, .null, .null, .null, .null, .null, .null, .null, .null]))]) sz)) (va_A ([(h0, .inr (2, [.int 0, .null, .null, .null, .null, .null, .null, .null, .null, .null, .null]))]) sz)) 10 3264 (va_A ([(h0, .inr (2, [.int 0, .null, .null, .null, .null, .null, .null, .null, .null, .null, .null]))]) sz) := by
  refine Met.ofW (cc := zb_M_init) (maxL := 1) (ret := none) (by decide) rfl ?_
  intro p e s m args below meth c s₁ B hml hv
  obtain ⟨rfl, hsz, hP, hk, hD0⟩ := hv
  have hx := B.exec
  have hb := B.bytes
  have hr := B.returns
  have hts := atoms_spec (ws := .code zy_M_init zb_M_init 1 none :: zs_w) B.pre
  have hz : ∀ w ∈ zs_w, w.before _ s = true := fun w h => hts w (List.mem_cons_of_mem _ h)
  have hown : s.vm.findClass "ZoneShelfModel" = some m.cls := findClass_of_methodNamed B.named
  have hlocks := B.notSynchronized
  have hin : meth.name = "<init>" := (name_of_methodNamed B.named B.method).1
  subst hsz
  have hD := hD0.self (sz := s.heap.size)
  generalize hAe : va_A ([(h0, .inr (2, [.int 0, .null, .null, .null, .null, .null, .null, .null, .null, .null, .null]))]) s.heap.size = A at hD ⊢
  have hA : ∀ q : Nat, s.heap.size ≤ q → A q := fun q h => by rw [← hAe]; exact Or.inr h
  have hS : va_S A s.heap s.heap [] := va_S.rf
  have hP : va_P (dC, dI) zs_cl [(h0, .inr (2, [.int 0, .null, .null, .null, .null, .null, .null, .null, .null, .null, .null]))] s.heap := hP
  have hD : va_D A [(h0, .inr (2, [.int 0, .null, .null, .null, .null, .null, .null, .null, .null, .null, .null]))] := hD
  have hl := lv_entry ([.ref h0]) (n := 1) (Nat.le_of_ble_eq_true rfl)
  rw [lg_entry_eq]
  generalize (lg_sl ([.ref h0]) ++ List.replicate (1 - (lg_sl ([.ref h0])).length) Slot.unset).toArray = ls at hl ⊢
  have hl : lv_has ls 1 [(0, .ref h0)] := hl
  refine lv_aload_n hx hb zd_M_init_0 rfl (lv_at hl 0 rfl) ?_
  refine W.objInit hx hb hown (hz _ zq_182) (hz _ zq_30) (hz _ zq_31) rfl (by rw [hml]; exact hl.1) rfl zd_M_init_1 (Nat.le_of_ble_eq_true rfl) (Nat.le_of_ble_eq_true rfl) ?_
  refine W.eq (g2 := F0 m 4 ls []) rfl ?_
  refine lv_aload_n hx hb zd_M_init_4 rfl (lv_at hl 0 rfl) ?_
  refine lv_iconst (v := 1) hx hb zd_M_init_5 (by decide) ?_
  refine va_put (D := (dC, dI)) (ci := 2) (v := .int 1) (ty := .boolean) (C := "ZoneShelfModel") (T := zs_T_M) (N := 11) hx hb hz zs_in_M zs_t_M zs_tok_M zs_nok_M hown hk.1 hP hD hS 0 rfl rfl 0 (by decide) (hz _ zq_183) (fun _ h9 => h9) rfl (by decide +kernel) rfl rfl (Nat.le_of_ble_eq_true rfl) zd_M_init_6 (fun H locs hP hD hS => ?_)
  have hP : va_P (dC, dI) zs_cl [(h0, .inr (2, [.int (zs_b true), .null, .null, .null, .null, .null, .null, .null, .null, .null, .null]))] H := hP
  have hD : va_D A [(h0, .inr (2, [.int (zs_b true), .null, .null, .null, .null, .null, .null, .null, .null, .null, .null]))] := hD
  refine lv_aload_n hx hb zd_M_init_9 rfl (lv_at hl 0 rfl) ?_
  refine lv_bipush (v := 24) hx hb zd_M_init_10 (by decide) ?_
  refine zi_newi (N := 24) hx hb hz zq_50 hk hP hD hS hA (by decide) (by decide) (by decide) (Nat.le_of_ble_eq_true rfl) (Nat.le_of_ble_eq_true rfl) zd_M_init_12 (fun q1 H hP hD hS => ?_)
  have hP : va_P (dC, dI) zs_cl [(h0, .inr (2, [.int (zs_b true), .null, .null, .null, .null, .null, .null, .null, .null, .null, .null])), (q1, .inl (cI, 24, .inl (fun _ => 0)))] H := hP
  have hD : va_D A [(h0, .inr (2, [.int (zs_b true), .null, .null, .null, .null, .null, .null, .null, .null, .null, .null])), (q1, .inl (cI, 24, .inl (fun _ => 0)))] := hD
  refine va_putF (D := (dC, dI)) (ci := 2) (v := .ref q1) (ty := (.array .int)) (C := "ZoneShelfModel") (T := zs_T_M) (N := 11) hx hb hz zs_in_M zs_t_M zs_tok_M zs_nok_M hown hk.1 hP hD hS 0 rfl rfl 1 (by decide) (hz _ zq_184) (fun _ h9 => h9) rfl hin rfl (by decide +kernel) rfl rfl (Nat.le_of_ble_eq_true rfl) zd_M_init_14 (fun H locs hP hD hS => ?_)
  have hP : va_P (dC, dI) zs_cl [(h0, .inr (2, [.int (zs_b true), .ref q1, .null, .null, .null, .null, .null, .null, .null, .null, .null])), (q1, .inl (cI, 24, .inl (fun _ => 0)))] H := hP
  have hD : va_D A [(h0, .inr (2, [.int (zs_b true), .ref q1, .null, .null, .null, .null, .null, .null, .null, .null, .null])), (q1, .inl (cI, 24, .inl (fun _ => 0)))] := hD
  refine lv_aload_n hx hb zd_M_init_17 rfl (lv_at hl 0 rfl) ?_
  refine lv_bipush (v := 24) hx hb zd_M_init_18 (by decide) ?_
  refine zi_newi (N := 24) hx hb hz zq_50 hk hP hD hS hA (by decide) (by decide) (by decide) (Nat.le_of_ble_eq_true rfl) (Nat.le_of_ble_eq_true rfl) zd_M_init_20 (fun q2 H hP hD hS => ?_)
  have hP : va_P (dC, dI) zs_cl [(h0, .inr (2, [.int (zs_b true), .ref q1, .null, .null, .null, .null, .null, .null, .null, .null, .null])), (q1, .inl (cI, 24, .inl (fun _ => 0))), (q2, .inl (cI, 24, .inl (fun _ => 0)))] H := hP
  have hD : va_D A [(h0, .inr (2, [.int (zs_b true), .ref q1, .null, .null, .null, .null, .null, .null, .null, .null, .null])), (q1, .inl (cI, 24, .inl (fun _ => 0))), (q2, .inl (cI, 24, .inl (fun _ => 0)))] := hD
  refine va_putF (D := (dC, dI)) (ci := 2) (v := .ref q2) (ty := (.array .int)) (C := "ZoneShelfModel") (T := zs_T_M) (N := 11) hx hb hz zs_in_M zs_t_M zs_tok_M zs_nok_M hown hk.1 hP hD hS 0 rfl rfl 2 (by decide) (hz _ zq_185) (fun _ h9 => h9) rfl hin rfl (by decide +kernel) rfl rfl (Nat.le_of_ble_eq_true rfl) zd_M_init_22 (fun H locs hP hD hS => ?_)
  have hP : va_P (dC, dI) zs_cl [(h0, .inr (2, [.int (zs_b true), .ref q1, .ref q2, .null, .null, .null, .null, .null, .null, .null, .null])), (q1, .inl (cI, 24, .inl (fun _ => 0))), (q2, .inl (cI, 24, .inl (fun _ => 0)))] H := hP
  have hD : va_D A [(h0, .inr (2, [.int (zs_b true), .ref q1, .ref q2, .null, .null, .null, .null, .null, .null, .null, .null])), (q1, .inl (cI, 24, .inl (fun _ => 0))), (q2, .inl (cI, 24, .inl (fun _ => 0)))] := hD
  refine lv_aload_n hx hb zd_M_init_25 rfl (lv_at hl 0 rfl) ?_
  refine lv_bipush (v := 24) hx hb zd_M_init_26 (by decide) ?_
  refine zi_newi (N := 24) hx hb hz zq_50 hk hP hD hS hA (by decide) (by decide) (by decide) (Nat.le_of_ble_eq_true rfl) (Nat.le_of_ble_eq_true rfl) zd_M_init_28 (fun q3 H hP hD hS => ?_)
  have hP : va_P (dC, dI) zs_cl [(h0, .inr (2, [.int (zs_b true), .ref q1, .ref q2, .null, .null, .null, .null, .null, .null, .null, .null])), (q1, .inl (cI, 24, .inl (fun _ => 0))), (q2, .inl (cI, 24, .inl (fun _ => 0))), (q3, .inl (cI, 24, .inl (fun _ => 0)))] H := hP
  have hD : va_D A [(h0, .inr (2, [.int (zs_b true), .ref q1, .ref q2, .null, .null, .null, .null, .null, .null, .null, .null])), (q1, .inl (cI, 24, .inl (fun _ => 0))), (q2, .inl (cI, 24, .inl (fun _ => 0))), (q3, .inl (cI, 24, .inl (fun _ => 0)))] := hD
  refine va_putF (D := (dC, dI)) (ci := 2) (v := .ref q3) (ty := (.array .int)) (C := "ZoneShelfModel") (T := zs_T_M) (N := 11) hx hb hz zs_in_M zs_t_M zs_tok_M zs_nok_M hown hk.1 hP hD hS 0 rfl rfl 3 (by decide) (hz _ zq_186) (fun _ h9 => h9) rfl hin rfl (by decide +kernel) rfl rfl (Nat.le_of_ble_eq_true rfl) zd_M_init_30 (fun H locs hP hD hS => ?_)
  have hP : va_P (dC, dI) zs_cl [(h0, .inr (2, [.int (zs_b true), .ref q1, .ref q2, .ref q3, .null, .null, .null, .null, .null, .null, .null])), (q1, .inl (cI, 24, .inl (fun _ => 0))), (q2, .inl (cI, 24, .inl (fun _ => 0))), (q3, .inl (cI, 24, .inl (fun _ => 0)))] H := hP
  have hD : va_D A [(h0, .inr (2, [.int (zs_b true), .ref q1, .ref q2, .ref q3, .null, .null, .null, .null, .null, .null, .null])), (q1, .inl (cI, 24, .inl (fun _ => 0))), (q2, .inl (cI, 24, .inl (fun _ => 0))), (q3, .inl (cI, 24, .inl (fun _ => 0)))] := hD
  refine lv_aload_n hx hb zd_M_init_33 rfl (lv_at hl 0 rfl) ?_
  refine lv_bipush (v := 24) hx hb zd_M_init_34 (by decide) ?_
  refine zi_newz (N := 24) hx hb hz zq_51 hk hP hD hS hA (by decide) (by decide) (by decide) (Nat.le_of_ble_eq_true rfl) (Nat.le_of_ble_eq_true rfl) zd_M_init_36 (fun q4 H hP hD hS => ?_)
  have hP : va_P (dC, dI) zs_cl [(h0, .inr (2, [.int (zs_b true), .ref q1, .ref q2, .ref q3, .null, .null, .null, .null, .null, .null, .null])), (q1, .inl (cI, 24, .inl (fun _ => 0))), (q2, .inl (cI, 24, .inl (fun _ => 0))), (q3, .inl (cI, 24, .inl (fun _ => 0))), (q4, .inl (cZ, 24, .inl (fun _ => 0)))] H := hP
  have hD : va_D A [(h0, .inr (2, [.int (zs_b true), .ref q1, .ref q2, .ref q3, .null, .null, .null, .null, .null, .null, .null])), (q1, .inl (cI, 24, .inl (fun _ => 0))), (q2, .inl (cI, 24, .inl (fun _ => 0))), (q3, .inl (cI, 24, .inl (fun _ => 0))), (q4, .inl (cZ, 24, .inl (fun _ => 0)))] := hD
  refine va_putF (D := (dC, dI)) (ci := 2) (v := .ref q4) (ty := (.array .boolean)) (C := "ZoneShelfModel") (T := zs_T_M) (N := 11) hx hb hz zs_in_M zs_t_M zs_tok_M zs_nok_M hown hk.1 hP hD hS 0 rfl rfl 4 (by decide) (hz _ zq_187) (fun _ h9 => h9) rfl hin rfl (by decide +kernel) rfl rfl (Nat.le_of_ble_eq_true rfl) zd_M_init_38 (fun H locs hP hD hS => ?_)
  have hP : va_P (dC, dI) zs_cl [(h0, .inr (2, [.int (zs_b true), .ref q1, .ref q2, .ref q3, .ref q4, .null, .null, .null, .null, .null, .null])), (q1, .inl (cI, 24, .inl (fun _ => 0))), (q2, .inl (cI, 24, .inl (fun _ => 0))), (q3, .inl (cI, 24, .inl (fun _ => 0))), (q4, .inl (cZ, 24, .inl (fun _ => 0)))] H := hP
  have hD : va_D A [(h0, .inr (2, [.int (zs_b true), .ref q1, .ref q2, .ref q3, .ref q4, .null, .null, .null, .null, .null, .null])), (q1, .inl (cI, 24, .inl (fun _ => 0))), (q2, .inl (cI, 24, .inl (fun _ => 0))), (q3, .inl (cI, 24, .inl (fun _ => 0))), (q4, .inl (cZ, 24, .inl (fun _ => 0)))] := hD
  refine lv_aload_n hx hb zd_M_init_41 rfl (lv_at hl 0 rfl) ?_
  refine lv_sipush (v := 1536) hx hb zd_M_init_42 (by decide) ?_
  refine zi_newi (N := 1536) hx hb hz zq_50 hk hP hD hS hA (by decide) (by decide) (by decide) (Nat.le_of_ble_eq_true rfl) (Nat.le_of_ble_eq_true rfl) zd_M_init_45 (fun q5 H hP hD hS => ?_)
  have hP : va_P (dC, dI) zs_cl [(h0, .inr (2, [.int (zs_b true), .ref q1, .ref q2, .ref q3, .ref q4, .null, .null, .null, .null, .null, .null])), (q1, .inl (cI, 24, .inl (fun _ => 0))), (q2, .inl (cI, 24, .inl (fun _ => 0))), (q3, .inl (cI, 24, .inl (fun _ => 0))), (q4, .inl (cZ, 24, .inl (fun _ => 0))), (q5, .inl (cI, 1536, .inl (fun _ => 0)))] H := hP
  have hD : va_D A [(h0, .inr (2, [.int (zs_b true), .ref q1, .ref q2, .ref q3, .ref q4, .null, .null, .null, .null, .null, .null])), (q1, .inl (cI, 24, .inl (fun _ => 0))), (q2, .inl (cI, 24, .inl (fun _ => 0))), (q3, .inl (cI, 24, .inl (fun _ => 0))), (q4, .inl (cZ, 24, .inl (fun _ => 0))), (q5, .inl (cI, 1536, .inl (fun _ => 0)))] := hD
  refine va_putF (D := (dC, dI)) (ci := 2) (v := .ref q5) (ty := (.array .int)) (C := "ZoneShelfModel") (T := zs_T_M) (N := 11) hx hb hz zs_in_M zs_t_M zs_tok_M zs_nok_M hown hk.1 hP hD hS 0 rfl rfl 5 (by decide) (hz _ zq_188) (fun _ h9 => h9) rfl hin rfl (by decide +kernel) rfl rfl (Nat.le_of_ble_eq_true rfl) zd_M_init_47 (fun H locs hP hD hS => ?_)
  have hP : va_P (dC, dI) zs_cl [(h0, .inr (2, [.int (zs_b true), .ref q1, .ref q2, .ref q3, .ref q4, .ref q5, .null, .null, .null, .null, .null])), (q1, .inl (cI, 24, .inl (fun _ => 0))), (q2, .inl (cI, 24, .inl (fun _ => 0))), (q3, .inl (cI, 24, .inl (fun _ => 0))), (q4, .inl (cZ, 24, .inl (fun _ => 0))), (q5, .inl (cI, 1536, .inl (fun _ => 0)))] H := hP
  have hD : va_D A [(h0, .inr (2, [.int (zs_b true), .ref q1, .ref q2, .ref q3, .ref q4, .ref q5, .null, .null, .null, .null, .null])), (q1, .inl (cI, 24, .inl (fun _ => 0))), (q2, .inl (cI, 24, .inl (fun _ => 0))), (q3, .inl (cI, 24, .inl (fun _ => 0))), (q4, .inl (cZ, 24, .inl (fun _ => 0))), (q5, .inl (cI, 1536, .inl (fun _ => 0)))] := hD
  refine lv_aload_n hx hb zd_M_init_50 rfl (lv_at hl 0 rfl) ?_
  refine lv_bipush (v := 24) hx hb zd_M_init_51 (by decide) ?_
  refine zi_newi (N := 24) hx hb hz zq_50 hk hP hD hS hA (by decide) (by decide) (by decide) (Nat.le_of_ble_eq_true rfl) (Nat.le_of_ble_eq_true rfl) zd_M_init_53 (fun q6 H hP hD hS => ?_)
  have hP : va_P (dC, dI) zs_cl [(h0, .inr (2, [.int (zs_b true), .ref q1, .ref q2, .ref q3, .ref q4, .ref q5, .null, .null, .null, .null, .null])), (q1, .inl (cI, 24, .inl (fun _ => 0))), (q2, .inl (cI, 24, .inl (fun _ => 0))), (q3, .inl (cI, 24, .inl (fun _ => 0))), (q4, .inl (cZ, 24, .inl (fun _ => 0))), (q5, .inl (cI, 1536, .inl (fun _ => 0))), (q6, .inl (cI, 24, .inl (fun _ => 0)))] H := hP
  have hD : va_D A [(h0, .inr (2, [.int (zs_b true), .ref q1, .ref q2, .ref q3, .ref q4, .ref q5, .null, .null, .null, .null, .null])), (q1, .inl (cI, 24, .inl (fun _ => 0))), (q2, .inl (cI, 24, .inl (fun _ => 0))), (q3, .inl (cI, 24, .inl (fun _ => 0))), (q4, .inl (cZ, 24, .inl (fun _ => 0))), (q5, .inl (cI, 1536, .inl (fun _ => 0))), (q6, .inl (cI, 24, .inl (fun _ => 0)))] := hD
  refine va_putF (D := (dC, dI)) (ci := 2) (v := .ref q6) (ty := (.array .int)) (C := "ZoneShelfModel") (T := zs_T_M) (N := 11) hx hb hz zs_in_M zs_t_M zs_tok_M zs_nok_M hown hk.1 hP hD hS 0 rfl rfl 6 (by decide) (hz _ zq_189) (fun _ h9 => h9) rfl hin rfl (by decide +kernel) rfl rfl (Nat.le_of_ble_eq_true rfl) zd_M_init_55 (fun H locs hP hD hS => ?_)
  have hP : va_P (dC, dI) zs_cl [(h0, .inr (2, [.int (zs_b true), .ref q1, .ref q2, .ref q3, .ref q4, .ref q5, .ref q6, .null, .null, .null, .null])), (q1, .inl (cI, 24, .inl (fun _ => 0))), (q2, .inl (cI, 24, .inl (fun _ => 0))), (q3, .inl (cI, 24, .inl (fun _ => 0))), (q4, .inl (cZ, 24, .inl (fun _ => 0))), (q5, .inl (cI, 1536, .inl (fun _ => 0))), (q6, .inl (cI, 24, .inl (fun _ => 0)))] H := hP
  have hD : va_D A [(h0, .inr (2, [.int (zs_b true), .ref q1, .ref q2, .ref q3, .ref q4, .ref q5, .ref q6, .null, .null, .null, .null])), (q1, .inl (cI, 24, .inl (fun _ => 0))), (q2, .inl (cI, 24, .inl (fun _ => 0))), (q3, .inl (cI, 24, .inl (fun _ => 0))), (q4, .inl (cZ, 24, .inl (fun _ => 0))), (q5, .inl (cI, 1536, .inl (fun _ => 0))), (q6, .inl (cI, 24, .inl (fun _ => 0)))] := hD
  refine lv_aload_n hx hb zd_M_init_58 rfl (lv_at hl 0 rfl) ?_
  refine lv_bipush (v := 24) hx hb zd_M_init_59 (by decide) ?_
  refine zi_newi (N := 24) hx hb hz zq_50 hk hP hD hS hA (by decide) (by decide) (by decide) (Nat.le_of_ble_eq_true rfl) (Nat.le_of_ble_eq_true rfl) zd_M_init_61 (fun q7 H hP hD hS => ?_)
  have hP : va_P (dC, dI) zs_cl [(h0, .inr (2, [.int (zs_b true), .ref q1, .ref q2, .ref q3, .ref q4, .ref q5, .ref q6, .null, .null, .null, .null])), (q1, .inl (cI, 24, .inl (fun _ => 0))), (q2, .inl (cI, 24, .inl (fun _ => 0))), (q3, .inl (cI, 24, .inl (fun _ => 0))), (q4, .inl (cZ, 24, .inl (fun _ => 0))), (q5, .inl (cI, 1536, .inl (fun _ => 0))), (q6, .inl (cI, 24, .inl (fun _ => 0))), (q7, .inl (cI, 24, .inl (fun _ => 0)))] H := hP
  have hD : va_D A [(h0, .inr (2, [.int (zs_b true), .ref q1, .ref q2, .ref q3, .ref q4, .ref q5, .ref q6, .null, .null, .null, .null])), (q1, .inl (cI, 24, .inl (fun _ => 0))), (q2, .inl (cI, 24, .inl (fun _ => 0))), (q3, .inl (cI, 24, .inl (fun _ => 0))), (q4, .inl (cZ, 24, .inl (fun _ => 0))), (q5, .inl (cI, 1536, .inl (fun _ => 0))), (q6, .inl (cI, 24, .inl (fun _ => 0))), (q7, .inl (cI, 24, .inl (fun _ => 0)))] := hD
  refine va_putF (D := (dC, dI)) (ci := 2) (v := .ref q7) (ty := (.array .int)) (C := "ZoneShelfModel") (T := zs_T_M) (N := 11) hx hb hz zs_in_M zs_t_M zs_tok_M zs_nok_M hown hk.1 hP hD hS 0 rfl rfl 7 (by decide) (hz _ zq_190) (fun _ h9 => h9) rfl hin rfl (by decide +kernel) rfl rfl (Nat.le_of_ble_eq_true rfl) zd_M_init_63 (fun H locs hP hD hS => ?_)
  have hP : va_P (dC, dI) zs_cl [(h0, .inr (2, [.int (zs_b true), .ref q1, .ref q2, .ref q3, .ref q4, .ref q5, .ref q6, .ref q7, .null, .null, .null])), (q1, .inl (cI, 24, .inl (fun _ => 0))), (q2, .inl (cI, 24, .inl (fun _ => 0))), (q3, .inl (cI, 24, .inl (fun _ => 0))), (q4, .inl (cZ, 24, .inl (fun _ => 0))), (q5, .inl (cI, 1536, .inl (fun _ => 0))), (q6, .inl (cI, 24, .inl (fun _ => 0))), (q7, .inl (cI, 24, .inl (fun _ => 0)))] H := hP
  have hD : va_D A [(h0, .inr (2, [.int (zs_b true), .ref q1, .ref q2, .ref q3, .ref q4, .ref q5, .ref q6, .ref q7, .null, .null, .null])), (q1, .inl (cI, 24, .inl (fun _ => 0))), (q2, .inl (cI, 24, .inl (fun _ => 0))), (q3, .inl (cI, 24, .inl (fun _ => 0))), (q4, .inl (cZ, 24, .inl (fun _ => 0))), (q5, .inl (cI, 1536, .inl (fun _ => 0))), (q6, .inl (cI, 24, .inl (fun _ => 0))), (q7, .inl (cI, 24, .inl (fun _ => 0)))] := hD
  refine lv_aload_n hx hb zd_M_init_66 rfl (lv_at hl 0 rfl) ?_
  refine lv_bipush (v := 24) hx hb zd_M_init_67 (by decide) ?_
  refine zi_newi (N := 24) hx hb hz zq_50 hk hP hD hS hA (by decide) (by decide) (by decide) (Nat.le_of_ble_eq_true rfl) (Nat.le_of_ble_eq_true rfl) zd_M_init_69 (fun q8 H hP hD hS => ?_)
  have hP : va_P (dC, dI) zs_cl [(h0, .inr (2, [.int (zs_b true), .ref q1, .ref q2, .ref q3, .ref q4, .ref q5, .ref q6, .ref q7, .null, .null, .null])), (q1, .inl (cI, 24, .inl (fun _ => 0))), (q2, .inl (cI, 24, .inl (fun _ => 0))), (q3, .inl (cI, 24, .inl (fun _ => 0))), (q4, .inl (cZ, 24, .inl (fun _ => 0))), (q5, .inl (cI, 1536, .inl (fun _ => 0))), (q6, .inl (cI, 24, .inl (fun _ => 0))), (q7, .inl (cI, 24, .inl (fun _ => 0))), (q8, .inl (cI, 24, .inl (fun _ => 0)))] H := hP
  have hD : va_D A [(h0, .inr (2, [.int (zs_b true), .ref q1, .ref q2, .ref q3, .ref q4, .ref q5, .ref q6, .ref q7, .null, .null, .null])), (q1, .inl (cI, 24, .inl (fun _ => 0))), (q2, .inl (cI, 24, .inl (fun _ => 0))), (q3, .inl (cI, 24, .inl (fun _ => 0))), (q4, .inl (cZ, 24, .inl (fun _ => 0))), (q5, .inl (cI, 1536, .inl (fun _ => 0))), (q6, .inl (cI, 24, .inl (fun _ => 0))), (q7, .inl (cI, 24, .inl (fun _ => 0))), (q8, .inl (cI, 24, .inl (fun _ => 0)))] := hD
  refine va_putF (D := (dC, dI)) (ci := 2) (v := .ref q8) (ty := (.array .int)) (C := "ZoneShelfModel") (T := zs_T_M) (N := 11) hx hb hz zs_in_M zs_t_M zs_tok_M zs_nok_M hown hk.1 hP hD hS 0 rfl rfl 8 (by decide) (hz _ zq_191) (fun _ h9 => h9) rfl hin rfl (by decide +kernel) rfl rfl (Nat.le_of_ble_eq_true rfl) zd_M_init_71 (fun H locs hP hD hS => ?_)
  have hP : va_P (dC, dI) zs_cl [(h0, .inr (2, [.int (zs_b true), .ref q1, .ref q2, .ref q3, .ref q4, .ref q5, .ref q6, .ref q7, .ref q8, .null, .null])), (q1, .inl (cI, 24, .inl (fun _ => 0))), (q2, .inl (cI, 24, .inl (fun _ => 0))), (q3, .inl (cI, 24, .inl (fun _ => 0))), (q4, .inl (cZ, 24, .inl (fun _ => 0))), (q5, .inl (cI, 1536, .inl (fun _ => 0))), (q6, .inl (cI, 24, .inl (fun _ => 0))), (q7, .inl (cI, 24, .inl (fun _ => 0))), (q8, .inl (cI, 24, .inl (fun _ => 0)))] H := hP
  have hD : va_D A [(h0, .inr (2, [.int (zs_b true), .ref q1, .ref q2, .ref q3, .ref q4, .ref q5, .ref q6, .ref q7, .ref q8, .null, .null])), (q1, .inl (cI, 24, .inl (fun _ => 0))), (q2, .inl (cI, 24, .inl (fun _ => 0))), (q3, .inl (cI, 24, .inl (fun _ => 0))), (q4, .inl (cZ, 24, .inl (fun _ => 0))), (q5, .inl (cI, 1536, .inl (fun _ => 0))), (q6, .inl (cI, 24, .inl (fun _ => 0))), (q7, .inl (cI, 24, .inl (fun _ => 0))), (q8, .inl (cI, 24, .inl (fun _ => 0)))] := hD
  refine lv_aload_n hx hb zd_M_init_74 rfl (lv_at hl 0 rfl) ?_
  refine lv_bipush (v := 24) hx hb zd_M_init_75 (by decide) ?_
  refine zi_newz (N := 24) hx hb hz zq_51 hk hP hD hS hA (by decide) (by decide) (by decide) (Nat.le_of_ble_eq_true rfl) (Nat.le_of_ble_eq_true rfl) zd_M_init_77 (fun q9 H hP hD hS => ?_)
  have hP : va_P (dC, dI) zs_cl [(h0, .inr (2, [.int (zs_b true), .ref q1, .ref q2, .ref q3, .ref q4, .ref q5, .ref q6, .ref q7, .ref q8, .null, .null])), (q1, .inl (cI, 24, .inl (fun _ => 0))), (q2, .inl (cI, 24, .inl (fun _ => 0))), (q3, .inl (cI, 24, .inl (fun _ => 0))), (q4, .inl (cZ, 24, .inl (fun _ => 0))), (q5, .inl (cI, 1536, .inl (fun _ => 0))), (q6, .inl (cI, 24, .inl (fun _ => 0))), (q7, .inl (cI, 24, .inl (fun _ => 0))), (q8, .inl (cI, 24, .inl (fun _ => 0))), (q9, .inl (cZ, 24, .inl (fun _ => 0)))] H := hP
  have hD : va_D A [(h0, .inr (2, [.int (zs_b true), .ref q1, .ref q2, .ref q3, .ref q4, .ref q5, .ref q6, .ref q7, .ref q8, .null, .null])), (q1, .inl (cI, 24, .inl (fun _ => 0))), (q2, .inl (cI, 24, .inl (fun _ => 0))), (q3, .inl (cI, 24, .inl (fun _ => 0))), (q4, .inl (cZ, 24, .inl (fun _ => 0))), (q5, .inl (cI, 1536, .inl (fun _ => 0))), (q6, .inl (cI, 24, .inl (fun _ => 0))), (q7, .inl (cI, 24, .inl (fun _ => 0))), (q8, .inl (cI, 24, .inl (fun _ => 0))), (q9, .inl (cZ, 24, .inl (fun _ => 0)))] := hD
  refine va_putF (D := (dC, dI)) (ci := 2) (v := .ref q9) (ty := (.array .boolean)) (C := "ZoneShelfModel") (T := zs_T_M) (N := 11) hx hb hz zs_in_M zs_t_M zs_tok_M zs_nok_M hown hk.1 hP hD hS 0 rfl rfl 9 (by decide) (hz _ zq_192) (fun _ h9 => h9) rfl hin rfl (by decide +kernel) rfl rfl (Nat.le_of_ble_eq_true rfl) zd_M_init_79 (fun H locs hP hD hS => ?_)
  have hP : va_P (dC, dI) zs_cl [(h0, .inr (2, [.int (zs_b true), .ref q1, .ref q2, .ref q3, .ref q4, .ref q5, .ref q6, .ref q7, .ref q8, .ref q9, .null])), (q1, .inl (cI, 24, .inl (fun _ => 0))), (q2, .inl (cI, 24, .inl (fun _ => 0))), (q3, .inl (cI, 24, .inl (fun _ => 0))), (q4, .inl (cZ, 24, .inl (fun _ => 0))), (q5, .inl (cI, 1536, .inl (fun _ => 0))), (q6, .inl (cI, 24, .inl (fun _ => 0))), (q7, .inl (cI, 24, .inl (fun _ => 0))), (q8, .inl (cI, 24, .inl (fun _ => 0))), (q9, .inl (cZ, 24, .inl (fun _ => 0)))] H := hP
  have hD : va_D A [(h0, .inr (2, [.int (zs_b true), .ref q1, .ref q2, .ref q3, .ref q4, .ref q5, .ref q6, .ref q7, .ref q8, .ref q9, .null])), (q1, .inl (cI, 24, .inl (fun _ => 0))), (q2, .inl (cI, 24, .inl (fun _ => 0))), (q3, .inl (cI, 24, .inl (fun _ => 0))), (q4, .inl (cZ, 24, .inl (fun _ => 0))), (q5, .inl (cI, 1536, .inl (fun _ => 0))), (q6, .inl (cI, 24, .inl (fun _ => 0))), (q7, .inl (cI, 24, .inl (fun _ => 0))), (q8, .inl (cI, 24, .inl (fun _ => 0))), (q9, .inl (cZ, 24, .inl (fun _ => 0)))] := hD
  refine lv_aload_n hx hb zd_M_init_82 rfl (lv_at hl 0 rfl) ?_
  refine lv_sipush (v := 1536) hx hb zd_M_init_83 (by decide) ?_
  refine zi_newi (N := 1536) hx hb hz zq_50 hk hP hD hS hA (by decide) (by decide) (by decide) (Nat.le_of_ble_eq_true rfl) (Nat.le_of_ble_eq_true rfl) zd_M_init_86 (fun q10 H hP hD hS => ?_)
  have hP : va_P (dC, dI) zs_cl [(h0, .inr (2, [.int (zs_b true), .ref q1, .ref q2, .ref q3, .ref q4, .ref q5, .ref q6, .ref q7, .ref q8, .ref q9, .null])), (q1, .inl (cI, 24, .inl (fun _ => 0))), (q2, .inl (cI, 24, .inl (fun _ => 0))), (q3, .inl (cI, 24, .inl (fun _ => 0))), (q4, .inl (cZ, 24, .inl (fun _ => 0))), (q5, .inl (cI, 1536, .inl (fun _ => 0))), (q6, .inl (cI, 24, .inl (fun _ => 0))), (q7, .inl (cI, 24, .inl (fun _ => 0))), (q8, .inl (cI, 24, .inl (fun _ => 0))), (q9, .inl (cZ, 24, .inl (fun _ => 0))), (q10, .inl (cI, 1536, .inl (fun _ => 0)))] H := hP
  have hD : va_D A [(h0, .inr (2, [.int (zs_b true), .ref q1, .ref q2, .ref q3, .ref q4, .ref q5, .ref q6, .ref q7, .ref q8, .ref q9, .null])), (q1, .inl (cI, 24, .inl (fun _ => 0))), (q2, .inl (cI, 24, .inl (fun _ => 0))), (q3, .inl (cI, 24, .inl (fun _ => 0))), (q4, .inl (cZ, 24, .inl (fun _ => 0))), (q5, .inl (cI, 1536, .inl (fun _ => 0))), (q6, .inl (cI, 24, .inl (fun _ => 0))), (q7, .inl (cI, 24, .inl (fun _ => 0))), (q8, .inl (cI, 24, .inl (fun _ => 0))), (q9, .inl (cZ, 24, .inl (fun _ => 0))), (q10, .inl (cI, 1536, .inl (fun _ => 0)))] := hD
  refine va_putF (D := (dC, dI)) (ci := 2) (v := .ref q10) (ty := (.array .int)) (C := "ZoneShelfModel") (T := zs_T_M) (N := 11) hx hb hz zs_in_M zs_t_M zs_tok_M zs_nok_M hown hk.1 hP hD hS 0 rfl rfl 10 (by decide) (hz _ zq_193) (fun _ h9 => h9) rfl hin rfl (by decide +kernel) rfl rfl (Nat.le_of_ble_eq_true rfl) zd_M_init_88 (fun H locs hP hD hS => ?_)
  have hP : va_P (dC, dI) zs_cl [(h0, .inr (2, [.int (zs_b true), .ref q1, .ref q2, .ref q3, .ref q4, .ref q5, .ref q6, .ref q7, .ref q8, .ref q9, .ref q10])), (q1, .inl (cI, 24, .inl (fun _ => 0))), (q2, .inl (cI, 24, .inl (fun _ => 0))), (q3, .inl (cI, 24, .inl (fun _ => 0))), (q4, .inl (cZ, 24, .inl (fun _ => 0))), (q5, .inl (cI, 1536, .inl (fun _ => 0))), (q6, .inl (cI, 24, .inl (fun _ => 0))), (q7, .inl (cI, 24, .inl (fun _ => 0))), (q8, .inl (cI, 24, .inl (fun _ => 0))), (q9, .inl (cZ, 24, .inl (fun _ => 0))), (q10, .inl (cI, 1536, .inl (fun _ => 0)))] H := hP
  have hD : va_D A [(h0, .inr (2, [.int (zs_b true), .ref q1, .ref q2, .ref q3, .ref q4, .ref q5, .ref q6, .ref q7, .ref q8, .ref q9, .ref q10])), (q1, .inl (cI, 24, .inl (fun _ => 0))), (q2, .inl (cI, 24, .inl (fun _ => 0))), (q3, .inl (cI, 24, .inl (fun _ => 0))), (q4, .inl (cZ, 24, .inl (fun _ => 0))), (q5, .inl (cI, 1536, .inl (fun _ => 0))), (q6, .inl (cI, 24, .inl (fun _ => 0))), (q7, .inl (cI, 24, .inl (fun _ => 0))), (q8, .inl (cI, 24, .inl (fun _ => 0))), (q9, .inl (cZ, 24, .inl (fun _ => 0))), (q10, .inl (cI, 1536, .inl (fun _ => 0)))] := hD
  refine W.widen (k := 10) (n := 3264) (Nat.le_of_ble_eq_true rfl) (Nat.le_of_ble_eq_true rfl) ?_
  exact zw_vret (fun k => [h0, q1, q2, q3, q4, q5, q6, q7, q8, q9, q10].getD k 0) hx hb hr hlocks zd_M_init_91 rfl (hP.sub [0, 1, 2, 3, 4, 5, 6, 7, 8, 9, 10] rfl) (hD.sub [0, 1, 2, 3, 4, 5, 6, 7, 8, 9, 10] (by decide) rfl) hS
end
section
set_option maxHeartbeats 4000000 in
set_option maxRecDepth 100000 in
theorem zl_0 {p : Program} {e : Env} {s : State} {m : MethodId} {below : List Frame} {meth : Method} {c : Code} {H : Heap} {locs : List Loc} {ls : Array Slot} {cells slots : Nat} {Q : State → Prop} (l : Launch) {b L i : Nat} {xs : Nat → Int32} {dC : Nat → ClassId} {dI : Nat → Nat → Nat} {cI cZ : ClassId} {a d : Nat → Nat} {u v : zs_X} (hx : p.tables.exec = Jvm.exec) (hb : c.code = code) (hml : c.maxLocals = 4) (hown : s.vm.findClass "ZoneShelfLaw" = some m.cls) (hz : ∀ w ∈ zs_w, w.before #[Value.ref b] s = true) (hk : zs_k dC dI cI cZ s) (hX : va_X b L xs s s.heap) (hbl : b < s.heap.size) (hl : lv_has ls 4 [(3, .int (nI i)), (0, .ref b), (1, .ref (a 0)), (2, .ref (d 0))]) (hi : i + 4 ≤ L) (hL : L ≤ 2048) (hP : va_P (dC, dI) zs_cl (zs_wX cI cZ a u ++ zs_wM cI cZ d v) H) (hD : va_D (fun q => s.heap.size ≤ q) (zs_wX cI cZ a u ++ zs_wM cI cZ d v)) (hS : va_S (fun q => s.heap.size ≤ q) s.heap H locs) (hR : zp_R u v) (hf : cells ≤ room_1.cells ∧ slots ≤ room_1.slots)
    (kk : ∀ (u v : zs_X) (H : Heap) (locs : List Loc), zp_R u v → va_P (dC, dI) zs_cl (zs_wX cI cZ a u ++ zs_wM cI cZ d v) H → va_D (fun q => s.heap.size ≤ q) (zs_wX cI cZ a u ++ zs_wM cI cZ d v) → va_S (fun q => s.heap.size ≤ q) s.heap H locs → W p l e room_1 s m #[Value.ref b] below meth c H locs cells slots Q (F0 m 550 ls [])) : W p l e room_1 s m #[Value.ref b] below meth c H locs cells slots Q (F0 m 120 ls []) := by
  refine lv_aload_n hx hb zd_L_law_120 rfl (lv_at hl 2 rfl) ?_
  refine lv_aload_n hx hb zd_L_law_121 rfl (lv_at hl 1 rfl) ?_
  refine lv_iload_n hx hb zd_L_law_122 rfl (lv_at hl 0 rfl) ?_
  refine lv_iconst (v := 1) hx hb zd_L_law_123 (by decide) ?_
  refine lv_iadd hx hb zd_L_law_124 ?_
  refine zi_top (y := nI (i + 1)) (nI_add i 1) ?_
  refine zi_sld (i := (i + 1)) hx hb hX hbl (Nat.not_le_of_lt hbl) hS (by omega) hL zd_L_law_125 ?_
  refine lv_aload_n hx hb zd_L_law_126 rfl (lv_at hl 1 rfl) ?_
  refine lv_iload_n hx hb zd_L_law_127 rfl (lv_at hl 0 rfl) ?_
  refine lv_iconst (v := 2) hx hb zd_L_law_128 (by decide) ?_
  refine lv_iadd hx hb zd_L_law_129 ?_
  refine zi_top (y := nI (i + 2)) (nI_add i 2) ?_
  refine zi_sld (i := (i + 2)) hx hb hX hbl (Nat.not_le_of_lt hbl) hS (by omega) hL zd_L_law_130 ?_
  refine zc_wV (rest := []) (wr := zs_wM cI cZ d v) [.int (xs (i + 1)), .int (xs (i + 2))] hx hb hml hown hz (zc_X_create l dC dI cI cZ a u H.size  (xs (i + 1)) (xs (i + 2))) zf_X_create rfl rfl zq_58 zq_59 zq_60 ⟨Nat.le_of_ble_eq_true rfl, Nat.le_of_ble_eq_true rfl⟩ hk hP hD hS (fun _ h => h) [0, 1, 2, 3, 4, 5, 6, 7, 8, 9, 10, 11, 12] [13, 14, 15, 16, 17, 18, 19, 20, 21, 22, 23] rfl rfl (by decide) (by decide) (by decide) 0 0 rfl rfl rfl rfl hl.1 rfl (Nat.le_of_ble_eq_true rfl) zd_L_law_131 hf (fun r0 u0 H locs er0 hP hD hS => ?_)
  obtain rfl : r0 = (zs_create u (xs (i + 1)) (xs (i + 2))).1 := congrArg Prod.fst er0
  obtain rfl : u0 = (zs_create u (xs (i + 1)) (xs (i + 2))).2 := congrArg Prod.snd er0
  refine lv_aload_n hx hb zd_L_law_134 rfl (lv_at hl 3 rfl) ?_
  refine lv_aload_n hx hb zd_L_law_135 rfl (lv_at hl 1 rfl) ?_
  refine lv_iload_n hx hb zd_L_law_136 rfl (lv_at hl 0 rfl) ?_
  refine lv_iconst (v := 1) hx hb zd_L_law_137 (by decide) ?_
  refine lv_iadd hx hb zd_L_law_138 ?_
  refine zi_top (y := nI (i + 1)) (nI_add i 1) ?_
  refine zi_sld (i := (i + 1)) hx hb hX hbl (Nat.not_le_of_lt hbl) hS (by omega) hL zd_L_law_139 ?_
  refine lv_aload_n hx hb zd_L_law_140 rfl (lv_at hl 1 rfl) ?_
  refine lv_iload_n hx hb zd_L_law_141 rfl (lv_at hl 0 rfl) ?_
  refine lv_iconst (v := 2) hx hb zd_L_law_142 (by decide) ?_
  refine lv_iadd hx hb zd_L_law_143 ?_
  refine zi_top (y := nI (i + 2)) (nI_add i 2) ?_
  refine zi_sld (i := (i + 2)) hx hb hX hbl (Nat.not_le_of_lt hbl) hS (by omega) hL zd_L_law_144 ?_
  refine zc_wV (rest := [.int ((zs_create u (xs (i + 1)) (xs (i + 2))).1)]) (wr := zs_wX cI cZ a (zs_create u (xs (i + 1)) (xs (i + 2))).2) [.int (xs (i + 1)), .int (xs (i + 2))] hx hb hml hown hz (zc_M_create l dC dI cI cZ d v H.size  (xs (i + 1)) (xs (i + 2))) zf_M_create rfl rfl zq_205 zq_206 zq_207 ⟨Nat.le_of_ble_eq_true rfl, Nat.le_of_ble_eq_true rfl⟩ hk hP hD hS (fun _ h => h) [0, 1, 2, 3, 4, 5, 6, 7, 8, 9, 10] [11, 12, 13, 14, 15, 16, 17, 18, 19, 20, 21, 22, 23] rfl rfl (by decide) (by decide) (by decide) 0 2 rfl rfl rfl rfl hl.1 rfl (Nat.le_of_ble_eq_true rfl) zd_L_law_145 hf (fun r1 u1 H locs er1 hP hD hS => ?_)
  obtain rfl : r1 = (zm_create v (xs (i + 1)) (xs (i + 2))).1 := congrArg Prod.fst er1
  obtain rfl : u1 = (zm_create v (xs (i + 1)) (xs (i + 2))).2 := congrArg Prod.snd er1
  refine lv_icmp_eq (tgt := 550) hx hb zd_L_law_148 rfl (fun _ => ?_) (fun h1 => ?_)
  · exact kk _ _ H locs (zp_create hR (xs (i + 1)) (xs (i + 2))).2 hP hD hS
  · exact absurd (zp_create hR (xs (i + 1)) (xs (i + 2))).1 h1
set_option maxHeartbeats 4000000 in
set_option maxRecDepth 100000 in
theorem zl_1 {p : Program} {e : Env} {s : State} {m : MethodId} {below : List Frame} {meth : Method} {c : Code} {H : Heap} {locs : List Loc} {ls : Array Slot} {cells slots : Nat} {Q : State → Prop} (l : Launch) {b L i : Nat} {xs : Nat → Int32} {dC : Nat → ClassId} {dI : Nat → Nat → Nat} {cI cZ : ClassId} {a d : Nat → Nat} {u v : zs_X} (hx : p.tables.exec = Jvm.exec) (hb : c.code = code) (hml : c.maxLocals = 4) (hown : s.vm.findClass "ZoneShelfLaw" = some m.cls) (hz : ∀ w ∈ zs_w, w.before #[Value.ref b] s = true) (hk : zs_k dC dI cI cZ s) (hX : va_X b L xs s s.heap) (hbl : b < s.heap.size) (hl : lv_has ls 4 [(3, .int (nI i)), (0, .ref b), (1, .ref (a 0)), (2, .ref (d 0))]) (hi : i + 4 ≤ L) (hL : L ≤ 2048) (hP : va_P (dC, dI) zs_cl (zs_wX cI cZ a u ++ zs_wM cI cZ d v) H) (hD : va_D (fun q => s.heap.size ≤ q) (zs_wX cI cZ a u ++ zs_wM cI cZ d v)) (hS : va_S (fun q => s.heap.size ≤ q) s.heap H locs) (hR : zp_R u v) (hf : cells ≤ room_1.cells ∧ slots ≤ room_1.slots)
    (kk : ∀ (u v : zs_X) (H : Heap) (locs : List Loc), zp_R u v → va_P (dC, dI) zs_cl (zs_wX cI cZ a u ++ zs_wM cI cZ d v) H → va_D (fun q => s.heap.size ≤ q) (zs_wX cI cZ a u ++ zs_wM cI cZ d v) → va_S (fun q => s.heap.size ≤ q) s.heap H locs → W p l e room_1 s m #[Value.ref b] below meth c H locs cells slots Q (F0 m 550 ls [])) : W p l e room_1 s m #[Value.ref b] below meth c H locs cells slots Q (F0 m 153 ls []) := by
  refine lv_aload_n hx hb zd_L_law_153 rfl (lv_at hl 2 rfl) ?_
  refine lv_aload_n hx hb zd_L_law_154 rfl (lv_at hl 1 rfl) ?_
  refine lv_iload_n hx hb zd_L_law_155 rfl (lv_at hl 0 rfl) ?_
  refine lv_iconst (v := 1) hx hb zd_L_law_156 (by decide) ?_
  refine lv_iadd hx hb zd_L_law_157 ?_
  refine zi_top (y := nI (i + 1)) (nI_add i 1) ?_
  refine zi_sld (i := (i + 1)) hx hb hX hbl (Nat.not_le_of_lt hbl) hS (by omega) hL zd_L_law_158 ?_
  refine lv_aload_n hx hb zd_L_law_159 rfl (lv_at hl 1 rfl) ?_
  refine lv_iload_n hx hb zd_L_law_160 rfl (lv_at hl 0 rfl) ?_
  refine lv_iconst (v := 2) hx hb zd_L_law_161 (by decide) ?_
  refine lv_iadd hx hb zd_L_law_162 ?_
  refine zi_top (y := nI (i + 2)) (nI_add i 2) ?_
  refine zi_sld (i := (i + 2)) hx hb hX hbl (Nat.not_le_of_lt hbl) hS (by omega) hL zd_L_law_163 ?_
  refine zc_wV (rest := []) (wr := zs_wM cI cZ d v) [.int (xs (i + 1)), .int (xs (i + 2))] hx hb hml hown hz (zc_X_append l dC dI cI cZ a u H.size (zp_ok1 hR) (xs (i + 1)) (xs (i + 2))) zf_X_append rfl rfl zq_80 zq_81 zq_82 ⟨Nat.le_of_ble_eq_true rfl, Nat.le_of_ble_eq_true rfl⟩ hk hP hD hS (fun _ h => h) [0, 1, 2, 3, 4, 5, 6, 7, 8, 9, 10, 11, 12] [13, 14, 15, 16, 17, 18, 19, 20, 21, 22, 23] rfl rfl (by decide) (by decide) (by decide) 0 0 rfl rfl rfl rfl hl.1 rfl (Nat.le_of_ble_eq_true rfl) zd_L_law_164 hf (fun r0 u0 H locs er0 hP hD hS => ?_)
  obtain rfl : r0 = (zs_appendRow u (xs (i + 1)) (xs (i + 2)) 1).1 := congrArg Prod.fst er0
  obtain rfl : u0 = (zs_appendRow u (xs (i + 1)) (xs (i + 2)) 1).2 := congrArg Prod.snd er0
  refine lv_aload_n hx hb zd_L_law_167 rfl (lv_at hl 3 rfl) ?_
  refine lv_aload_n hx hb zd_L_law_168 rfl (lv_at hl 1 rfl) ?_
  refine lv_iload_n hx hb zd_L_law_169 rfl (lv_at hl 0 rfl) ?_
  refine lv_iconst (v := 1) hx hb zd_L_law_170 (by decide) ?_
  refine lv_iadd hx hb zd_L_law_171 ?_
  refine zi_top (y := nI (i + 1)) (nI_add i 1) ?_
  refine zi_sld (i := (i + 1)) hx hb hX hbl (Nat.not_le_of_lt hbl) hS (by omega) hL zd_L_law_172 ?_
  refine lv_aload_n hx hb zd_L_law_173 rfl (lv_at hl 1 rfl) ?_
  refine lv_iload_n hx hb zd_L_law_174 rfl (lv_at hl 0 rfl) ?_
  refine lv_iconst (v := 2) hx hb zd_L_law_175 (by decide) ?_
  refine lv_iadd hx hb zd_L_law_176 ?_
  refine zi_top (y := nI (i + 2)) (nI_add i 2) ?_
  refine zi_sld (i := (i + 2)) hx hb hX hbl (Nat.not_le_of_lt hbl) hS (by omega) hL zd_L_law_177 ?_
  refine zc_wV (rest := [.int ((zs_appendRow u (xs (i + 1)) (xs (i + 2)) 1).1)]) (wr := zs_wX cI cZ a (zs_appendRow u (xs (i + 1)) (xs (i + 2)) 1).2) [.int (xs (i + 1)), .int (xs (i + 2))] hx hb hml hown hz (zc_M_append l dC dI cI cZ d v H.size (zp_ok2 hR) (xs (i + 1)) (xs (i + 2))) zf_M_append rfl rfl zq_218 zq_219 zq_220 ⟨Nat.le_of_ble_eq_true rfl, Nat.le_of_ble_eq_true rfl⟩ hk hP hD hS (fun _ h => h) [0, 1, 2, 3, 4, 5, 6, 7, 8, 9, 10] [11, 12, 13, 14, 15, 16, 17, 18, 19, 20, 21, 22, 23] rfl rfl (by decide) (by decide) (by decide) 0 2 rfl rfl rfl rfl hl.1 rfl (Nat.le_of_ble_eq_true rfl) zd_L_law_178 hf (fun r1 u1 H locs er1 hP hD hS => ?_)
  obtain rfl : r1 = (zm_appendRow v (xs (i + 1)) (xs (i + 2)) 1).1 := congrArg Prod.fst er1
  obtain rfl : u1 = (zm_appendRow v (xs (i + 1)) (xs (i + 2)) 1).2 := congrArg Prod.snd er1
  refine lv_icmp_eq (tgt := 550) hx hb zd_L_law_181 rfl (fun _ => ?_) (fun h1 => ?_)
  · exact kk _ _ H locs (zp_appendRow hR (xs (i + 1)) (xs (i + 2)) 1).2 hP hD hS
  · exact absurd (zp_appendRow hR (xs (i + 1)) (xs (i + 2)) 1).1 h1
set_option maxHeartbeats 4000000 in
set_option maxRecDepth 100000 in
theorem zl_2 {p : Program} {e : Env} {s : State} {m : MethodId} {below : List Frame} {meth : Method} {c : Code} {H : Heap} {locs : List Loc} {ls : Array Slot} {cells slots : Nat} {Q : State → Prop} (l : Launch) {b L i : Nat} {xs : Nat → Int32} {dC : Nat → ClassId} {dI : Nat → Nat → Nat} {cI cZ : ClassId} {a d : Nat → Nat} {u v : zs_X} (hx : p.tables.exec = Jvm.exec) (hb : c.code = code) (hml : c.maxLocals = 4) (hown : s.vm.findClass "ZoneShelfLaw" = some m.cls) (hz : ∀ w ∈ zs_w, w.before #[Value.ref b] s = true) (hk : zs_k dC dI cI cZ s) (hX : va_X b L xs s s.heap) (hbl : b < s.heap.size) (hl : lv_has ls 4 [(3, .int (nI i)), (0, .ref b), (1, .ref (a 0)), (2, .ref (d 0))]) (hi : i + 4 ≤ L) (hL : L ≤ 2048) (hP : va_P (dC, dI) zs_cl (zs_wX cI cZ a u ++ zs_wM cI cZ d v) H) (hD : va_D (fun q => s.heap.size ≤ q) (zs_wX cI cZ a u ++ zs_wM cI cZ d v)) (hS : va_S (fun q => s.heap.size ≤ q) s.heap H locs) (hR : zp_R u v) (hf : cells ≤ room_1.cells ∧ slots ≤ room_1.slots)
    (kk : ∀ (u v : zs_X) (H : Heap) (locs : List Loc), zp_R u v → va_P (dC, dI) zs_cl (zs_wX cI cZ a u ++ zs_wM cI cZ d v) H → va_D (fun q => s.heap.size ≤ q) (zs_wX cI cZ a u ++ zs_wM cI cZ d v) → va_S (fun q => s.heap.size ≤ q) s.heap H locs → W p l e room_1 s m #[Value.ref b] below meth c H locs cells slots Q (F0 m 550 ls [])) : W p l e room_1 s m #[Value.ref b] below meth c H locs cells slots Q (F0 m 186 ls []) := by
  refine lv_aload_n hx hb zd_L_law_186 rfl (lv_at hl 2 rfl) ?_
  refine lv_aload_n hx hb zd_L_law_187 rfl (lv_at hl 1 rfl) ?_
  refine lv_iload_n hx hb zd_L_law_188 rfl (lv_at hl 0 rfl) ?_
  refine lv_iconst (v := 1) hx hb zd_L_law_189 (by decide) ?_
  refine lv_iadd hx hb zd_L_law_190 ?_
  refine zi_top (y := nI (i + 1)) (nI_add i 1) ?_
  refine zi_sld (i := (i + 1)) hx hb hX hbl (Nat.not_le_of_lt hbl) hS (by omega) hL zd_L_law_191 ?_
  refine lv_aload_n hx hb zd_L_law_192 rfl (lv_at hl 1 rfl) ?_
  refine lv_iload_n hx hb zd_L_law_193 rfl (lv_at hl 0 rfl) ?_
  refine lv_iconst (v := 2) hx hb zd_L_law_194 (by decide) ?_
  refine lv_iadd hx hb zd_L_law_195 ?_
  refine zi_top (y := nI (i + 2)) (nI_add i 2) ?_
  refine zi_sld (i := (i + 2)) hx hb hX hbl (Nat.not_le_of_lt hbl) hS (by omega) hL zd_L_law_196 ?_
  refine lv_aload_n hx hb zd_L_law_197 rfl (lv_at hl 1 rfl) ?_
  refine lv_iload_n hx hb zd_L_law_198 rfl (lv_at hl 0 rfl) ?_
  refine lv_iconst (v := 3) hx hb zd_L_law_199 (by decide) ?_
  refine lv_iadd hx hb zd_L_law_200 ?_
  refine zi_top (y := nI (i + 3)) (nI_add i 3) ?_
  refine zi_sld (i := (i + 3)) hx hb hX hbl (Nat.not_le_of_lt hbl) hS (by omega) hL zd_L_law_201 ?_
  refine zc_wV (rest := []) (wr := zs_wM cI cZ d v) [.int (xs (i + 1)), .int (xs (i + 2)), .int (xs (i + 3))] hx hb hml hown hz (zc_X_appendRow l dC dI cI cZ a u H.size (zp_ok1 hR) (xs (i + 1)) (xs (i + 2)) (xs (i + 3))) zf_X_appendRow rfl rfl zq_101 zq_85 zq_86 ⟨Nat.le_of_ble_eq_true rfl, Nat.le_of_ble_eq_true rfl⟩ hk hP hD hS (fun _ h => h) [0, 1, 2, 3, 4, 5, 6, 7, 8, 9, 10, 11, 12] [13, 14, 15, 16, 17, 18, 19, 20, 21, 22, 23] rfl rfl (by decide) (by decide) (by decide) 0 0 rfl rfl rfl rfl hl.1 rfl (Nat.le_of_ble_eq_true rfl) zd_L_law_202 hf (fun r0 u0 H locs er0 hP hD hS => ?_)
  obtain rfl : r0 = (zs_appendRow u (xs (i + 1)) (xs (i + 2)) (xs (i + 3))).1 := congrArg Prod.fst er0
  obtain rfl : u0 = (zs_appendRow u (xs (i + 1)) (xs (i + 2)) (xs (i + 3))).2 := congrArg Prod.snd er0
  refine lv_aload_n hx hb zd_L_law_205 rfl (lv_at hl 3 rfl) ?_
  refine lv_aload_n hx hb zd_L_law_206 rfl (lv_at hl 1 rfl) ?_
  refine lv_iload_n hx hb zd_L_law_207 rfl (lv_at hl 0 rfl) ?_
  refine lv_iconst (v := 1) hx hb zd_L_law_208 (by decide) ?_
  refine lv_iadd hx hb zd_L_law_209 ?_
  refine zi_top (y := nI (i + 1)) (nI_add i 1) ?_
  refine zi_sld (i := (i + 1)) hx hb hX hbl (Nat.not_le_of_lt hbl) hS (by omega) hL zd_L_law_210 ?_
  refine lv_aload_n hx hb zd_L_law_211 rfl (lv_at hl 1 rfl) ?_
  refine lv_iload_n hx hb zd_L_law_212 rfl (lv_at hl 0 rfl) ?_
  refine lv_iconst (v := 2) hx hb zd_L_law_213 (by decide) ?_
  refine lv_iadd hx hb zd_L_law_214 ?_
  refine zi_top (y := nI (i + 2)) (nI_add i 2) ?_
  refine zi_sld (i := (i + 2)) hx hb hX hbl (Nat.not_le_of_lt hbl) hS (by omega) hL zd_L_law_215 ?_
  refine lv_aload_n hx hb zd_L_law_216 rfl (lv_at hl 1 rfl) ?_
  refine lv_iload_n hx hb zd_L_law_217 rfl (lv_at hl 0 rfl) ?_
  refine lv_iconst (v := 3) hx hb zd_L_law_218 (by decide) ?_
  refine lv_iadd hx hb zd_L_law_219 ?_
  refine zi_top (y := nI (i + 3)) (nI_add i 3) ?_
  refine zi_sld (i := (i + 3)) hx hb hX hbl (Nat.not_le_of_lt hbl) hS (by omega) hL zd_L_law_220 ?_
  refine zc_wV (rest := [.int ((zs_appendRow u (xs (i + 1)) (xs (i + 2)) (xs (i + 3))).1)]) (wr := zs_wX cI cZ a (zs_appendRow u (xs (i + 1)) (xs (i + 2)) (xs (i + 3))).2) [.int (xs (i + 1)), .int (xs (i + 2)), .int (xs (i + 3))] hx hb hml hown hz (zc_M_appendRow l dC dI cI cZ d v H.size (zp_ok2 hR) (xs (i + 1)) (xs (i + 2)) (xs (i + 3))) zf_M_appendRow rfl rfl zq_229 zq_223 zq_224 ⟨Nat.le_of_ble_eq_true rfl, Nat.le_of_ble_eq_true rfl⟩ hk hP hD hS (fun _ h => h) [0, 1, 2, 3, 4, 5, 6, 7, 8, 9, 10] [11, 12, 13, 14, 15, 16, 17, 18, 19, 20, 21, 22, 23] rfl rfl (by decide) (by decide) (by decide) 0 2 rfl rfl rfl rfl hl.1 rfl (Nat.le_of_ble_eq_true rfl) zd_L_law_221 hf (fun r1 u1 H locs er1 hP hD hS => ?_)
  obtain rfl : r1 = (zm_appendRow v (xs (i + 1)) (xs (i + 2)) (xs (i + 3))).1 := congrArg Prod.fst er1
  obtain rfl : u1 = (zm_appendRow v (xs (i + 1)) (xs (i + 2)) (xs (i + 3))).2 := congrArg Prod.snd er1
  refine lv_icmp_eq (tgt := 550) hx hb zd_L_law_224 rfl (fun _ => ?_) (fun h1 => ?_)
  · exact kk _ _ H locs (zp_appendRow hR (xs (i + 1)) (xs (i + 2)) (xs (i + 3))).2 hP hD hS
  · exact absurd (zp_appendRow hR (xs (i + 1)) (xs (i + 2)) (xs (i + 3))).1 h1
set_option maxHeartbeats 4000000 in
set_option maxRecDepth 100000 in
theorem zl_3 {p : Program} {e : Env} {s : State} {m : MethodId} {below : List Frame} {meth : Method} {c : Code} {H : Heap} {locs : List Loc} {ls : Array Slot} {cells slots : Nat} {Q : State → Prop} (l : Launch) {b L i : Nat} {xs : Nat → Int32} {dC : Nat → ClassId} {dI : Nat → Nat → Nat} {cI cZ : ClassId} {a d : Nat → Nat} {u v : zs_X} (hx : p.tables.exec = Jvm.exec) (hb : c.code = code) (hml : c.maxLocals = 4) (hown : s.vm.findClass "ZoneShelfLaw" = some m.cls) (hz : ∀ w ∈ zs_w, w.before #[Value.ref b] s = true) (hk : zs_k dC dI cI cZ s) (hX : va_X b L xs s s.heap) (hbl : b < s.heap.size) (hl : lv_has ls 4 [(3, .int (nI i)), (0, .ref b), (1, .ref (a 0)), (2, .ref (d 0))]) (hi : i + 4 ≤ L) (hL : L ≤ 2048) (hP : va_P (dC, dI) zs_cl (zs_wX cI cZ a u ++ zs_wM cI cZ d v) H) (hD : va_D (fun q => s.heap.size ≤ q) (zs_wX cI cZ a u ++ zs_wM cI cZ d v)) (hS : va_S (fun q => s.heap.size ≤ q) s.heap H locs) (hR : zp_R u v) (hf : cells ≤ room_1.cells ∧ slots ≤ room_1.slots)
    (kk : ∀ (u v : zs_X) (H : Heap) (locs : List Loc), zp_R u v → va_P (dC, dI) zs_cl (zs_wX cI cZ a u ++ zs_wM cI cZ d v) H → va_D (fun q => s.heap.size ≤ q) (zs_wX cI cZ a u ++ zs_wM cI cZ d v) → va_S (fun q => s.heap.size ≤ q) s.heap H locs → W p l e room_1 s m #[Value.ref b] below meth c H locs cells slots Q (F0 m 550 ls [])) : W p l e room_1 s m #[Value.ref b] below meth c H locs cells slots Q (F0 m 229 ls []) := by
  refine lv_aload_n hx hb zd_L_law_229 rfl (lv_at hl 2 rfl) ?_
  refine lv_aload_n hx hb zd_L_law_230 rfl (lv_at hl 1 rfl) ?_
  refine lv_iload_n hx hb zd_L_law_231 rfl (lv_at hl 0 rfl) ?_
  refine lv_iconst (v := 1) hx hb zd_L_law_232 (by decide) ?_
  refine lv_iadd hx hb zd_L_law_233 ?_
  refine zi_top (y := nI (i + 1)) (nI_add i 1) ?_
  refine zi_sld (i := (i + 1)) hx hb hX hbl (Nat.not_le_of_lt hbl) hS (by omega) hL zd_L_law_234 ?_
  refine lv_aload_n hx hb zd_L_law_235 rfl (lv_at hl 1 rfl) ?_
  refine lv_iload_n hx hb zd_L_law_236 rfl (lv_at hl 0 rfl) ?_
  refine lv_iconst (v := 2) hx hb zd_L_law_237 (by decide) ?_
  refine lv_iadd hx hb zd_L_law_238 ?_
  refine zi_top (y := nI (i + 2)) (nI_add i 2) ?_
  refine zi_sld (i := (i + 2)) hx hb hX hbl (Nat.not_le_of_lt hbl) hS (by omega) hL zd_L_law_239 ?_
  refine lv_if_eq (tgt := 247) hx hb zd_L_law_240 rfl (fun h1 => ?_) (fun h1 => ?_)
  · refine lv_iconst (v := 0) hx hb zd_L_law_247 (by decide) ?_
    refine zc_wV (rest := []) (wr := zs_wM cI cZ d v) [.int (xs (i + 1)), .int 0] hx hb hml hown hz (zc_X_open l dC dI cI cZ a u H.size  (xs (i + 1)) 0) zf_X_open rfl rfl zq_102 zq_103 zq_104 ⟨Nat.le_of_ble_eq_true rfl, Nat.le_of_ble_eq_true rfl⟩ hk hP hD hS (fun _ h => h) [0, 1, 2, 3, 4, 5, 6, 7, 8, 9, 10, 11, 12] [13, 14, 15, 16, 17, 18, 19, 20, 21, 22, 23] rfl rfl (by decide) (by decide) (by decide) 0 0 rfl rfl rfl rfl hl.1 rfl (Nat.le_of_ble_eq_true rfl) zd_L_law_248 hf (fun r0 u0 H locs er0 hP hD hS => ?_)
    obtain rfl : r0 = (zs_open u (xs (i + 1)) 0).1 := congrArg Prod.fst er0
    obtain rfl : u0 = (zs_open u (xs (i + 1)) 0).2 := congrArg Prod.snd er0
    refine lv_aload_n hx hb zd_L_law_251 rfl (lv_at hl 3 rfl) ?_
    refine lv_aload_n hx hb zd_L_law_252 rfl (lv_at hl 1 rfl) ?_
    refine lv_iload_n hx hb zd_L_law_253 rfl (lv_at hl 0 rfl) ?_
    refine lv_iconst (v := 1) hx hb zd_L_law_254 (by decide) ?_
    refine lv_iadd hx hb zd_L_law_255 ?_
    refine zi_top (y := nI (i + 1)) (nI_add i 1) ?_
    refine zi_sld (i := (i + 1)) hx hb hX hbl (Nat.not_le_of_lt hbl) hS (by omega) hL zd_L_law_256 ?_
    refine lv_aload_n hx hb zd_L_law_257 rfl (lv_at hl 1 rfl) ?_
    refine lv_iload_n hx hb zd_L_law_258 rfl (lv_at hl 0 rfl) ?_
    refine lv_iconst (v := 2) hx hb zd_L_law_259 (by decide) ?_
    refine lv_iadd hx hb zd_L_law_260 ?_
    refine zi_top (y := nI (i + 2)) (nI_add i 2) ?_
    refine zi_sld (i := (i + 2)) hx hb hX hbl (Nat.not_le_of_lt hbl) hS (by omega) hL zd_L_law_261 ?_
    refine lv_if_eq (tgt := 269) hx hb zd_L_law_262 rfl (fun h2 => ?_) (fun h2 => ?_)
    · refine lv_iconst (v := 0) hx hb zd_L_law_269 (by decide) ?_
      refine zc_wV (rest := [.int ((zs_open u (xs (i + 1)) 0).1)]) (wr := zs_wX cI cZ a (zs_open u (xs (i + 1)) 0).2) [.int (xs (i + 1)), .int 0] hx hb hml hown hz (zc_M_open l dC dI cI cZ d v H.size  (xs (i + 1)) 0) zf_M_open rfl rfl zq_230 zq_231 zq_232 ⟨Nat.le_of_ble_eq_true rfl, Nat.le_of_ble_eq_true rfl⟩ hk hP hD hS (fun _ h => h) [0, 1, 2, 3, 4, 5, 6, 7, 8, 9, 10] [11, 12, 13, 14, 15, 16, 17, 18, 19, 20, 21, 22, 23] rfl rfl (by decide) (by decide) (by decide) 0 2 rfl rfl rfl rfl hl.1 rfl (Nat.le_of_ble_eq_true rfl) zd_L_law_270 hf (fun r1 u1 H locs er1 hP hD hS => ?_)
      obtain rfl : r1 = (zm_open v (xs (i + 1)) 0).1 := congrArg Prod.fst er1
      obtain rfl : u1 = (zm_open v (xs (i + 1)) 0).2 := congrArg Prod.snd er1
      refine lv_icmp_eq (tgt := 550) hx hb zd_L_law_273 rfl (fun _ => ?_) (fun h3 => ?_)
      · exact kk _ _ H locs (zp_open hR (xs (i + 1)) 0).2 hP hD hS
      · exact absurd (zp_open hR (xs (i + 1)) 0).1 h3
    · exact absurd h1 h2
  · refine lv_iconst (v := 1) hx hb zd_L_law_243 (by decide) ?_
    refine lv_goto (tgt := 248) hx hb zd_L_law_244 rfl ?_
    refine zc_wV (rest := []) (wr := zs_wM cI cZ d v) [.int (xs (i + 1)), .int 1] hx hb hml hown hz (zc_X_open l dC dI cI cZ a u H.size  (xs (i + 1)) 1) zf_X_open rfl rfl zq_102 zq_103 zq_104 ⟨Nat.le_of_ble_eq_true rfl, Nat.le_of_ble_eq_true rfl⟩ hk hP hD hS (fun _ h => h) [0, 1, 2, 3, 4, 5, 6, 7, 8, 9, 10, 11, 12] [13, 14, 15, 16, 17, 18, 19, 20, 21, 22, 23] rfl rfl (by decide) (by decide) (by decide) 0 0 rfl rfl rfl rfl hl.1 rfl (Nat.le_of_ble_eq_true rfl) zd_L_law_248 hf (fun r0 u0 H locs er0 hP hD hS => ?_)
    obtain rfl : r0 = (zs_open u (xs (i + 1)) 1).1 := congrArg Prod.fst er0
    obtain rfl : u0 = (zs_open u (xs (i + 1)) 1).2 := congrArg Prod.snd er0
    refine lv_aload_n hx hb zd_L_law_251 rfl (lv_at hl 3 rfl) ?_
    refine lv_aload_n hx hb zd_L_law_252 rfl (lv_at hl 1 rfl) ?_
    refine lv_iload_n hx hb zd_L_law_253 rfl (lv_at hl 0 rfl) ?_
    refine lv_iconst (v := 1) hx hb zd_L_law_254 (by decide) ?_
    refine lv_iadd hx hb zd_L_law_255 ?_
    refine zi_top (y := nI (i + 1)) (nI_add i 1) ?_
    refine zi_sld (i := (i + 1)) hx hb hX hbl (Nat.not_le_of_lt hbl) hS (by omega) hL zd_L_law_256 ?_
    refine lv_aload_n hx hb zd_L_law_257 rfl (lv_at hl 1 rfl) ?_
    refine lv_iload_n hx hb zd_L_law_258 rfl (lv_at hl 0 rfl) ?_
    refine lv_iconst (v := 2) hx hb zd_L_law_259 (by decide) ?_
    refine lv_iadd hx hb zd_L_law_260 ?_
    refine zi_top (y := nI (i + 2)) (nI_add i 2) ?_
    refine zi_sld (i := (i + 2)) hx hb hX hbl (Nat.not_le_of_lt hbl) hS (by omega) hL zd_L_law_261 ?_
    refine lv_if_eq (tgt := 269) hx hb zd_L_law_262 rfl (fun h2 => ?_) (fun h2 => ?_)
    · exact absurd h2 h1
    · refine lv_iconst (v := 1) hx hb zd_L_law_265 (by decide) ?_
      refine lv_goto (tgt := 270) hx hb zd_L_law_266 rfl ?_
      refine zc_wV (rest := [.int ((zs_open u (xs (i + 1)) 1).1)]) (wr := zs_wX cI cZ a (zs_open u (xs (i + 1)) 1).2) [.int (xs (i + 1)), .int 1] hx hb hml hown hz (zc_M_open l dC dI cI cZ d v H.size  (xs (i + 1)) 1) zf_M_open rfl rfl zq_230 zq_231 zq_232 ⟨Nat.le_of_ble_eq_true rfl, Nat.le_of_ble_eq_true rfl⟩ hk hP hD hS (fun _ h => h) [0, 1, 2, 3, 4, 5, 6, 7, 8, 9, 10] [11, 12, 13, 14, 15, 16, 17, 18, 19, 20, 21, 22, 23] rfl rfl (by decide) (by decide) (by decide) 0 2 rfl rfl rfl rfl hl.1 rfl (Nat.le_of_ble_eq_true rfl) zd_L_law_270 hf (fun r1 u1 H locs er1 hP hD hS => ?_)
      obtain rfl : r1 = (zm_open v (xs (i + 1)) 1).1 := congrArg Prod.fst er1
      obtain rfl : u1 = (zm_open v (xs (i + 1)) 1).2 := congrArg Prod.snd er1
      refine lv_icmp_eq (tgt := 550) hx hb zd_L_law_273 rfl (fun _ => ?_) (fun h3 => ?_)
      · exact kk _ _ H locs (zp_open hR (xs (i + 1)) 1).2 hP hD hS
      · exact absurd (zp_open hR (xs (i + 1)) 1).1 h3
set_option maxHeartbeats 4000000 in
set_option maxRecDepth 100000 in
theorem zl_4 {p : Program} {e : Env} {s : State} {m : MethodId} {below : List Frame} {meth : Method} {c : Code} {H : Heap} {locs : List Loc} {ls : Array Slot} {cells slots : Nat} {Q : State → Prop} (l : Launch) {b L i : Nat} {xs : Nat → Int32} {dC : Nat → ClassId} {dI : Nat → Nat → Nat} {cI cZ : ClassId} {a d : Nat → Nat} {u v : zs_X} (hx : p.tables.exec = Jvm.exec) (hb : c.code = code) (hml : c.maxLocals = 4) (hown : s.vm.findClass "ZoneShelfLaw" = some m.cls) (hz : ∀ w ∈ zs_w, w.before #[Value.ref b] s = true) (hk : zs_k dC dI cI cZ s) (hX : va_X b L xs s s.heap) (hbl : b < s.heap.size) (hl : lv_has ls 4 [(3, .int (nI i)), (0, .ref b), (1, .ref (a 0)), (2, .ref (d 0))]) (hi : i + 4 ≤ L) (hL : L ≤ 2048) (hP : va_P (dC, dI) zs_cl (zs_wX cI cZ a u ++ zs_wM cI cZ d v) H) (hD : va_D (fun q => s.heap.size ≤ q) (zs_wX cI cZ a u ++ zs_wM cI cZ d v)) (hS : va_S (fun q => s.heap.size ≤ q) s.heap H locs) (hR : zp_R u v) (hf : cells ≤ room_1.cells ∧ slots ≤ room_1.slots)
    (kk : ∀ (u v : zs_X) (H : Heap) (locs : List Loc), zp_R u v → va_P (dC, dI) zs_cl (zs_wX cI cZ a u ++ zs_wM cI cZ d v) H → va_D (fun q => s.heap.size ≤ q) (zs_wX cI cZ a u ++ zs_wM cI cZ d v) → va_S (fun q => s.heap.size ≤ q) s.heap H locs → W p l e room_1 s m #[Value.ref b] below meth c H locs cells slots Q (F0 m 550 ls [])) : W p l e room_1 s m #[Value.ref b] below meth c H locs cells slots Q (F0 m 278 ls []) := by
  refine lv_aload_n hx hb zd_L_law_278 rfl (lv_at hl 2 rfl) ?_
  refine lv_aload_n hx hb zd_L_law_279 rfl (lv_at hl 1 rfl) ?_
  refine lv_iload_n hx hb zd_L_law_280 rfl (lv_at hl 0 rfl) ?_
  refine lv_iconst (v := 1) hx hb zd_L_law_281 (by decide) ?_
  refine lv_iadd hx hb zd_L_law_282 ?_
  refine zi_top (y := nI (i + 1)) (nI_add i 1) ?_
  refine zi_sld (i := (i + 1)) hx hb hX hbl (Nat.not_le_of_lt hbl) hS (by omega) hL zd_L_law_283 ?_
  refine zc_wV (rest := []) (wr := zs_wM cI cZ d v) [.int (xs (i + 1))] hx hb hml hown hz (zc_X_remove l dC dI cI cZ a u H.size  (xs (i + 1))) zf_X_remove rfl rfl zq_106 zq_107 zq_108 ⟨Nat.le_of_ble_eq_true rfl, Nat.le_of_ble_eq_true rfl⟩ hk hP hD hS (fun _ h => h) [0, 1, 2, 3, 4, 5, 6, 7, 8, 9, 10, 11, 12] [13, 14, 15, 16, 17, 18, 19, 20, 21, 22, 23] rfl rfl (by decide) (by decide) (by decide) 0 0 rfl rfl rfl rfl hl.1 rfl (Nat.le_of_ble_eq_true rfl) zd_L_law_284 hf (fun r0 u0 H locs er0 hP hD hS => ?_)
  obtain rfl : r0 = (zs_remove u (xs (i + 1))).1 := congrArg Prod.fst er0
  obtain rfl : u0 = (zs_remove u (xs (i + 1))).2 := congrArg Prod.snd er0
  refine lv_aload_n hx hb zd_L_law_287 rfl (lv_at hl 3 rfl) ?_
  refine lv_aload_n hx hb zd_L_law_288 rfl (lv_at hl 1 rfl) ?_
  refine lv_iload_n hx hb zd_L_law_289 rfl (lv_at hl 0 rfl) ?_
  refine lv_iconst (v := 1) hx hb zd_L_law_290 (by decide) ?_
  refine lv_iadd hx hb zd_L_law_291 ?_
  refine zi_top (y := nI (i + 1)) (nI_add i 1) ?_
  refine zi_sld (i := (i + 1)) hx hb hX hbl (Nat.not_le_of_lt hbl) hS (by omega) hL zd_L_law_292 ?_
  refine zc_wV (rest := [.int ((zs_remove u (xs (i + 1))).1)]) (wr := zs_wX cI cZ a (zs_remove u (xs (i + 1))).2) [.int (xs (i + 1))] hx hb hml hown hz (zc_M_remove l dC dI cI cZ d v H.size  (xs (i + 1))) zf_M_remove rfl rfl zq_234 zq_235 zq_236 ⟨Nat.le_of_ble_eq_true rfl, Nat.le_of_ble_eq_true rfl⟩ hk hP hD hS (fun _ h => h) [0, 1, 2, 3, 4, 5, 6, 7, 8, 9, 10] [11, 12, 13, 14, 15, 16, 17, 18, 19, 20, 21, 22, 23] rfl rfl (by decide) (by decide) (by decide) 0 2 rfl rfl rfl rfl hl.1 rfl (Nat.le_of_ble_eq_true rfl) zd_L_law_293 hf (fun r1 u1 H locs er1 hP hD hS => ?_)
  obtain rfl : r1 = (zm_remove v (xs (i + 1))).1 := congrArg Prod.fst er1
  obtain rfl : u1 = (zm_remove v (xs (i + 1))).2 := congrArg Prod.snd er1
  refine lv_icmp_eq (tgt := 550) hx hb zd_L_law_296 rfl (fun _ => ?_) (fun h1 => ?_)
  · exact kk _ _ H locs (zp_remove hR (xs (i + 1))).2 hP hD hS
  · exact absurd (zp_remove hR (xs (i + 1))).1 h1
set_option maxHeartbeats 4000000 in
set_option maxRecDepth 100000 in
theorem zl_5 {p : Program} {e : Env} {s : State} {m : MethodId} {below : List Frame} {meth : Method} {c : Code} {H : Heap} {locs : List Loc} {ls : Array Slot} {cells slots : Nat} {Q : State → Prop} (l : Launch) {b L i : Nat} {xs : Nat → Int32} {dC : Nat → ClassId} {dI : Nat → Nat → Nat} {cI cZ : ClassId} {a d : Nat → Nat} {u v : zs_X} (hx : p.tables.exec = Jvm.exec) (hb : c.code = code) (hml : c.maxLocals = 4) (hown : s.vm.findClass "ZoneShelfLaw" = some m.cls) (hz : ∀ w ∈ zs_w, w.before #[Value.ref b] s = true) (hk : zs_k dC dI cI cZ s) (hX : va_X b L xs s s.heap) (hbl : b < s.heap.size) (hl : lv_has ls 4 [(3, .int (nI i)), (0, .ref b), (1, .ref (a 0)), (2, .ref (d 0))]) (hi : i + 4 ≤ L) (hL : L ≤ 2048) (hP : va_P (dC, dI) zs_cl (zs_wX cI cZ a u ++ zs_wM cI cZ d v) H) (hD : va_D (fun q => s.heap.size ≤ q) (zs_wX cI cZ a u ++ zs_wM cI cZ d v)) (hS : va_S (fun q => s.heap.size ≤ q) s.heap H locs) (hR : zp_R u v) (hf : cells ≤ room_1.cells ∧ slots ≤ room_1.slots)
    (kk : ∀ (u v : zs_X) (H : Heap) (locs : List Loc), zp_R u v → va_P (dC, dI) zs_cl (zs_wX cI cZ a u ++ zs_wM cI cZ d v) H → va_D (fun q => s.heap.size ≤ q) (zs_wX cI cZ a u ++ zs_wM cI cZ d v) → va_S (fun q => s.heap.size ≤ q) s.heap H locs → W p l e room_1 s m #[Value.ref b] below meth c H locs cells slots Q (F0 m 550 ls [])) : W p l e room_1 s m #[Value.ref b] below meth c H locs cells slots Q (F0 m 301 ls []) := by
  refine lv_aload_n hx hb zd_L_law_301 rfl (lv_at hl 2 rfl) ?_
  refine lv_aload_n hx hb zd_L_law_302 rfl (lv_at hl 1 rfl) ?_
  refine lv_iload_n hx hb zd_L_law_303 rfl (lv_at hl 0 rfl) ?_
  refine lv_iconst (v := 1) hx hb zd_L_law_304 (by decide) ?_
  refine lv_iadd hx hb zd_L_law_305 ?_
  refine zi_top (y := nI (i + 1)) (nI_add i 1) ?_
  refine zi_sld (i := (i + 1)) hx hb hX hbl (Nat.not_le_of_lt hbl) hS (by omega) hL zd_L_law_306 ?_
  refine lv_aload_n hx hb zd_L_law_307 rfl (lv_at hl 1 rfl) ?_
  refine lv_iload_n hx hb zd_L_law_308 rfl (lv_at hl 0 rfl) ?_
  refine lv_iconst (v := 2) hx hb zd_L_law_309 (by decide) ?_
  refine lv_iadd hx hb zd_L_law_310 ?_
  refine zi_top (y := nI (i + 2)) (nI_add i 2) ?_
  refine zi_sld (i := (i + 2)) hx hb hX hbl (Nat.not_le_of_lt hbl) hS (by omega) hL zd_L_law_311 ?_
  refine zc_wV (rest := []) (wr := zs_wM cI cZ d v) [.int (xs (i + 1)), .int (xs (i + 2))] hx hb hml hown hz (zc_X_rename l dC dI cI cZ a u H.size  (xs (i + 1)) (xs (i + 2))) zf_X_rename rfl rfl zq_112 zq_113 zq_114 ⟨Nat.le_of_ble_eq_true rfl, Nat.le_of_ble_eq_true rfl⟩ hk hP hD hS (fun _ h => h) [0, 1, 2, 3, 4, 5, 6, 7, 8, 9, 10, 11, 12] [13, 14, 15, 16, 17, 18, 19, 20, 21, 22, 23] rfl rfl (by decide) (by decide) (by decide) 0 0 rfl rfl rfl rfl hl.1 rfl (Nat.le_of_ble_eq_true rfl) zd_L_law_312 hf (fun r0 u0 H locs er0 hP hD hS => ?_)
  obtain rfl : r0 = (zs_rename u (xs (i + 1)) (xs (i + 2))).1 := congrArg Prod.fst er0
  obtain rfl : u0 = (zs_rename u (xs (i + 1)) (xs (i + 2))).2 := congrArg Prod.snd er0
  refine lv_aload_n hx hb zd_L_law_315 rfl (lv_at hl 3 rfl) ?_
  refine lv_aload_n hx hb zd_L_law_316 rfl (lv_at hl 1 rfl) ?_
  refine lv_iload_n hx hb zd_L_law_317 rfl (lv_at hl 0 rfl) ?_
  refine lv_iconst (v := 1) hx hb zd_L_law_318 (by decide) ?_
  refine lv_iadd hx hb zd_L_law_319 ?_
  refine zi_top (y := nI (i + 1)) (nI_add i 1) ?_
  refine zi_sld (i := (i + 1)) hx hb hX hbl (Nat.not_le_of_lt hbl) hS (by omega) hL zd_L_law_320 ?_
  refine lv_aload_n hx hb zd_L_law_321 rfl (lv_at hl 1 rfl) ?_
  refine lv_iload_n hx hb zd_L_law_322 rfl (lv_at hl 0 rfl) ?_
  refine lv_iconst (v := 2) hx hb zd_L_law_323 (by decide) ?_
  refine lv_iadd hx hb zd_L_law_324 ?_
  refine zi_top (y := nI (i + 2)) (nI_add i 2) ?_
  refine zi_sld (i := (i + 2)) hx hb hX hbl (Nat.not_le_of_lt hbl) hS (by omega) hL zd_L_law_325 ?_
  refine zc_wV (rest := [.int ((zs_rename u (xs (i + 1)) (xs (i + 2))).1)]) (wr := zs_wX cI cZ a (zs_rename u (xs (i + 1)) (xs (i + 2))).2) [.int (xs (i + 1)), .int (xs (i + 2))] hx hb hml hown hz (zc_M_rename l dC dI cI cZ d v H.size  (xs (i + 1)) (xs (i + 2))) zf_M_rename rfl rfl zq_238 zq_239 zq_240 ⟨Nat.le_of_ble_eq_true rfl, Nat.le_of_ble_eq_true rfl⟩ hk hP hD hS (fun _ h => h) [0, 1, 2, 3, 4, 5, 6, 7, 8, 9, 10] [11, 12, 13, 14, 15, 16, 17, 18, 19, 20, 21, 22, 23] rfl rfl (by decide) (by decide) (by decide) 0 2 rfl rfl rfl rfl hl.1 rfl (Nat.le_of_ble_eq_true rfl) zd_L_law_326 hf (fun r1 u1 H locs er1 hP hD hS => ?_)
  obtain rfl : r1 = (zm_rename v (xs (i + 1)) (xs (i + 2))).1 := congrArg Prod.fst er1
  obtain rfl : u1 = (zm_rename v (xs (i + 1)) (xs (i + 2))).2 := congrArg Prod.snd er1
  refine lv_icmp_eq (tgt := 550) hx hb zd_L_law_329 rfl (fun _ => ?_) (fun h1 => ?_)
  · exact kk _ _ H locs (zp_rename hR (xs (i + 1)) (xs (i + 2))).2 hP hD hS
  · exact absurd (zp_rename hR (xs (i + 1)) (xs (i + 2))).1 h1
set_option maxHeartbeats 4000000 in
set_option maxRecDepth 100000 in
theorem zl_6 {p : Program} {e : Env} {s : State} {m : MethodId} {below : List Frame} {meth : Method} {c : Code} {H : Heap} {locs : List Loc} {ls : Array Slot} {cells slots : Nat} {Q : State → Prop} (l : Launch) {b L i : Nat} {xs : Nat → Int32} {dC : Nat → ClassId} {dI : Nat → Nat → Nat} {cI cZ : ClassId} {a d : Nat → Nat} {u v : zs_X} (hx : p.tables.exec = Jvm.exec) (hb : c.code = code) (hml : c.maxLocals = 4) (hown : s.vm.findClass "ZoneShelfLaw" = some m.cls) (hz : ∀ w ∈ zs_w, w.before #[Value.ref b] s = true) (hk : zs_k dC dI cI cZ s) (hX : va_X b L xs s s.heap) (hbl : b < s.heap.size) (hl : lv_has ls 4 [(3, .int (nI i)), (0, .ref b), (1, .ref (a 0)), (2, .ref (d 0))]) (hi : i + 4 ≤ L) (hL : L ≤ 2048) (hP : va_P (dC, dI) zs_cl (zs_wX cI cZ a u ++ zs_wM cI cZ d v) H) (hD : va_D (fun q => s.heap.size ≤ q) (zs_wX cI cZ a u ++ zs_wM cI cZ d v)) (hS : va_S (fun q => s.heap.size ≤ q) s.heap H locs) (hR : zp_R u v) (hf : cells ≤ room_1.cells ∧ slots ≤ room_1.slots)
    (kk : ∀ (u v : zs_X) (H : Heap) (locs : List Loc), zp_R u v → va_P (dC, dI) zs_cl (zs_wX cI cZ a u ++ zs_wM cI cZ d v) H → va_D (fun q => s.heap.size ≤ q) (zs_wX cI cZ a u ++ zs_wM cI cZ d v) → va_S (fun q => s.heap.size ≤ q) s.heap H locs → W p l e room_1 s m #[Value.ref b] below meth c H locs cells slots Q (F0 m 550 ls [])) : W p l e room_1 s m #[Value.ref b] below meth c H locs cells slots Q (F0 m 334 ls []) := by
  refine lv_aload_n hx hb zd_L_law_334 rfl (lv_at hl 2 rfl) ?_
  refine zc_wV (rest := []) (wr := zs_wM cI cZ d v) [] hx hb hml hown hz (zc_X_sync l dC dI cI cZ a u H.size  ) zf_X_sync rfl rfl zq_116 zq_117 zq_118 ⟨Nat.le_of_ble_eq_true rfl, Nat.le_of_ble_eq_true rfl⟩ hk hP hD hS (fun _ h => h) [0, 1, 2, 3, 4, 5, 6, 7, 8, 9, 10, 11, 12] [13, 14, 15, 16, 17, 18, 19, 20, 21, 22, 23] rfl rfl (by decide) (by decide) (by decide) 0 0 rfl rfl rfl rfl hl.1 rfl (Nat.le_of_ble_eq_true rfl) zd_L_law_335 hf (fun r0 u0 H locs er0 hP hD hS => ?_)
  obtain rfl : r0 = (zs_sync u).1 := congrArg Prod.fst er0
  obtain rfl : u0 = (zs_sync u).2 := congrArg Prod.snd er0
  refine lv_aload_n hx hb zd_L_law_338 rfl (lv_at hl 3 rfl) ?_
  refine zc_wV (rest := [.int ((zs_sync u).1)]) (wr := zs_wX cI cZ a (zs_sync u ).2) [] hx hb hml hown hz (zc_M_sync l dC dI cI cZ d v H.size  ) zf_M_sync rfl rfl zq_242 zq_243 zq_244 ⟨Nat.le_of_ble_eq_true rfl, Nat.le_of_ble_eq_true rfl⟩ hk hP hD hS (fun _ h => h) [0, 1, 2, 3, 4, 5, 6, 7, 8, 9, 10] [11, 12, 13, 14, 15, 16, 17, 18, 19, 20, 21, 22, 23] rfl rfl (by decide) (by decide) (by decide) 0 2 rfl rfl rfl rfl hl.1 rfl (Nat.le_of_ble_eq_true rfl) zd_L_law_339 hf (fun r1 u1 H locs er1 hP hD hS => ?_)
  obtain rfl : r1 = (zm_sync v).1 := congrArg Prod.fst er1
  obtain rfl : u1 = (zm_sync v).2 := congrArg Prod.snd er1
  refine lv_icmp_eq (tgt := 550) hx hb zd_L_law_342 rfl (fun _ => ?_) (fun h1 => ?_)
  · exact kk _ _ H locs (zp_sync hR).2 hP hD hS
  · exact absurd (zp_sync hR).1 h1
set_option maxHeartbeats 4000000 in
set_option maxRecDepth 100000 in
theorem zl_7 {p : Program} {e : Env} {s : State} {m : MethodId} {below : List Frame} {meth : Method} {c : Code} {H : Heap} {locs : List Loc} {ls : Array Slot} {cells slots : Nat} {Q : State → Prop} (l : Launch) {b L i : Nat} {xs : Nat → Int32} {dC : Nat → ClassId} {dI : Nat → Nat → Nat} {cI cZ : ClassId} {a d : Nat → Nat} {u v : zs_X} (hx : p.tables.exec = Jvm.exec) (hb : c.code = code) (hml : c.maxLocals = 4) (hown : s.vm.findClass "ZoneShelfLaw" = some m.cls) (hz : ∀ w ∈ zs_w, w.before #[Value.ref b] s = true) (hk : zs_k dC dI cI cZ s) (hX : va_X b L xs s s.heap) (hbl : b < s.heap.size) (hl : lv_has ls 4 [(3, .int (nI i)), (0, .ref b), (1, .ref (a 0)), (2, .ref (d 0))]) (hi : i + 4 ≤ L) (hL : L ≤ 2048) (hP : va_P (dC, dI) zs_cl (zs_wX cI cZ a u ++ zs_wM cI cZ d v) H) (hD : va_D (fun q => s.heap.size ≤ q) (zs_wX cI cZ a u ++ zs_wM cI cZ d v)) (hS : va_S (fun q => s.heap.size ≤ q) s.heap H locs) (hR : zp_R u v) (hf : cells ≤ room_1.cells ∧ slots ≤ room_1.slots)
    (kk : ∀ (u v : zs_X) (H : Heap) (locs : List Loc), zp_R u v → va_P (dC, dI) zs_cl (zs_wX cI cZ a u ++ zs_wM cI cZ d v) H → va_D (fun q => s.heap.size ≤ q) (zs_wX cI cZ a u ++ zs_wM cI cZ d v) → va_S (fun q => s.heap.size ≤ q) s.heap H locs → W p l e room_1 s m #[Value.ref b] below meth c H locs cells slots Q (F0 m 550 ls [])) : W p l e room_1 s m #[Value.ref b] below meth c H locs cells slots Q (F0 m 347 ls []) := by
  refine lv_aload_n hx hb zd_L_law_347 rfl (lv_at hl 2 rfl) ?_
  refine zc_wV (rest := []) (wr := zs_wM cI cZ d v) [] hx hb hml hown hz (zc_X_tear l dC dI cI cZ a u H.size  ) zf_X_tear rfl rfl zq_125 zq_126 zq_127 ⟨Nat.le_of_ble_eq_true rfl, Nat.le_of_ble_eq_true rfl⟩ hk hP hD hS (fun _ h => h) [0, 1, 2, 3, 4, 5, 6, 7, 8, 9, 10, 11, 12] [13, 14, 15, 16, 17, 18, 19, 20, 21, 22, 23] rfl rfl (by decide) (by decide) (by decide) 0 0 rfl rfl rfl rfl hl.1 rfl (Nat.le_of_ble_eq_true rfl) zd_L_law_348 hf (fun r0 u0 H locs er0 hP hD hS => ?_)
  obtain rfl : r0 = (zs_cut u).1 := congrArg Prod.fst er0
  obtain rfl : u0 = (zs_cut u).2 := congrArg Prod.snd er0
  refine lv_aload_n hx hb zd_L_law_351 rfl (lv_at hl 3 rfl) ?_
  refine zc_wV (rest := [.int ((zs_cut u).1)]) (wr := zs_wX cI cZ a (zs_cut u ).2) [] hx hb hml hown hz (zc_M_tear l dC dI cI cZ d v H.size  ) zf_M_tear rfl rfl zq_246 zq_247 zq_248 ⟨Nat.le_of_ble_eq_true rfl, Nat.le_of_ble_eq_true rfl⟩ hk hP hD hS (fun _ h => h) [0, 1, 2, 3, 4, 5, 6, 7, 8, 9, 10] [11, 12, 13, 14, 15, 16, 17, 18, 19, 20, 21, 22, 23] rfl rfl (by decide) (by decide) (by decide) 0 2 rfl rfl rfl rfl hl.1 rfl (Nat.le_of_ble_eq_true rfl) zd_L_law_352 hf (fun r1 u1 H locs er1 hP hD hS => ?_)
  obtain rfl : r1 = (zm_cut v).1 := congrArg Prod.fst er1
  obtain rfl : u1 = (zm_cut v).2 := congrArg Prod.snd er1
  refine lv_icmp_eq (tgt := 550) hx hb zd_L_law_355 rfl (fun _ => ?_) (fun h1 => ?_)
  · exact kk _ _ H locs (zp_cut hR).2 hP hD hS
  · exact absurd (zp_cut hR).1 h1
set_option maxHeartbeats 4000000 in
set_option maxRecDepth 100000 in
theorem zl_8 {p : Program} {e : Env} {s : State} {m : MethodId} {below : List Frame} {meth : Method} {c : Code} {H : Heap} {locs : List Loc} {ls : Array Slot} {cells slots : Nat} {Q : State → Prop} (l : Launch) {b L i : Nat} {xs : Nat → Int32} {dC : Nat → ClassId} {dI : Nat → Nat → Nat} {cI cZ : ClassId} {a d : Nat → Nat} {u v : zs_X} (hx : p.tables.exec = Jvm.exec) (hb : c.code = code) (hml : c.maxLocals = 4) (hown : s.vm.findClass "ZoneShelfLaw" = some m.cls) (hz : ∀ w ∈ zs_w, w.before #[Value.ref b] s = true) (hk : zs_k dC dI cI cZ s) (hX : va_X b L xs s s.heap) (hbl : b < s.heap.size) (hl : lv_has ls 4 [(3, .int (nI i)), (0, .ref b), (1, .ref (a 0)), (2, .ref (d 0))]) (hi : i + 4 ≤ L) (hL : L ≤ 2048) (hP : va_P (dC, dI) zs_cl (zs_wX cI cZ a u ++ zs_wM cI cZ d v) H) (hD : va_D (fun q => s.heap.size ≤ q) (zs_wX cI cZ a u ++ zs_wM cI cZ d v)) (hS : va_S (fun q => s.heap.size ≤ q) s.heap H locs) (hR : zp_R u v) (hf : cells ≤ room_1.cells ∧ slots ≤ room_1.slots)
    (kk : ∀ (u v : zs_X) (H : Heap) (locs : List Loc), zp_R u v → va_P (dC, dI) zs_cl (zs_wX cI cZ a u ++ zs_wM cI cZ d v) H → va_D (fun q => s.heap.size ≤ q) (zs_wX cI cZ a u ++ zs_wM cI cZ d v) → va_S (fun q => s.heap.size ≤ q) s.heap H locs → W p l e room_1 s m #[Value.ref b] below meth c H locs cells slots Q (F0 m 550 ls [])) : W p l e room_1 s m #[Value.ref b] below meth c H locs cells slots Q (F0 m 360 ls []) := by
  refine lv_aload_n hx hb zd_L_law_360 rfl (lv_at hl 2 rfl) ?_
  refine zc_wV (rest := []) (wr := zs_wM cI cZ d v) [] hx hb hml hown hz (zc_X_cut l dC dI cI cZ a u H.size  ) zf_X_cut rfl rfl zq_133 zq_130 zq_131 ⟨Nat.le_of_ble_eq_true rfl, Nat.le_of_ble_eq_true rfl⟩ hk hP hD hS (fun _ h => h) [0, 1, 2, 3, 4, 5, 6, 7, 8, 9, 10, 11, 12] [13, 14, 15, 16, 17, 18, 19, 20, 21, 22, 23] rfl rfl (by decide) (by decide) (by decide) 0 0 rfl rfl rfl rfl hl.1 rfl (Nat.le_of_ble_eq_true rfl) zd_L_law_361 hf (fun r0 u0 H locs er0 hP hD hS => ?_)
  obtain rfl : r0 = (zs_cut u).1 := congrArg Prod.fst er0
  obtain rfl : u0 = (zs_cut u).2 := congrArg Prod.snd er0
  refine lv_aload_n hx hb zd_L_law_364 rfl (lv_at hl 3 rfl) ?_
  refine zc_wV (rest := [.int ((zs_cut u).1)]) (wr := zs_wX cI cZ a (zs_cut u ).2) [] hx hb hml hown hz (zc_M_cut l dC dI cI cZ d v H.size  ) zf_M_cut rfl rfl zq_254 zq_251 zq_252 ⟨Nat.le_of_ble_eq_true rfl, Nat.le_of_ble_eq_true rfl⟩ hk hP hD hS (fun _ h => h) [0, 1, 2, 3, 4, 5, 6, 7, 8, 9, 10] [11, 12, 13, 14, 15, 16, 17, 18, 19, 20, 21, 22, 23] rfl rfl (by decide) (by decide) (by decide) 0 2 rfl rfl rfl rfl hl.1 rfl (Nat.le_of_ble_eq_true rfl) zd_L_law_365 hf (fun r1 u1 H locs er1 hP hD hS => ?_)
  obtain rfl : r1 = (zm_cut v).1 := congrArg Prod.fst er1
  obtain rfl : u1 = (zm_cut v).2 := congrArg Prod.snd er1
  refine lv_icmp_eq (tgt := 550) hx hb zd_L_law_368 rfl (fun _ => ?_) (fun h1 => ?_)
  · exact kk _ _ H locs (zp_cut hR).2 hP hD hS
  · exact absurd (zp_cut hR).1 h1
set_option maxHeartbeats 4000000 in
set_option maxRecDepth 100000 in
theorem zl_9 {p : Program} {e : Env} {s : State} {m : MethodId} {below : List Frame} {meth : Method} {c : Code} {H : Heap} {locs : List Loc} {ls : Array Slot} {cells slots : Nat} {Q : State → Prop} (l : Launch) {b L i : Nat} {xs : Nat → Int32} {dC : Nat → ClassId} {dI : Nat → Nat → Nat} {cI cZ : ClassId} {a d : Nat → Nat} {u v : zs_X} (hx : p.tables.exec = Jvm.exec) (hb : c.code = code) (hml : c.maxLocals = 4) (hown : s.vm.findClass "ZoneShelfLaw" = some m.cls) (hz : ∀ w ∈ zs_w, w.before #[Value.ref b] s = true) (hk : zs_k dC dI cI cZ s) (hX : va_X b L xs s s.heap) (hbl : b < s.heap.size) (hl : lv_has ls 4 [(3, .int (nI i)), (0, .ref b), (1, .ref (a 0)), (2, .ref (d 0))]) (hi : i + 4 ≤ L) (hL : L ≤ 2048) (hP : va_P (dC, dI) zs_cl (zs_wX cI cZ a u ++ zs_wM cI cZ d v) H) (hD : va_D (fun q => s.heap.size ≤ q) (zs_wX cI cZ a u ++ zs_wM cI cZ d v)) (hS : va_S (fun q => s.heap.size ≤ q) s.heap H locs) (hR : zp_R u v) (hf : cells ≤ room_1.cells ∧ slots ≤ room_1.slots)
    (kk : ∀ (u v : zs_X) (H : Heap) (locs : List Loc), zp_R u v → va_P (dC, dI) zs_cl (zs_wX cI cZ a u ++ zs_wM cI cZ d v) H → va_D (fun q => s.heap.size ≤ q) (zs_wX cI cZ a u ++ zs_wM cI cZ d v) → va_S (fun q => s.heap.size ≤ q) s.heap H locs → W p l e room_1 s m #[Value.ref b] below meth c H locs cells slots Q (F0 m 550 ls [])) : W p l e room_1 s m #[Value.ref b] below meth c H locs cells slots Q (F0 m 373 ls []) := by
  refine lv_aload_n hx hb zd_L_law_373 rfl (lv_at hl 2 rfl) ?_
  refine zc_wV (rest := []) (wr := zs_wM cI cZ d v) [] hx hb hml hown hz (zc_X_mount l dC dI cI cZ a u H.size  ) zf_X_mount rfl rfl zq_134 zq_135 zq_136 ⟨Nat.le_of_ble_eq_true rfl, Nat.le_of_ble_eq_true rfl⟩ hk hP hD hS (fun _ h => h) [0, 1, 2, 3, 4, 5, 6, 7, 8, 9, 10, 11, 12] [13, 14, 15, 16, 17, 18, 19, 20, 21, 22, 23] rfl rfl (by decide) (by decide) (by decide) 0 0 rfl rfl rfl rfl hl.1 rfl (Nat.le_of_ble_eq_true rfl) zd_L_law_374 hf (fun r0 u0 H locs er0 hP hD hS => ?_)
  obtain rfl : r0 = (zs_mount u).1 := congrArg Prod.fst er0
  obtain rfl : u0 = (zs_mount u).2 := congrArg Prod.snd er0
  refine lv_aload_n hx hb zd_L_law_377 rfl (lv_at hl 3 rfl) ?_
  refine zc_wV (rest := [.int ((zs_mount u).1)]) (wr := zs_wX cI cZ a (zs_mount u ).2) [] hx hb hml hown hz (zc_M_mount l dC dI cI cZ d v H.size  ) zf_M_mount rfl rfl zq_255 zq_256 zq_257 ⟨Nat.le_of_ble_eq_true rfl, Nat.le_of_ble_eq_true rfl⟩ hk hP hD hS (fun _ h => h) [0, 1, 2, 3, 4, 5, 6, 7, 8, 9, 10] [11, 12, 13, 14, 15, 16, 17, 18, 19, 20, 21, 22, 23] rfl rfl (by decide) (by decide) (by decide) 0 2 rfl rfl rfl rfl hl.1 rfl (Nat.le_of_ble_eq_true rfl) zd_L_law_378 hf (fun r1 u1 H locs er1 hP hD hS => ?_)
  obtain rfl : r1 = (zm_mount v).1 := congrArg Prod.fst er1
  obtain rfl : u1 = (zm_mount v).2 := congrArg Prod.snd er1
  refine lv_icmp_eq (tgt := 550) hx hb zd_L_law_381 rfl (fun _ => ?_) (fun h1 => ?_)
  · exact kk _ _ H locs (zp_mount hR).2 hP hD hS
  · exact absurd (zp_mount hR).1 h1
set_option maxHeartbeats 4000000 in
set_option maxRecDepth 100000 in
theorem zl_10 {p : Program} {e : Env} {s : State} {m : MethodId} {below : List Frame} {meth : Method} {c : Code} {H : Heap} {locs : List Loc} {ls : Array Slot} {cells slots : Nat} {Q : State → Prop} (l : Launch) {b L i : Nat} {xs : Nat → Int32} {dC : Nat → ClassId} {dI : Nat → Nat → Nat} {cI cZ : ClassId} {a d : Nat → Nat} {u v : zs_X} (hx : p.tables.exec = Jvm.exec) (hb : c.code = code) (hml : c.maxLocals = 4) (hown : s.vm.findClass "ZoneShelfLaw" = some m.cls) (hz : ∀ w ∈ zs_w, w.before #[Value.ref b] s = true) (hk : zs_k dC dI cI cZ s) (hX : va_X b L xs s s.heap) (hbl : b < s.heap.size) (hl : lv_has ls 4 [(3, .int (nI i)), (0, .ref b), (1, .ref (a 0)), (2, .ref (d 0))]) (hi : i + 4 ≤ L) (hL : L ≤ 2048) (hP : va_P (dC, dI) zs_cl (zs_wX cI cZ a u ++ zs_wM cI cZ d v) H) (hD : va_D (fun q => s.heap.size ≤ q) (zs_wX cI cZ a u ++ zs_wM cI cZ d v)) (hS : va_S (fun q => s.heap.size ≤ q) s.heap H locs) (hR : zp_R u v) (hf : cells ≤ room_1.cells ∧ slots ≤ room_1.slots)
    (kk : ∀ (u v : zs_X) (H : Heap) (locs : List Loc), zp_R u v → va_P (dC, dI) zs_cl (zs_wX cI cZ a u ++ zs_wM cI cZ d v) H → va_D (fun q => s.heap.size ≤ q) (zs_wX cI cZ a u ++ zs_wM cI cZ d v) → va_S (fun q => s.heap.size ≤ q) s.heap H locs → W p l e room_1 s m #[Value.ref b] below meth c H locs cells slots Q (F0 m 550 ls [])) : W p l e room_1 s m #[Value.ref b] below meth c H locs cells slots Q (F0 m 386 ls []) := by
  refine lv_aload_n hx hb zd_L_law_386 rfl (lv_at hl 2 rfl) ?_
  refine zc_rV (rest := []) [] hx hb hml hown hz (zc_X_tidy l dC dI cI cZ a u  ) zf_X_tidy rfl rfl zq_138 zq_139 zq_140 ⟨Nat.le_of_ble_eq_true rfl, Nat.le_of_ble_eq_true rfl⟩ hk (hP.sub [0, 1, 2, 3, 4, 5, 6, 7, 8, 9, 10, 11, 12] rfl) 0 0 rfl rfl rfl rfl hl.1 rfl (Nat.le_of_ble_eq_true rfl) zd_L_law_387 hf (fun r0 er0 => ?_)
  obtain rfl : r0 = zs_b u.1 := er0
  refine lv_aload_n hx hb zd_L_law_390 rfl (lv_at hl 3 rfl) ?_
  refine zc_rV (rest := [.int (zs_b u.1)]) [] hx hb hml hown hz (zc_M_tidy l dC dI cI cZ d v  ) zf_M_tidy rfl rfl zq_259 zq_260 zq_261 ⟨Nat.le_of_ble_eq_true rfl, Nat.le_of_ble_eq_true rfl⟩ hk (hP.sub [13, 14, 15, 16, 17, 18, 19, 20, 21, 22, 23] rfl) 0 2 rfl rfl rfl rfl hl.1 rfl (Nat.le_of_ble_eq_true rfl) zd_L_law_391 hf (fun r1 er1 => ?_)
  obtain rfl : r1 = zs_b v.1 := er1
  refine lv_icmp_eq (tgt := 550) hx hb zd_L_law_394 rfl (fun _ => ?_) (fun h1 => ?_)
  · exact kk u v H locs hR hP hD hS
  · exact absurd (congrArg zs_b hR.1) h1
set_option maxHeartbeats 4000000 in
set_option maxRecDepth 100000 in
theorem zl_11 {p : Program} {e : Env} {s : State} {m : MethodId} {below : List Frame} {meth : Method} {c : Code} {H : Heap} {locs : List Loc} {ls : Array Slot} {cells slots : Nat} {Q : State → Prop} (l : Launch) {b L i : Nat} {xs : Nat → Int32} {dC : Nat → ClassId} {dI : Nat → Nat → Nat} {cI cZ : ClassId} {a d : Nat → Nat} {u v : zs_X} (hx : p.tables.exec = Jvm.exec) (hb : c.code = code) (hml : c.maxLocals = 4) (hown : s.vm.findClass "ZoneShelfLaw" = some m.cls) (hz : ∀ w ∈ zs_w, w.before #[Value.ref b] s = true) (hk : zs_k dC dI cI cZ s) (hX : va_X b L xs s s.heap) (hbl : b < s.heap.size) (hl : lv_has ls 4 [(3, .int (nI i)), (0, .ref b), (1, .ref (a 0)), (2, .ref (d 0))]) (hi : i + 4 ≤ L) (hL : L ≤ 2048) (hP : va_P (dC, dI) zs_cl (zs_wX cI cZ a u ++ zs_wM cI cZ d v) H) (hD : va_D (fun q => s.heap.size ≤ q) (zs_wX cI cZ a u ++ zs_wM cI cZ d v)) (hS : va_S (fun q => s.heap.size ≤ q) s.heap H locs) (hR : zp_R u v) (hf : cells ≤ room_1.cells ∧ slots ≤ room_1.slots)
    (kk : ∀ (u v : zs_X) (H : Heap) (locs : List Loc), zp_R u v → va_P (dC, dI) zs_cl (zs_wX cI cZ a u ++ zs_wM cI cZ d v) H → va_D (fun q => s.heap.size ≤ q) (zs_wX cI cZ a u ++ zs_wM cI cZ d v) → va_S (fun q => s.heap.size ≤ q) s.heap H locs → W p l e room_1 s m #[Value.ref b] below meth c H locs cells slots Q (F0 m 550 ls [])) : W p l e room_1 s m #[Value.ref b] below meth c H locs cells slots Q (F0 m 399 ls []) := by
  refine lv_aload_n hx hb zd_L_law_399 rfl (lv_at hl 2 rfl) ?_
  refine zc_rV (rest := []) [] hx hb hml hown hz (zc_X_isUp l dC dI cI cZ a u  ) zf_X_isUp rfl rfl zq_142 zq_143 zq_144 ⟨Nat.le_of_ble_eq_true rfl, Nat.le_of_ble_eq_true rfl⟩ hk (hP.sub [0, 1, 2, 3, 4, 5, 6, 7, 8, 9, 10, 11, 12] rfl) 0 0 rfl rfl rfl rfl hl.1 rfl (Nat.le_of_ble_eq_true rfl) zd_L_law_400 hf (fun r0 er0 => ?_)
  obtain rfl : r0 = zs_b u.1 := er0
  refine lv_aload_n hx hb zd_L_law_403 rfl (lv_at hl 3 rfl) ?_
  refine zc_rV (rest := [.int (zs_b u.1)]) [] hx hb hml hown hz (zc_M_isUp l dC dI cI cZ d v  ) zf_M_isUp rfl rfl zq_263 zq_264 zq_265 ⟨Nat.le_of_ble_eq_true rfl, Nat.le_of_ble_eq_true rfl⟩ hk (hP.sub [13, 14, 15, 16, 17, 18, 19, 20, 21, 22, 23] rfl) 0 2 rfl rfl rfl rfl hl.1 rfl (Nat.le_of_ble_eq_true rfl) zd_L_law_404 hf (fun r1 er1 => ?_)
  obtain rfl : r1 = zs_b v.1 := er1
  refine lv_icmp_eq (tgt := 550) hx hb zd_L_law_407 rfl (fun _ => ?_) (fun h1 => ?_)
  · exact kk u v H locs hR hP hD hS
  · exact absurd (congrArg zs_b hR.1) h1
set_option maxHeartbeats 4000000 in
set_option maxRecDepth 100000 in
theorem zl_12 {p : Program} {e : Env} {s : State} {m : MethodId} {below : List Frame} {meth : Method} {c : Code} {H : Heap} {locs : List Loc} {ls : Array Slot} {cells slots : Nat} {Q : State → Prop} (l : Launch) {b L i : Nat} {xs : Nat → Int32} {dC : Nat → ClassId} {dI : Nat → Nat → Nat} {cI cZ : ClassId} {a d : Nat → Nat} {u v : zs_X} (hx : p.tables.exec = Jvm.exec) (hb : c.code = code) (hml : c.maxLocals = 4) (hown : s.vm.findClass "ZoneShelfLaw" = some m.cls) (hz : ∀ w ∈ zs_w, w.before #[Value.ref b] s = true) (hk : zs_k dC dI cI cZ s) (hX : va_X b L xs s s.heap) (hbl : b < s.heap.size) (hl : lv_has ls 4 [(3, .int (nI i)), (0, .ref b), (1, .ref (a 0)), (2, .ref (d 0))]) (hi : i + 4 ≤ L) (hL : L ≤ 2048) (hP : va_P (dC, dI) zs_cl (zs_wX cI cZ a u ++ zs_wM cI cZ d v) H) (hD : va_D (fun q => s.heap.size ≤ q) (zs_wX cI cZ a u ++ zs_wM cI cZ d v)) (hS : va_S (fun q => s.heap.size ≤ q) s.heap H locs) (hR : zp_R u v) (hf : cells ≤ room_1.cells ∧ slots ≤ room_1.slots)
    (kk : ∀ (u v : zs_X) (H : Heap) (locs : List Loc), zp_R u v → va_P (dC, dI) zs_cl (zs_wX cI cZ a u ++ zs_wM cI cZ d v) H → va_D (fun q => s.heap.size ≤ q) (zs_wX cI cZ a u ++ zs_wM cI cZ d v) → va_S (fun q => s.heap.size ≤ q) s.heap H locs → W p l e room_1 s m #[Value.ref b] below meth c H locs cells slots Q (F0 m 550 ls [])) : W p l e room_1 s m #[Value.ref b] below meth c H locs cells slots Q (F0 m 412 ls []) := by
  refine lv_aload_n hx hb zd_L_law_412 rfl (lv_at hl 2 rfl) ?_
  refine zc_rV (rest := []) [] hx hb hml hown hz (zc_X_objects l dC dI cI cZ a u  ) zf_X_objects rfl rfl zq_146 zq_147 zq_148 ⟨Nat.le_of_ble_eq_true rfl, Nat.le_of_ble_eq_true rfl⟩ hk (hP.sub [0, 1, 2, 3, 4, 5, 6, 7, 8, 9, 10, 11, 12] rfl) 0 0 rfl rfl rfl rfl hl.1 rfl (Nat.le_of_ble_eq_true rfl) zd_L_law_413 hf (fun r0 er0 => ?_)
  obtain rfl : r0 = zs_objects u := er0
  refine lv_aload_n hx hb zd_L_law_416 rfl (lv_at hl 3 rfl) ?_
  refine zc_rV (rest := [.int (zs_objects u)]) [] hx hb hml hown hz (zc_M_objects l dC dI cI cZ d v  ) zf_M_objects rfl rfl zq_267 zq_268 zq_269 ⟨Nat.le_of_ble_eq_true rfl, Nat.le_of_ble_eq_true rfl⟩ hk (hP.sub [13, 14, 15, 16, 17, 18, 19, 20, 21, 22, 23] rfl) 0 2 rfl rfl rfl rfl hl.1 rfl (Nat.le_of_ble_eq_true rfl) zd_L_law_417 hf (fun r1 er1 => ?_)
  obtain rfl : r1 = zm_objects v := er1
  refine lv_icmp_eq (tgt := 550) hx hb zd_L_law_420 rfl (fun _ => ?_) (fun h1 => ?_)
  · exact kk u v H locs hR hP hD hS
  · exact absurd (zp_objects hR) h1
set_option maxHeartbeats 4000000 in
set_option maxRecDepth 100000 in
theorem zl_13 {p : Program} {e : Env} {s : State} {m : MethodId} {below : List Frame} {meth : Method} {c : Code} {H : Heap} {locs : List Loc} {ls : Array Slot} {cells slots : Nat} {Q : State → Prop} (l : Launch) {b L i : Nat} {xs : Nat → Int32} {dC : Nat → ClassId} {dI : Nat → Nat → Nat} {cI cZ : ClassId} {a d : Nat → Nat} {u v : zs_X} (hx : p.tables.exec = Jvm.exec) (hb : c.code = code) (hml : c.maxLocals = 4) (hown : s.vm.findClass "ZoneShelfLaw" = some m.cls) (hz : ∀ w ∈ zs_w, w.before #[Value.ref b] s = true) (hk : zs_k dC dI cI cZ s) (hX : va_X b L xs s s.heap) (hbl : b < s.heap.size) (hl : lv_has ls 4 [(3, .int (nI i)), (0, .ref b), (1, .ref (a 0)), (2, .ref (d 0))]) (hi : i + 4 ≤ L) (hL : L ≤ 2048) (hP : va_P (dC, dI) zs_cl (zs_wX cI cZ a u ++ zs_wM cI cZ d v) H) (hD : va_D (fun q => s.heap.size ≤ q) (zs_wX cI cZ a u ++ zs_wM cI cZ d v)) (hS : va_S (fun q => s.heap.size ≤ q) s.heap H locs) (hR : zp_R u v) (hf : cells ≤ room_1.cells ∧ slots ≤ room_1.slots)
    (kk : ∀ (u v : zs_X) (H : Heap) (locs : List Loc), zp_R u v → va_P (dC, dI) zs_cl (zs_wX cI cZ a u ++ zs_wM cI cZ d v) H → va_D (fun q => s.heap.size ≤ q) (zs_wX cI cZ a u ++ zs_wM cI cZ d v) → va_S (fun q => s.heap.size ≤ q) s.heap H locs → W p l e room_1 s m #[Value.ref b] below meth c H locs cells slots Q (F0 m 550 ls [])) : W p l e room_1 s m #[Value.ref b] below meth c H locs cells slots Q (F0 m 425 ls []) := by
  refine lv_aload_n hx hb zd_L_law_425 rfl (lv_at hl 2 rfl) ?_
  refine zc_rV (rest := []) [] hx hb hml hown hz (zc_X_room l dC dI cI cZ a u  ) zf_X_room rfl rfl zq_152 zq_153 zq_154 ⟨Nat.le_of_ble_eq_true rfl, Nat.le_of_ble_eq_true rfl⟩ hk (hP.sub [0, 1, 2, 3, 4, 5, 6, 7, 8, 9, 10, 11, 12] rfl) 0 0 rfl rfl rfl rfl hl.1 rfl (Nat.le_of_ble_eq_true rfl) zd_L_law_426 hf (fun r0 er0 => ?_)
  obtain rfl : r0 = zs_room u := er0
  refine lv_aload_n hx hb zd_L_law_429 rfl (lv_at hl 3 rfl) ?_
  refine zc_rV (rest := [.int (zs_room u)]) [] hx hb hml hown hz (zc_M_room l dC dI cI cZ d v  ) zf_M_room rfl rfl zq_271 zq_272 zq_273 ⟨Nat.le_of_ble_eq_true rfl, Nat.le_of_ble_eq_true rfl⟩ hk (hP.sub [13, 14, 15, 16, 17, 18, 19, 20, 21, 22, 23] rfl) 0 2 rfl rfl rfl rfl hl.1 rfl (Nat.le_of_ble_eq_true rfl) zd_L_law_430 hf (fun r1 er1 => ?_)
  obtain rfl : r1 = zm_room v := er1
  refine lv_icmp_eq (tgt := 550) hx hb zd_L_law_433 rfl (fun _ => ?_) (fun h1 => ?_)
  · exact kk u v H locs hR hP hD hS
  · exact absurd (zp_room hR) h1
set_option maxHeartbeats 4000000 in
set_option maxRecDepth 100000 in
theorem zl_14 {p : Program} {e : Env} {s : State} {m : MethodId} {below : List Frame} {meth : Method} {c : Code} {H : Heap} {locs : List Loc} {ls : Array Slot} {cells slots : Nat} {Q : State → Prop} (l : Launch) {b L i : Nat} {xs : Nat → Int32} {dC : Nat → ClassId} {dI : Nat → Nat → Nat} {cI cZ : ClassId} {a d : Nat → Nat} {u v : zs_X} (hx : p.tables.exec = Jvm.exec) (hb : c.code = code) (hml : c.maxLocals = 4) (hown : s.vm.findClass "ZoneShelfLaw" = some m.cls) (hz : ∀ w ∈ zs_w, w.before #[Value.ref b] s = true) (hk : zs_k dC dI cI cZ s) (hX : va_X b L xs s s.heap) (hbl : b < s.heap.size) (hl : lv_has ls 4 [(3, .int (nI i)), (0, .ref b), (1, .ref (a 0)), (2, .ref (d 0))]) (hi : i + 4 ≤ L) (hL : L ≤ 2048) (hP : va_P (dC, dI) zs_cl (zs_wX cI cZ a u ++ zs_wM cI cZ d v) H) (hD : va_D (fun q => s.heap.size ≤ q) (zs_wX cI cZ a u ++ zs_wM cI cZ d v)) (hS : va_S (fun q => s.heap.size ≤ q) s.heap H locs) (hR : zp_R u v) (hf : cells ≤ room_1.cells ∧ slots ≤ room_1.slots)
    (kk : ∀ (u v : zs_X) (H : Heap) (locs : List Loc), zp_R u v → va_P (dC, dI) zs_cl (zs_wX cI cZ a u ++ zs_wM cI cZ d v) H → va_D (fun q => s.heap.size ≤ q) (zs_wX cI cZ a u ++ zs_wM cI cZ d v) → va_S (fun q => s.heap.size ≤ q) s.heap H locs → W p l e room_1 s m #[Value.ref b] below meth c H locs cells slots Q (F0 m 550 ls [])) : W p l e room_1 s m #[Value.ref b] below meth c H locs cells slots Q (F0 m 438 ls []) := by
  refine lv_aload_n hx hb zd_L_law_438 rfl (lv_at hl 2 rfl) ?_
  refine lv_aload_n hx hb zd_L_law_439 rfl (lv_at hl 1 rfl) ?_
  refine lv_iload_n hx hb zd_L_law_440 rfl (lv_at hl 0 rfl) ?_
  refine lv_iconst (v := 1) hx hb zd_L_law_441 (by decide) ?_
  refine lv_iadd hx hb zd_L_law_442 ?_
  refine zi_top (y := nI (i + 1)) (nI_add i 1) ?_
  refine zi_sld (i := (i + 1)) hx hb hX hbl (Nat.not_le_of_lt hbl) hS (by omega) hL zd_L_law_443 ?_
  refine lv_aload_n hx hb zd_L_law_444 rfl (lv_at hl 1 rfl) ?_
  refine lv_iload_n hx hb zd_L_law_445 rfl (lv_at hl 0 rfl) ?_
  refine lv_iconst (v := 2) hx hb zd_L_law_446 (by decide) ?_
  refine lv_iadd hx hb zd_L_law_447 ?_
  refine zi_top (y := nI (i + 2)) (nI_add i 2) ?_
  refine zi_sld (i := (i + 2)) hx hb hX hbl (Nat.not_le_of_lt hbl) hS (by omega) hL zd_L_law_448 ?_
  refine zc_rV (rest := []) [.int (xs (i + 1)), .int (xs (i + 2))] hx hb hml hown hz (zc_X_object l dC dI cI cZ a u  (xs (i + 1)) (xs (i + 2))) zf_X_object rfl rfl zq_156 zq_157 zq_158 ⟨Nat.le_of_ble_eq_true rfl, Nat.le_of_ble_eq_true rfl⟩ hk (hP.sub [0, 1, 2, 3, 4, 5, 6, 7, 8, 9, 10, 11, 12] rfl) 0 0 rfl rfl rfl rfl hl.1 rfl (Nat.le_of_ble_eq_true rfl) zd_L_law_449 hf (fun r0 er0 => ?_)
  obtain rfl : r0 = zs_object u (xs (i + 1)) (xs (i + 2)) := er0
  refine lv_aload_n hx hb zd_L_law_452 rfl (lv_at hl 3 rfl) ?_
  refine lv_aload_n hx hb zd_L_law_453 rfl (lv_at hl 1 rfl) ?_
  refine lv_iload_n hx hb zd_L_law_454 rfl (lv_at hl 0 rfl) ?_
  refine lv_iconst (v := 1) hx hb zd_L_law_455 (by decide) ?_
  refine lv_iadd hx hb zd_L_law_456 ?_
  refine zi_top (y := nI (i + 1)) (nI_add i 1) ?_
  refine zi_sld (i := (i + 1)) hx hb hX hbl (Nat.not_le_of_lt hbl) hS (by omega) hL zd_L_law_457 ?_
  refine lv_aload_n hx hb zd_L_law_458 rfl (lv_at hl 1 rfl) ?_
  refine lv_iload_n hx hb zd_L_law_459 rfl (lv_at hl 0 rfl) ?_
  refine lv_iconst (v := 2) hx hb zd_L_law_460 (by decide) ?_
  refine lv_iadd hx hb zd_L_law_461 ?_
  refine zi_top (y := nI (i + 2)) (nI_add i 2) ?_
  refine zi_sld (i := (i + 2)) hx hb hX hbl (Nat.not_le_of_lt hbl) hS (by omega) hL zd_L_law_462 ?_
  refine zc_rV (rest := [.int (zs_object u (xs (i + 1)) (xs (i + 2)))]) [.int (xs (i + 1)), .int (xs (i + 2))] hx hb hml hown hz (zc_M_object l dC dI cI cZ d v  (xs (i + 1)) (xs (i + 2))) zf_M_object rfl rfl zq_275 zq_276 zq_277 ⟨Nat.le_of_ble_eq_true rfl, Nat.le_of_ble_eq_true rfl⟩ hk (hP.sub [13, 14, 15, 16, 17, 18, 19, 20, 21, 22, 23] rfl) 0 2 rfl rfl rfl rfl hl.1 rfl (Nat.le_of_ble_eq_true rfl) zd_L_law_463 hf (fun r1 er1 => ?_)
  obtain rfl : r1 = zm_object v (xs (i + 1)) (xs (i + 2)) := er1
  refine lv_icmp_eq (tgt := 550) hx hb zd_L_law_466 rfl (fun _ => ?_) (fun h1 => ?_)
  · exact kk u v H locs hR hP hD hS
  · exact absurd (zp_object hR (xs (i + 1)) (xs (i + 2))) h1
set_option maxHeartbeats 4000000 in
set_option maxRecDepth 100000 in
theorem zl_15 {p : Program} {e : Env} {s : State} {m : MethodId} {below : List Frame} {meth : Method} {c : Code} {H : Heap} {locs : List Loc} {ls : Array Slot} {cells slots : Nat} {Q : State → Prop} (l : Launch) {b L i : Nat} {xs : Nat → Int32} {dC : Nat → ClassId} {dI : Nat → Nat → Nat} {cI cZ : ClassId} {a d : Nat → Nat} {u v : zs_X} (hx : p.tables.exec = Jvm.exec) (hb : c.code = code) (hml : c.maxLocals = 4) (hown : s.vm.findClass "ZoneShelfLaw" = some m.cls) (hz : ∀ w ∈ zs_w, w.before #[Value.ref b] s = true) (hk : zs_k dC dI cI cZ s) (hX : va_X b L xs s s.heap) (hbl : b < s.heap.size) (hl : lv_has ls 4 [(3, .int (nI i)), (0, .ref b), (1, .ref (a 0)), (2, .ref (d 0))]) (hi : i + 4 ≤ L) (hL : L ≤ 2048) (hP : va_P (dC, dI) zs_cl (zs_wX cI cZ a u ++ zs_wM cI cZ d v) H) (hD : va_D (fun q => s.heap.size ≤ q) (zs_wX cI cZ a u ++ zs_wM cI cZ d v)) (hS : va_S (fun q => s.heap.size ≤ q) s.heap H locs) (hR : zp_R u v) (hf : cells ≤ room_1.cells ∧ slots ≤ room_1.slots)
    (kk : ∀ (u v : zs_X) (H : Heap) (locs : List Loc), zp_R u v → va_P (dC, dI) zs_cl (zs_wX cI cZ a u ++ zs_wM cI cZ d v) H → va_D (fun q => s.heap.size ≤ q) (zs_wX cI cZ a u ++ zs_wM cI cZ d v) → va_S (fun q => s.heap.size ≤ q) s.heap H locs → W p l e room_1 s m #[Value.ref b] below meth c H locs cells slots Q (F0 m 550 ls [])) : W p l e room_1 s m #[Value.ref b] below meth c H locs cells slots Q (F0 m 471 ls []) := by
  refine lv_aload_n hx hb zd_L_law_471 rfl (lv_at hl 2 rfl) ?_
  refine lv_aload_n hx hb zd_L_law_472 rfl (lv_at hl 1 rfl) ?_
  refine lv_iload_n hx hb zd_L_law_473 rfl (lv_at hl 0 rfl) ?_
  refine lv_iconst (v := 1) hx hb zd_L_law_474 (by decide) ?_
  refine lv_iadd hx hb zd_L_law_475 ?_
  refine zi_top (y := nI (i + 1)) (nI_add i 1) ?_
  refine zi_sld (i := (i + 1)) hx hb hX hbl (Nat.not_le_of_lt hbl) hS (by omega) hL zd_L_law_476 ?_
  refine lv_aload_n hx hb zd_L_law_477 rfl (lv_at hl 1 rfl) ?_
  refine lv_iload_n hx hb zd_L_law_478 rfl (lv_at hl 0 rfl) ?_
  refine lv_iconst (v := 2) hx hb zd_L_law_479 (by decide) ?_
  refine lv_iadd hx hb zd_L_law_480 ?_
  refine zi_top (y := nI (i + 2)) (nI_add i 2) ?_
  refine zi_sld (i := (i + 2)) hx hb hX hbl (Nat.not_le_of_lt hbl) hS (by omega) hL zd_L_law_481 ?_
  refine zc_rV (rest := []) [.int (xs (i + 1)), .int (xs (i + 2))] hx hb hml hown hz (zc_X_word l dC dI cI cZ a u (zp_ok1 hR) (xs (i + 1)) (xs (i + 2))) zf_X_word rfl rfl zq_160 zq_161 zq_162 ⟨Nat.le_of_ble_eq_true rfl, Nat.le_of_ble_eq_true rfl⟩ hk (hP.sub [0, 1, 2, 3, 4, 5, 6, 7, 8, 9, 10, 11, 12] rfl) 0 0 rfl rfl rfl rfl hl.1 rfl (Nat.le_of_ble_eq_true rfl) zd_L_law_482 hf (fun r0 er0 => ?_)
  obtain rfl : r0 = zs_word u (xs (i + 1)) (xs (i + 2)) := er0
  refine lv_aload_n hx hb zd_L_law_485 rfl (lv_at hl 3 rfl) ?_
  refine lv_aload_n hx hb zd_L_law_486 rfl (lv_at hl 1 rfl) ?_
  refine lv_iload_n hx hb zd_L_law_487 rfl (lv_at hl 0 rfl) ?_
  refine lv_iconst (v := 1) hx hb zd_L_law_488 (by decide) ?_
  refine lv_iadd hx hb zd_L_law_489 ?_
  refine zi_top (y := nI (i + 1)) (nI_add i 1) ?_
  refine zi_sld (i := (i + 1)) hx hb hX hbl (Nat.not_le_of_lt hbl) hS (by omega) hL zd_L_law_490 ?_
  refine lv_aload_n hx hb zd_L_law_491 rfl (lv_at hl 1 rfl) ?_
  refine lv_iload_n hx hb zd_L_law_492 rfl (lv_at hl 0 rfl) ?_
  refine lv_iconst (v := 2) hx hb zd_L_law_493 (by decide) ?_
  refine lv_iadd hx hb zd_L_law_494 ?_
  refine zi_top (y := nI (i + 2)) (nI_add i 2) ?_
  refine zi_sld (i := (i + 2)) hx hb hX hbl (Nat.not_le_of_lt hbl) hS (by omega) hL zd_L_law_495 ?_
  refine zc_rV (rest := [.int (zs_word u (xs (i + 1)) (xs (i + 2)))]) [.int (xs (i + 1)), .int (xs (i + 2))] hx hb hml hown hz (zc_M_word l dC dI cI cZ d v (zp_ok2 hR) (xs (i + 1)) (xs (i + 2))) zf_M_word rfl rfl zq_279 zq_280 zq_281 ⟨Nat.le_of_ble_eq_true rfl, Nat.le_of_ble_eq_true rfl⟩ hk (hP.sub [13, 14, 15, 16, 17, 18, 19, 20, 21, 22, 23] rfl) 0 2 rfl rfl rfl rfl hl.1 rfl (Nat.le_of_ble_eq_true rfl) zd_L_law_496 hf (fun r1 er1 => ?_)
  obtain rfl : r1 = zm_word v (xs (i + 1)) (xs (i + 2)) := er1
  refine lv_icmp_eq (tgt := 550) hx hb zd_L_law_499 rfl (fun _ => ?_) (fun h1 => ?_)
  · exact kk u v H locs hR hP hD hS
  · exact absurd (zp_word hR (xs (i + 1)) (xs (i + 2))) h1
set_option maxHeartbeats 4000000 in
set_option maxRecDepth 100000 in
theorem zl_16 {p : Program} {e : Env} {s : State} {m : MethodId} {below : List Frame} {meth : Method} {c : Code} {H : Heap} {locs : List Loc} {ls : Array Slot} {cells slots : Nat} {Q : State → Prop} (l : Launch) {b L i : Nat} {xs : Nat → Int32} {dC : Nat → ClassId} {dI : Nat → Nat → Nat} {cI cZ : ClassId} {a d : Nat → Nat} {u v : zs_X} (hx : p.tables.exec = Jvm.exec) (hb : c.code = code) (hml : c.maxLocals = 4) (hown : s.vm.findClass "ZoneShelfLaw" = some m.cls) (hz : ∀ w ∈ zs_w, w.before #[Value.ref b] s = true) (hk : zs_k dC dI cI cZ s) (hX : va_X b L xs s s.heap) (hbl : b < s.heap.size) (hl : lv_has ls 4 [(3, .int (nI i)), (0, .ref b), (1, .ref (a 0)), (2, .ref (d 0))]) (hi : i + 4 ≤ L) (hL : L ≤ 2048) (hP : va_P (dC, dI) zs_cl (zs_wX cI cZ a u ++ zs_wM cI cZ d v) H) (hD : va_D (fun q => s.heap.size ≤ q) (zs_wX cI cZ a u ++ zs_wM cI cZ d v)) (hS : va_S (fun q => s.heap.size ≤ q) s.heap H locs) (hR : zp_R u v) (hf : cells ≤ room_1.cells ∧ slots ≤ room_1.slots)
    (kk : ∀ (u v : zs_X) (H : Heap) (locs : List Loc), zp_R u v → va_P (dC, dI) zs_cl (zs_wX cI cZ a u ++ zs_wM cI cZ d v) H → va_D (fun q => s.heap.size ≤ q) (zs_wX cI cZ a u ++ zs_wM cI cZ d v) → va_S (fun q => s.heap.size ≤ q) s.heap H locs → W p l e room_1 s m #[Value.ref b] below meth c H locs cells slots Q (F0 m 550 ls [])) : W p l e room_1 s m #[Value.ref b] below meth c H locs cells slots Q (F0 m 504 ls []) := by
  refine lv_aload_n hx hb zd_L_law_504 rfl (lv_at hl 2 rfl) ?_
  refine lv_aload_n hx hb zd_L_law_505 rfl (lv_at hl 1 rfl) ?_
  refine lv_iload_n hx hb zd_L_law_506 rfl (lv_at hl 0 rfl) ?_
  refine lv_iconst (v := 1) hx hb zd_L_law_507 (by decide) ?_
  refine lv_iadd hx hb zd_L_law_508 ?_
  refine zi_top (y := nI (i + 1)) (nI_add i 1) ?_
  refine zi_sld (i := (i + 1)) hx hb hX hbl (Nat.not_le_of_lt hbl) hS (by omega) hL zd_L_law_509 ?_
  refine zc_rV (rest := []) [.int (xs (i + 1))] hx hb hml hown hz (zc_X_find l dC dI cI cZ a u  (xs (i + 1))) zf_X_find rfl rfl zq_164 zq_165 zq_166 ⟨Nat.le_of_ble_eq_true rfl, Nat.le_of_ble_eq_true rfl⟩ hk (hP.sub [0, 1, 2, 3, 4, 5, 6, 7, 8, 9, 10, 11, 12] rfl) 0 0 rfl rfl rfl rfl hl.1 rfl (Nat.le_of_ble_eq_true rfl) zd_L_law_510 hf (fun r0 er0 => ?_)
  obtain rfl : r0 = zs_find u (xs (i + 1)) := er0
  refine lv_aload_n hx hb zd_L_law_513 rfl (lv_at hl 3 rfl) ?_
  refine lv_aload_n hx hb zd_L_law_514 rfl (lv_at hl 1 rfl) ?_
  refine lv_iload_n hx hb zd_L_law_515 rfl (lv_at hl 0 rfl) ?_
  refine lv_iconst (v := 1) hx hb zd_L_law_516 (by decide) ?_
  refine lv_iadd hx hb zd_L_law_517 ?_
  refine zi_top (y := nI (i + 1)) (nI_add i 1) ?_
  refine zi_sld (i := (i + 1)) hx hb hX hbl (Nat.not_le_of_lt hbl) hS (by omega) hL zd_L_law_518 ?_
  refine zc_rV (rest := [.int (zs_find u (xs (i + 1)))]) [.int (xs (i + 1))] hx hb hml hown hz (zc_M_find l dC dI cI cZ d v  (xs (i + 1))) zf_M_find rfl rfl zq_283 zq_284 zq_285 ⟨Nat.le_of_ble_eq_true rfl, Nat.le_of_ble_eq_true rfl⟩ hk (hP.sub [13, 14, 15, 16, 17, 18, 19, 20, 21, 22, 23] rfl) 0 2 rfl rfl rfl rfl hl.1 rfl (Nat.le_of_ble_eq_true rfl) zd_L_law_519 hf (fun r1 er1 => ?_)
  obtain rfl : r1 = zm_find v (xs (i + 1)) := er1
  refine lv_icmp_eq (tgt := 550) hx hb zd_L_law_522 rfl (fun _ => ?_) (fun h1 => ?_)
  · exact kk u v H locs hR hP hD hS
  · exact absurd (zp_find hR (xs (i + 1))) h1
set_option maxHeartbeats 4000000 in
set_option maxRecDepth 100000 in
theorem zl_17 {p : Program} {e : Env} {s : State} {m : MethodId} {below : List Frame} {meth : Method} {c : Code} {H : Heap} {locs : List Loc} {ls : Array Slot} {cells slots : Nat} {Q : State → Prop} (l : Launch) {b L i : Nat} {xs : Nat → Int32} {dC : Nat → ClassId} {dI : Nat → Nat → Nat} {cI cZ : ClassId} {a d : Nat → Nat} {u v : zs_X} (hx : p.tables.exec = Jvm.exec) (hb : c.code = code) (hml : c.maxLocals = 4) (hown : s.vm.findClass "ZoneShelfLaw" = some m.cls) (hz : ∀ w ∈ zs_w, w.before #[Value.ref b] s = true) (hk : zs_k dC dI cI cZ s) (hX : va_X b L xs s s.heap) (hbl : b < s.heap.size) (hl : lv_has ls 4 [(3, .int (nI i)), (0, .ref b), (1, .ref (a 0)), (2, .ref (d 0))]) (hi : i + 4 ≤ L) (hL : L ≤ 2048) (hP : va_P (dC, dI) zs_cl (zs_wX cI cZ a u ++ zs_wM cI cZ d v) H) (hD : va_D (fun q => s.heap.size ≤ q) (zs_wX cI cZ a u ++ zs_wM cI cZ d v)) (hS : va_S (fun q => s.heap.size ≤ q) s.heap H locs) (hR : zp_R u v) (hf : cells ≤ room_1.cells ∧ slots ≤ room_1.slots)
    (kk : ∀ (u v : zs_X) (H : Heap) (locs : List Loc), zp_R u v → va_P (dC, dI) zs_cl (zs_wX cI cZ a u ++ zs_wM cI cZ d v) H → va_D (fun q => s.heap.size ≤ q) (zs_wX cI cZ a u ++ zs_wM cI cZ d v) → va_S (fun q => s.heap.size ≤ q) s.heap H locs → W p l e room_1 s m #[Value.ref b] below meth c H locs cells slots Q (F0 m 550 ls [])) : W p l e room_1 s m #[Value.ref b] below meth c H locs cells slots Q (F0 m 527 ls []) := by
  refine lv_aload_n hx hb zd_L_law_527 rfl (lv_at hl 2 rfl) ?_
  refine lv_aload_n hx hb zd_L_law_528 rfl (lv_at hl 1 rfl) ?_
  refine lv_iload_n hx hb zd_L_law_529 rfl (lv_at hl 0 rfl) ?_
  refine lv_iconst (v := 1) hx hb zd_L_law_530 (by decide) ?_
  refine lv_iadd hx hb zd_L_law_531 ?_
  refine zi_top (y := nI (i + 1)) (nI_add i 1) ?_
  refine zi_sld (i := (i + 1)) hx hb hX hbl (Nat.not_le_of_lt hbl) hS (by omega) hL zd_L_law_532 ?_
  refine zc_rV (rest := []) [.int (xs (i + 1))] hx hb hml hown hz (zc_X_list l dC dI cI cZ a u  (xs (i + 1))) zf_X_list rfl rfl zq_168 zq_169 zq_170 ⟨Nat.le_of_ble_eq_true rfl, Nat.le_of_ble_eq_true rfl⟩ hk (hP.sub [0, 1, 2, 3, 4, 5, 6, 7, 8, 9, 10, 11, 12] rfl) 0 0 rfl rfl rfl rfl hl.1 rfl (Nat.le_of_ble_eq_true rfl) zd_L_law_533 hf (fun r0 er0 => ?_)
  obtain rfl : r0 = zs_list u (xs (i + 1)) := er0
  refine lv_aload_n hx hb zd_L_law_536 rfl (lv_at hl 3 rfl) ?_
  refine lv_aload_n hx hb zd_L_law_537 rfl (lv_at hl 1 rfl) ?_
  refine lv_iload_n hx hb zd_L_law_538 rfl (lv_at hl 0 rfl) ?_
  refine lv_iconst (v := 1) hx hb zd_L_law_539 (by decide) ?_
  refine lv_iadd hx hb zd_L_law_540 ?_
  refine zi_top (y := nI (i + 1)) (nI_add i 1) ?_
  refine zi_sld (i := (i + 1)) hx hb hX hbl (Nat.not_le_of_lt hbl) hS (by omega) hL zd_L_law_541 ?_
  refine zc_rV (rest := [.int (zs_list u (xs (i + 1)))]) [.int (xs (i + 1))] hx hb hml hown hz (zc_M_list l dC dI cI cZ d v  (xs (i + 1))) zf_M_list rfl rfl zq_287 zq_288 zq_289 ⟨Nat.le_of_ble_eq_true rfl, Nat.le_of_ble_eq_true rfl⟩ hk (hP.sub [13, 14, 15, 16, 17, 18, 19, 20, 21, 22, 23] rfl) 0 2 rfl rfl rfl rfl hl.1 rfl (Nat.le_of_ble_eq_true rfl) zd_L_law_542 hf (fun r1 er1 => ?_)
  obtain rfl : r1 = zm_list v (xs (i + 1)) := er1
  refine lv_icmp_eq (tgt := 550) hx hb zd_L_law_545 rfl (fun _ => ?_) (fun h1 => ?_)
  · exact kk u v H locs hR hP hD hS
  · exact absurd (zp_list hR (xs (i + 1))) h1
end
section
/-! THE CLAIM OUT OF ONE WALK OF THE LAW'S BODY. Your part is whole_start (and what it stands on); all else here is the same for every law, but numbers. -/
def R_law : String := "ZoneShelfLaw"
def lw_P (b : Addr) (xs : List Int32) (args : Array Value) (s : State) : Prop := args = #[.ref b] ∧ s.IntsAt b xs ∧ xs.length ≤ 2048 ∧ (Jvm.Cond.and given_1 narrow_1).before args s = true
def lw_Q (_ : Array Value) (s : State) (o : Outcome) (t : State) : Prop := o = .returned (some (.int 1)) ∧ Framed s o t [] 24 6552
def lw_Z (below : List Frame) (a : Array Value) (s : State) : State → Prop := fun t => ∃ o, t.status = .running ∧ Ended t below o ∧ lw_Q a s o t
/-- the law's own end, with 1 on the stack, nothing written that was there before, its room as the claim has it -/
theorem lw_ret {p : Program} {l : Launch} {e : Env} {s : State} {m : MethodId} {below : List Frame} {meth : Method} {c : Code} {b : Nat} (hx : p.tables.exec = Jvm.exec) (hb : c.code = code) (hr : meth.sig.returnType = ret) (hlocks : meth.locks = false) {pc : Nat} {H : Heap} {ls : Array Slot} (hdg : decode code pc = .ok (.ireturn, 1)) : W p l e room_1 s m #[Value.ref b] below meth c H [] 24 6552 (lw_Z below #[Value.ref b] s) (F0 m pc ls [.int 1]) := by
  intro T hT X
  obtain ⟨fs, hret, hrun, hended, hW, hframe⟩ := X.leave (v := some (.int 1)) (hlocks := hlocks) (fun h => by rw [hr] at h; cases h)
  have hmeth' : T.vm.method? m = some meth := X.method'
  refine ⟨T.setFrames fs, ?_, .returned (some (.int 1)), hrun, hended, rfl, ⟨_, rfl⟩, hW, hframe⟩
  jvm_step X.here [X.here.top, hx, hb, hdg, hmeth', hr, ret, narrow_b1]
  (try refine ⟨rfl, ?_⟩); (try refine ⟨rfl, ?_⟩)
  first | (intro acts; rw [hret _ acts rfl rfl rfl]) | rw [hret _ _ rfl rfl rfl]
  exact Steps.refl _
/-- what holds at the law's entry: the machine, the code, the tables' words (any of lw_tbl by 'hts w (by decide +kernel)'), the script of L ints xs at the cell b, what the Statement gives of the start (any of its parts by flat_of_before) -/
def lw_At (p : Program) (s : State) (m : MethodId) (meth : Method) (c : Code) (b L : Nat) (xs : Nat → Int32) : Prop :=
  p.tables.exec = Jvm.exec ∧ c.code = code ∧ meth.sig.returnType = ret ∧ c.maxLocals = 4 ∧ s.vm.findClass R_law = some m.cls ∧ (∀ w ∈ lw_tbl, w.before #[Value.ref b] s = true) ∧ va_X b L xs s s.heap ∧ b < s.heap.size ∧ meth.locks = false ∧ (Jvm.Cond.and given_1 narrow_1).before #[Value.ref b] s = true
end
section
theorem zs_lcmp {L i : Nat} (hL : L ≤ 2048) (hi : i ≤ 4096) : nI L - 4 < nI i ↔ L < i + 4 := by
  rw [Int32.lt_iff_toInt_lt, show (4 : Int32) = nI 4 from rfl, pk_sub_toInt (by omega) (by omega), nI_toInt (by omega)]
  omega
set_option maxHeartbeats 4000000 in
set_option maxRecDepth 100000 in
theorem zl_loop {p : Program} {e : Env} {s : State} {m : MethodId} {below : List Frame} {meth : Method} {c : Code} (l : Launch) {b L : Nat} {xs : Nat → Int32} {dC : Nat → ClassId} {dI : Nat → Nat → Nat} {cI cZ : ClassId} {a d : Nat → Nat} (hx : p.tables.exec = Jvm.exec) (hb : c.code = code) (hr : meth.sig.returnType = ret) (hlocks : meth.locks = false) (hml : c.maxLocals = 4) (hown : s.vm.findClass "ZoneShelfLaw" = some m.cls) (hz : ∀ w ∈ zs_w, w.before #[Value.ref b] s = true) (hk : zs_k dC dI cI cZ s) (hX : va_X b L xs s s.heap) (hbl : b < s.heap.size) (hL : L ≤ 2048) : ∀ (k i : Nat) (u v : zs_X) (H : Heap) (locs : List Loc) (ls : Array Slot), L < i + 4 * k + 4 → i ≤ 4096 → lv_has ls 4 [(3, .int (nI i)), (0, .ref b), (1, .ref (a 0)), (2, .ref (d 0))] → va_P (dC, dI) zs_cl (zs_wX cI cZ a u ++ zs_wM cI cZ d v) H → va_D (fun q => s.heap.size ≤ q) (zs_wX cI cZ a u ++ zs_wM cI cZ d v) → va_S (fun q => s.heap.size ≤ q) s.heap H locs → zp_R u v → W p l e room_1 s m #[Value.ref b] below meth c H locs 24 6552 (lw_Z below #[Value.ref b] s) (F0 m 18 ls []) := by
  intro k
  induction k with
  | zero =>
    intro i u v H locs ls hk0 hi hl hP hD hS hR
    refine lv_iload_n hx hb zd_L_law_18 rfl (lv_at hl 0 rfl) ?_
    refine lv_aload_n hx hb zd_L_law_19 rfl (lv_at hl 1 rfl) ?_
    refine va_slen hx hb hX hbl (Nat.not_le_of_lt hbl) hS zd_L_law_20 ?_
    refine zi_top (y := nI L) rfl ?_
    refine lv_iconst (v := 4) hx hb zd_L_law_21 (by decide) ?_
    refine lv_isub hx hb zd_L_law_22 ?_
    refine lv_icmp_gt (tgt := 556) hx hb zd_L_law_23 rfl (fun h1 => ?_) (fun h1 => ?_)
    · refine lv_iconst (v := 1) hx hb zd_L_law_556 (by decide) ?_
      refine va_forget (fun q hq => hS.2.2 q hq) ?_
      refine W.widen (k := 24) (n := 6552) (Nat.le_of_ble_eq_true rfl) (Nat.le_of_ble_eq_true rfl) ?_
      exact lw_ret hx hb hr hlocks zd_L_law_557
    · exact absurd ((zs_lcmp hL hi).mpr (by omega)) h1
  | succ k ih =>
    intro i u v H locs ls hk0 hi hl hP hD hS hR
    refine lv_iload_n hx hb zd_L_law_18 rfl (lv_at hl 0 rfl) ?_
    refine lv_aload_n hx hb zd_L_law_19 rfl (lv_at hl 1 rfl) ?_
    refine va_slen hx hb hX hbl (Nat.not_le_of_lt hbl) hS zd_L_law_20 ?_
    refine zi_top (y := nI L) rfl ?_
    refine lv_iconst (v := 4) hx hb zd_L_law_21 (by decide) ?_
    refine lv_isub hx hb zd_L_law_22 ?_
    refine lv_icmp_gt (tgt := 556) hx hb zd_L_law_23 rfl (fun h1 => ?_) (fun h1 => ?_)
    · refine lv_iconst (v := 1) hx hb zd_L_law_556 (by decide) ?_
      refine va_forget (fun q hq => hS.2.2 q hq) ?_
      refine W.widen (k := 24) (n := 6552) (Nat.le_of_ble_eq_true rfl) (Nat.le_of_ble_eq_true rfl) ?_
      exact lw_ret hx hb hr hlocks zd_L_law_557
    · have hi4 : i + 4 ≤ L := by
        have q : ¬ L < i + 4 := fun z => h1 ((zs_lcmp hL hi).mpr z)
        omega
      have kk : ∀ (u v : zs_X) (H : Heap) (locs : List Loc), zp_R u v → va_P (dC, dI) zs_cl (zs_wX cI cZ a u ++ zs_wM cI cZ d v) H → va_D (fun q => s.heap.size ≤ q) (zs_wX cI cZ a u ++ zs_wM cI cZ d v) → va_S (fun q => s.heap.size ≤ q) s.heap H locs → W p l e room_1 s m #[Value.ref b] below meth c H locs 24 6552 (lw_Z below #[Value.ref b] s) (F0 m 550 ls []) := by
        intro u v H locs hR hP hD hS
        refine lv_iinc (k := 0) (v := nI (i + 4)) (lv' := [(3, .int (nI (i + 4))), (0, .ref b), (1, .ref (a 0)), (2, .ref (d 0))]) hx hb zd_L_law_550 hl rfl (zs_inc4 _) (by decide) rfl (fun ls hl => ?_)
        refine lv_goto (tgt := 18) hx hb zd_L_law_553 rfl ?_
        exact ih (i + 4) u v H locs ls (by omega) (by omega) hl hP hD hS hR
      refine lv_aload_n hx hb zd_L_law_26 rfl (lv_at hl 1 rfl) ?_
      refine lv_iload_n hx hb zd_L_law_27 rfl (lv_at hl 0 rfl) ?_
      refine zi_sld (i := i) hx hb hX hbl (Nat.not_le_of_lt hbl) hS (by omega) hL zd_L_law_28 ?_
      refine lv_bipush (v := 31) hx hb zd_L_law_29 (by decide) ?_
      refine lv_iand hx hb zd_L_law_31 ?_
      obtain ⟨t, ht, et⟩ := pk_andE (xs i) (m := 31) 5 (by decide)
      refine zi_top (y := nI t) et ?_
      by_cases c0 : t = 0
      · subst c0
        refine lv_tableIn (off := 88) (tgt := 120) hx hb zd_L_law_32 (by decide) (by decide) (by decide) rfl ?_
        exact zl_0 l hx hb hml hown hz hk hX hbl hl hi4 hL hP hD hS hR ⟨Nat.le_of_ble_eq_true rfl, Nat.le_of_ble_eq_true rfl⟩ kk
      by_cases c1 : t = 1
      · subst c1
        refine lv_tableIn (off := 121) (tgt := 153) hx hb zd_L_law_32 (by decide) (by decide) (by decide) rfl ?_
        exact zl_1 l hx hb hml hown hz hk hX hbl hl hi4 hL hP hD hS hR ⟨Nat.le_of_ble_eq_true rfl, Nat.le_of_ble_eq_true rfl⟩ kk
      by_cases c2 : t = 2
      · subst c2
        refine lv_tableIn (off := 154) (tgt := 186) hx hb zd_L_law_32 (by decide) (by decide) (by decide) rfl ?_
        exact zl_2 l hx hb hml hown hz hk hX hbl hl hi4 hL hP hD hS hR ⟨Nat.le_of_ble_eq_true rfl, Nat.le_of_ble_eq_true rfl⟩ kk
      by_cases c3 : t = 3
      · subst c3
        refine lv_tableIn (off := 197) (tgt := 229) hx hb zd_L_law_32 (by decide) (by decide) (by decide) rfl ?_
        exact zl_3 l hx hb hml hown hz hk hX hbl hl hi4 hL hP hD hS hR ⟨Nat.le_of_ble_eq_true rfl, Nat.le_of_ble_eq_true rfl⟩ kk
      by_cases c4 : t = 4
      · subst c4
        refine lv_tableIn (off := 246) (tgt := 278) hx hb zd_L_law_32 (by decide) (by decide) (by decide) rfl ?_
        exact zl_4 l hx hb hml hown hz hk hX hbl hl hi4 hL hP hD hS hR ⟨Nat.le_of_ble_eq_true rfl, Nat.le_of_ble_eq_true rfl⟩ kk
      by_cases c5 : t = 5
      · subst c5
        refine lv_tableIn (off := 269) (tgt := 301) hx hb zd_L_law_32 (by decide) (by decide) (by decide) rfl ?_
        exact zl_5 l hx hb hml hown hz hk hX hbl hl hi4 hL hP hD hS hR ⟨Nat.le_of_ble_eq_true rfl, Nat.le_of_ble_eq_true rfl⟩ kk
      by_cases c6 : t = 6
      · subst c6
        refine lv_tableIn (off := 302) (tgt := 334) hx hb zd_L_law_32 (by decide) (by decide) (by decide) rfl ?_
        exact zl_6 l hx hb hml hown hz hk hX hbl hl hi4 hL hP hD hS hR ⟨Nat.le_of_ble_eq_true rfl, Nat.le_of_ble_eq_true rfl⟩ kk
      by_cases c7 : t = 7
      · subst c7
        refine lv_tableIn (off := 315) (tgt := 347) hx hb zd_L_law_32 (by decide) (by decide) (by decide) rfl ?_
        exact zl_7 l hx hb hml hown hz hk hX hbl hl hi4 hL hP hD hS hR ⟨Nat.le_of_ble_eq_true rfl, Nat.le_of_ble_eq_true rfl⟩ kk
      by_cases c8 : t = 8
      · subst c8
        refine lv_tableIn (off := 328) (tgt := 360) hx hb zd_L_law_32 (by decide) (by decide) (by decide) rfl ?_
        exact zl_8 l hx hb hml hown hz hk hX hbl hl hi4 hL hP hD hS hR ⟨Nat.le_of_ble_eq_true rfl, Nat.le_of_ble_eq_true rfl⟩ kk
      by_cases c9 : t = 9
      · subst c9
        refine lv_tableIn (off := 341) (tgt := 373) hx hb zd_L_law_32 (by decide) (by decide) (by decide) rfl ?_
        exact zl_9 l hx hb hml hown hz hk hX hbl hl hi4 hL hP hD hS hR ⟨Nat.le_of_ble_eq_true rfl, Nat.le_of_ble_eq_true rfl⟩ kk
      by_cases c10 : t = 10
      · subst c10
        refine lv_tableIn (off := 354) (tgt := 386) hx hb zd_L_law_32 (by decide) (by decide) (by decide) rfl ?_
        exact zl_10 l hx hb hml hown hz hk hX hbl hl hi4 hL hP hD hS hR ⟨Nat.le_of_ble_eq_true rfl, Nat.le_of_ble_eq_true rfl⟩ kk
      by_cases c11 : t = 11
      · subst c11
        refine lv_tableIn (off := 367) (tgt := 399) hx hb zd_L_law_32 (by decide) (by decide) (by decide) rfl ?_
        exact zl_11 l hx hb hml hown hz hk hX hbl hl hi4 hL hP hD hS hR ⟨Nat.le_of_ble_eq_true rfl, Nat.le_of_ble_eq_true rfl⟩ kk
      by_cases c12 : t = 12
      · subst c12
        refine lv_tableIn (off := 380) (tgt := 412) hx hb zd_L_law_32 (by decide) (by decide) (by decide) rfl ?_
        exact zl_12 l hx hb hml hown hz hk hX hbl hl hi4 hL hP hD hS hR ⟨Nat.le_of_ble_eq_true rfl, Nat.le_of_ble_eq_true rfl⟩ kk
      by_cases c13 : t = 13
      · subst c13
        refine lv_tableIn (off := 393) (tgt := 425) hx hb zd_L_law_32 (by decide) (by decide) (by decide) rfl ?_
        exact zl_13 l hx hb hml hown hz hk hX hbl hl hi4 hL hP hD hS hR ⟨Nat.le_of_ble_eq_true rfl, Nat.le_of_ble_eq_true rfl⟩ kk
      by_cases c14 : t = 14
      · subst c14
        refine lv_tableIn (off := 406) (tgt := 438) hx hb zd_L_law_32 (by decide) (by decide) (by decide) rfl ?_
        exact zl_14 l hx hb hml hown hz hk hX hbl hl hi4 hL hP hD hS hR ⟨Nat.le_of_ble_eq_true rfl, Nat.le_of_ble_eq_true rfl⟩ kk
      by_cases c15 : t = 15
      · subst c15
        refine lv_tableIn (off := 439) (tgt := 471) hx hb zd_L_law_32 (by decide) (by decide) (by decide) rfl ?_
        exact zl_15 l hx hb hml hown hz hk hX hbl hl hi4 hL hP hD hS hR ⟨Nat.le_of_ble_eq_true rfl, Nat.le_of_ble_eq_true rfl⟩ kk
      by_cases c16 : t = 16
      · subst c16
        refine lv_tableIn (off := 472) (tgt := 504) hx hb zd_L_law_32 (by decide) (by decide) (by decide) rfl ?_
        exact zl_16 l hx hb hml hown hz hk hX hbl hl hi4 hL hP hD hS hR ⟨Nat.le_of_ble_eq_true rfl, Nat.le_of_ble_eq_true rfl⟩ kk
      by_cases c17 : t = 17
      · subst c17
        refine lv_tableIn (off := 495) (tgt := 527) hx hb zd_L_law_32 (by decide) (by decide) (by decide) rfl ?_
        exact zl_17 l hx hb hml hown hz hk hX hbl hl hi4 hL hP hD hS hR ⟨Nat.le_of_ble_eq_true rfl, Nat.le_of_ble_eq_true rfl⟩ kk
      refine lv_tableOut (tgt := 550) hx hb zd_L_law_32 (Or.inr (by rw [nI_toInt (by omega)]; omega)) rfl ?_
      exact kk u v H locs hR hP hD hS
theorem zs_arr {args : Array Value} {s : State} {ty : FieldType} (h : (Cond.arrayClass ty).before args s = true) : ∃ cA : ClassId, ArrOfT s cA ty ∧ s.vm.findClass ("[" ++ ty.toString) = some cA := by
  obtain ⟨cA, kA, comp, h1, h2, h3⟩ := Cond.arrayClass_spec h
  exact ⟨cA, fun n z => ⟨fun k h => (by cases h), kA, h2, comp, h3⟩, h1⟩
/-- what the tables say at the start -/
theorem zs_k_of {args : Array Value} {s : State} (hz : ∀ w ∈ zs_w, w.before args s = true) (hn : ∀ w ∈ zs_n, w.before args s = true) : ∃ (dC : Nat → ClassId) (dI : Nat → Nat → Nat) (cI cZ : ClassId), zs_k dC dI cI cZ s := by
  obtain ⟨c0, i0, h0⟩ := u_known hz zs_in_X (hz _ zq_25)
  obtain ⟨c1, i1, h1⟩ := u_known hz zs_in_C (hz _ zq_33)
  obtain ⟨c2, i2, h2⟩ := u_known hz zs_in_M (hz _ zq_178)
  obtain ⟨cI, e1, e2⟩ := zs_arr (hz _ zq_50)
  obtain ⟨cZ, e3, e4⟩ := zs_arr (hz _ zq_51)
  refine ⟨fun k => [c0, c1, c2].getD k 0, fun k => [i0, i1, i2].getD k (fun _ => 0), cI, cZ, ⟨fun k q hq => ?_, fun k q hq => ?_⟩, fun w hw => va_Nw.of (zs_isn_on (List.all_eq_true.mp zs_n_isn w hw)) (hn w hw)⟩
  · match k, hq with
    | 0, hq => cases hq; exact h0
    | 1, hq => cases hq; exact h1
    | 2, hq => cases hq; exact h2
  · match k, hq with
    | 0, hq => cases hq; exact ⟨e1, e2⟩
    | 1, hq => cases hq; exact ⟨e3, e4⟩
end
section
set_option maxHeartbeats 4000000 in
set_option maxRecDepth 100000 in
/-- YOUR PART: from the entry, for every script of at most 2048 ints, the law comes to its end with true -/
theorem whole_start {p : Program} {e : Env} {s : State} {m : MethodId} {below : List Frame} {meth : Method} {c : Code} (l : Launch) {b L : Nat} {xs : Nat → Int32} (hL : L ≤ 2048) (C0 : lw_At p s m meth c b L xs) : W p l e room_1 s m #[Value.ref b] below meth c s.heap [] 0 0 (lw_Z below #[Value.ref b] s) (entryFrame m ([Value.ref b] : List Value).toArray 4) := by
  obtain ⟨hx, hb, hr, hml, hown, hts, hX, hbl, hlocks, hgv⟩ := C0
  have hown : s.vm.findClass "ZoneShelfLaw" = some m.cls := hown
  have hz : ∀ w ∈ zs_w, w.before #[Value.ref b] s = true := fun w h => hts w (zs_w_tbl w h)
  obtain ⟨dC, dI, cI, cZ, hk⟩ := zs_k_of hz (fun w h => hts w (zs_n_tbl w h))
  have hP : va_P (dC, dI) zs_cl [] s.heap := fun k q h => nomatch h
  have hD : va_D (fun q => s.heap.size ≤ q) [] := ⟨fun i j p q h => (nomatch h), fun k q h => (nomatch h)⟩
  have hS : va_S (fun q => s.heap.size ≤ q) s.heap s.heap [] := va_S.rf
  have hl := lv_entry ([.ref b]) (n := 4) (Nat.le_of_ble_eq_true rfl)
  rw [lg_entry_eq]
  generalize (lg_sl ([Value.ref b]) ++ List.replicate (4 - (lg_sl ([Value.ref b])).length) Slot.unset).toArray = ls at hl ⊢
  have hl : lv_has ls 4 [(0, .ref b)] := hl
  refine va_new (ci := 0) (fs := [.null, .null, .int 0]) (C := "ZoneShelf") (T := zs_T_X) (N := 3) hx hb hz zs_in_X zs_t_X zs_tok_X hown (hz _ zq_24) (hz _ zq_25) (hz _ zq_18) hk.1 hP hD hS (fun _ h => h) rfl (fun j hj => by rcases (show j = 0 ∨ j = 1 ∨ j = 2 by omega) with rfl | rfl | rfl <;> rfl) (Nat.le_of_ble_eq_true rfl) (Nat.le_of_ble_eq_true rfl) zd_L_law_0 (fun q0 H hP hD hS => ?_)
  have hP : va_P (dC, dI) zs_cl [(q0, .inr (0, [.null, .null, .int 0]))] H := hP
  have hD : va_D (fun q => s.heap.size ≤ q) [(q0, .inr (0, [.null, .null, .int 0]))] := hD
  refine lv_dup hx hb zd_L_law_3 rfl ?_
  refine zc_iV (rest := [.ref q0]) (wr := []) hx hb hml hown hz (zc_X_init l dC dI cI cZ q0 H.size) zf_X_init rfl rfl zq_26 zq_27 rfl ⟨Nat.le_of_ble_eq_true rfl, Nat.le_of_ble_eq_true rfl⟩ hk hP hD hS (fun _ h => h) [0] [] rfl rfl (by decide) (by decide) (by decide) hl.1 rfl (Nat.le_of_ble_eq_true rfl) zd_L_law_4 ⟨Nat.le_of_ble_eq_true rfl, Nat.le_of_ble_eq_true rfl⟩ (fun a H1 locs1 ea hP1 hD1 hS1 => ?_)
  have ea : a 0 = q0 := ea
  subst ea
  have hP : va_P (dC, dI) zs_cl (zs_wX cI cZ a zs_0) H1 := hP1
  have hD : va_D (fun q => s.heap.size ≤ q) (zs_wX cI cZ a zs_0) := hD1
  have hS := hS1
  refine lv_astore_n (lv' := [(1, .ref (a 0)), (0, .ref b)]) hx hb zd_L_law_7 rfl hl (by decide) rfl (fun ls hl => ?_)
  refine va_new (ci := 2) (fs := [.int 0, .null, .null, .null, .null, .null, .null, .null, .null, .null, .null]) (C := "ZoneShelfModel") (T := zs_T_M) (N := 11) hx hb hz zs_in_M zs_t_M zs_tok_M hown (hz _ zq_177) (hz _ zq_178) (hz _ zq_21) hk.1 hP hD hS (fun _ h => h) rfl (fun j hj => by rcases (show j = 0 ∨ j = 1 ∨ j = 2 ∨ j = 3 ∨ j = 4 ∨ j = 5 ∨ j = 6 ∨ j = 7 ∨ j = 8 ∨ j = 9 ∨ j = 10 by omega) with rfl | rfl | rfl | rfl | rfl | rfl | rfl | rfl | rfl | rfl | rfl <;> rfl) (Nat.le_of_ble_eq_true rfl) (Nat.le_of_ble_eq_true rfl) zd_L_law_8 (fun q1 H hP hD hS => ?_)
  refine lv_dup hx hb zd_L_law_11 rfl ?_
  refine zc_iV (rest := [.ref q1]) (wr := zs_wX cI cZ a zs_0) hx hb hml hown hz (zc_M_init l dC dI cI cZ q1 H.size) zf_M_init rfl rfl zq_179 zq_180 rfl ⟨Nat.le_of_ble_eq_true rfl, Nat.le_of_ble_eq_true rfl⟩ hk hP hD hS (fun _ h => h) [13] [0, 1, 2, 3, 4, 5, 6, 7, 8, 9, 10, 11, 12] rfl rfl (by decide) (by decide) (by decide) hl.1 rfl (Nat.le_of_ble_eq_true rfl) zd_L_law_12 ⟨Nat.le_of_ble_eq_true rfl, Nat.le_of_ble_eq_true rfl⟩ (fun d H2 locs2 ed hP2 hD2 hS2 => ?_)
  have ed : d 0 = q1 := ed
  subst ed
  refine lv_astore_n (lv' := [(2, .ref (d 0)), (1, .ref (a 0)), (0, .ref b)]) hx hb zd_L_law_15 rfl hl (by decide) rfl (fun ls hl => ?_)
  refine lv_iconst (v := 0) hx hb zd_L_law_16 (by decide) ?_
  refine lv_istore_n (lv' := [(3, .int 0), (2, .ref (d 0)), (1, .ref (a 0)), (0, .ref b)]) hx hb zd_L_law_17 rfl hl (by decide) rfl (fun ls hl => ?_)
  refine W.widen (k := 24) (n := 6552) (Nat.le_of_ble_eq_true rfl) (Nat.le_of_ble_eq_true rfl) ?_
  exact zl_loop l hx hb hr hlocks hml hown hz hk hX hbl hL 2048 0 zs_0 zm_0 H2 locs2 ls (by omega) (by omega) (lv_sub hl [0, 3, 2, 1] rfl) hP2 hD2 hS2 zp_0
-- ===== YOUR PART ENDS =====
set_option maxHeartbeats 4000000 in
theorem lw_walk (l : Launch) (b : Addr) (xs : List Int32) : MetFree l x (headSpec (Jvm.Cond.code x code maxLocals ret :: tables_1) room_1) (lw_P b xs) (fun _ _ _ _ _ => True) lw_Q := by
  refine MetFree.of_bodyS (code := code) (maxLocals := maxLocals) (ret := ret) (by decide) ?_ ?_
  · intro args s m h hn
    obtain ⟨meth, c, h1, h2, h3, h4, h5, h6, -, -⟩ := Cond.code_spec hn (atoms_spec (ws := Jvm.Cond.code x code maxLocals ret :: tables_1) h _ List.mem_cons_self)
    exact ⟨meth, c, h1, h2, h3, h4, h5, h6⟩
  · intro p e s m args below meth c s₁ B hml0 hP _
    obtain ⟨rfl, hx, hbd, hgv⟩ := hP
    obtain ⟨scr, harrAt, hlist, hof, hsmall⟩ := hx
    obtain ⟨hcb, hkn, -, -⟩ := State.arrayAt?_spec harrAt
    have hown : s.vm.findClass R_law = some m.cls := findClass_of_methodNamed B.named
    have hts0 : ∀ c ∈ (Jvm.Cond.code x code maxLocals ret :: tables_1), c.before #[Value.ref b] s = true := atoms_spec (ws := Jvm.Cond.code x code maxLocals ret :: tables_1) B.pre
    have hts : ∀ w ∈ lw_tbl, w.before #[Value.ref b] s = true := k2_hts_sels lw_privs (fun w hw => hts0 w (List.mem_cons_of_mem _ hw)) lw_privs_ok
    have hml : c.maxLocals = 4 := B.maxLocals_eq (hts0 _ List.mem_cons_self)
    have X₀ : Stand p l e room_1 s m #[Value.ref b] below meth c s₁ [] 0 0 := Stand.of_body B
    have hh0 : s₁.heap = s.heap := by rw [B.state]; rfl
    have hsz : scr.slots.size = xs.length := by rw [← Array.length_toList, hlist, List.length_map]
    have hval : ∀ j : Nat, j < xs.length → scr.slots[j]? = some (.int (xs.getD j 0)) := fun j hj => by
      rw [← Array.getElem?_toList, hlist]
      simp [hj]
    have hbl : b < s.heap.size := (Array.getElem?_eq_some_iff.mp hcb).1
    have hX : va_X b xs.length (fun j => xs.getD j 0) s s.heap := ⟨scr, hcb, hof, hkn, hsz, hval⟩
    have K : W p l e room_1 s m #[Value.ref b] below meth c s₁.heap [] 0 0 (lw_Z below #[Value.ref b] s) (entryFrame m ([Value.ref b] : List Value).toArray 4) := by
      rw [hh0]
      exact whole_start l hbd ⟨B.exec, B.bytes, B.returns, hml, hown, hts, hX, hbl, B.notSynchronized, hgv⟩
    obtain ⟨t, a1, o, b1, b2, b3⟩ := K s₁ rfl X₀
    exact ⟨t, o, a1, b1, b2, b3⟩
theorem lw_pre_spec {args : Array Value} {s : State} (h : (Jvm.Cond.and given_1 narrow_1).before args s = true) (hr : rest_1_c.before args s = true) : ∃ (b : Addr) (xs : List Int32), lw_P b xs args s := by
  have hs := flat_of_before _ h
  have hq := flat_of_before _ hr
  have hc : (Cond.count 1).before args s = true := hs _ (by decide +kernel)
  have harr : (Cond.arrayOf (.arg 0) .int).before args s = true := hs _ (by decide +kernel)
  have hle : (Cond.le (.length (.arg 0)) (.int 2048)).before args s = true := hs _ (by decide +kernel)
  have hlen : (Cond.isInt (.length (.arg 0))).before args s = true := hq _ (by decide +kernel)
  have hall : (Cond.all (.arg 0) (.isInt (.elem (.arg 0) (.index 0)))).before args s = true := hq _ (by decide +kernel)
  obtain ⟨b, xs, hb, hx⟩ := State.ints_of_pre rfl harr hlen hall
  have hsm : xs.length < 2 ^ 31 := hx.choose_spec.2.2.2
  have hev : (Term.length (.arg 0)).eval args s none [] s = some (.int xs.length.toInt32) := hx.length_eval hb
  have hv := Cond.le_ints hev (show (Term.int 2048).eval args s none [] s = some (.int 2048) from rfl)
  have hd : xs.length.toInt32 ≤ 2048 := by
    simpa [Cond.before, Cond.holds, hv] using hle
  have hN : xs.length ≤ 2048 := (Int32.ofNat_le_ofNat hsm (by decide)).mp (show Int32.ofNat xs.length ≤ Int32.ofNat 2048 from hd)
  exact ⟨b, xs, Cond.one_arg hc (show args[0]? = some (.ref b) from hb), hx, hN, h⟩
theorem lw_comes (l : Launch) : Comes l x (Jvm.Cond.code x code maxLocals ret :: tables_1) room_1 (fun tb e args s => Calls_1 tb e args s ∧ rest_1 tb e args s ∧ Pre_1 tb e args s)
    (fun _ _ args s o t => lw_Q args s o t) := by
  intro p e ha hc hk s m args below hf hfit hheap happ hpre
  obtain ⟨b, xs, hP⟩ := lw_pre_spec hpre.2.2 hpre.2.1
  obtain ⟨k, o, h1, h2, h3, hQ⟩ := lw_walk l b xs p e ha hc hk s m args below hf ((Spec.applies_iff_loose hf).mp happ).1 hP trivial
  exact ⟨k, o, h1, h2, h3, hQ⟩
theorem lw_frame {s t : State} {o : Outcome} {args : Array Value} (h : Framed s o t [] 24 6552) :
    Framed s o t (fieldLocs frame_1_writes args s ++ arrayLocs frame_1_arrays args s ++ staticLocs frame_1_statics s) 24 6552 := h
theorem lw_limb (L : Cond) (hL : ∀ (args : Array Value) (s t : State), L.after args s (.returned (some (.int 1))) t = true) :
    ArmFor flags0 classFile x code maxLocals ret World_1 tables_1 room_1 Calls_1 rest_1 Pre_1
      (fun tb e a s o t => postC L tb e a s o t ∧ Framed s o t (fieldLocs frame_1_writes a s ++ arrayLocs frame_1_arrays a s ++ staticLocs frame_1_statics s) 24 6552) := by
  intro l _ _ _ p e ha hc hk s m args below hf hfit hheap happ hpre
  obtain ⟨k, o, h1, h2, h3, rfl, hF⟩ := lw_comes l p e ha hc hk s m args below hf hfit hheap happ hpre
  exact ⟨k, _, h1, h2, h3, hL args s _, lw_frame hF⟩
theorem i_vc : Claimed_1_1 ∧ Claimed_1_2 := ⟨lw_limb limb_1_1 (fun args s t => by simp [limb_1_1, Cond.after, Cond.holds, Cond.value]), lw_limb limb_1_2 (fun args s t => Cond.after_iff.mpr (by
  first | (rw [show limb_1_2 = Cond.eq .result (.int 1) from rfl, Cond.eq_ints (x := 1) (y := 1) rfl rfl]; simp; done) | (simp [limb_1_2, Cond.value, Term.eval]; done)))⟩
end
