section
-- ===== PART A: goes FIRST, ahead of the names: the tables' words, and 'selects' of the private methods out of them =====
/-- a private method of a class that the tables say can be made, by its rows of tables_1 -/
def lw_okq (q : MethodName × Nat) : Prop := (q.1.cls ≠ "java/lang/invoke/MethodHandle" ∧ q.1.cls ≠ "java/lang/invoke/VarHandle") ∧ Cond.instantiable q.1.cls q.2 ∈ tables_1 ∧ Cond.privateMethod q.1 ∈ tables_1 ∧ Cond.instanceMethod q.1 ∈ tables_1
theorem lw_p0 : lw_okq (⟨"ZoneShelf", "isFreeName", "(I)Z"⟩, 3) := ⟨⟨by decide +kernel, by decide +kernel⟩, List.mem_of_getElem? (i := 8) (by decide +kernel), List.mem_of_getElem? (i := 62) (by decide +kernel), List.mem_of_getElem? (i := 63) (by decide +kernel)⟩
theorem lw_p1 : lw_okq (⟨"ZoneShelf$Contents", "numberOf", "(I)I"⟩, 5) := ⟨⟨by decide +kernel, by decide +kernel⟩, List.mem_of_getElem? (i := 16) (by decide +kernel), List.mem_of_getElem? (i := 69) (by decide +kernel), List.mem_of_getElem? (i := 70) (by decide +kernel)⟩
theorem lw_p2 : lw_okq (⟨"ZoneShelf$Contents", "leastFreeNumber", "()I"⟩, 5) := ⟨⟨by decide +kernel, by decide +kernel⟩, List.mem_of_getElem? (i := 16) (by decide +kernel), List.mem_of_getElem? (i := 76) (by decide +kernel), List.mem_of_getElem? (i := 77) (by decide +kernel)⟩
theorem lw_p3 : lw_okq (⟨"ZoneShelf$Contents", "isTaken", "(I)Z"⟩, 5) := ⟨⟨by decide +kernel, by decide +kernel⟩, List.mem_of_getElem? (i := 16) (by decide +kernel), List.mem_of_getElem? (i := 80) (by decide +kernel), List.mem_of_getElem? (i := 81) (by decide +kernel)⟩
theorem lw_p4 : lw_okq (⟨"ZoneShelf$Contents", "place", "(III)V"⟩, 5) := ⟨⟨by decide +kernel, by decide +kernel⟩, List.mem_of_getElem? (i := 16) (by decide +kernel), List.mem_of_getElem? (i := 84) (by decide +kernel), List.mem_of_getElem? (i := 85) (by decide +kernel)⟩
theorem lw_p5 : lw_okq (⟨"ZoneShelf", "isThere", "(I)Z"⟩, 3) := ⟨⟨by decide +kernel, by decide +kernel⟩, List.mem_of_getElem? (i := 8) (by decide +kernel), List.mem_of_getElem? (i := 96) (by decide +kernel), List.mem_of_getElem? (i := 97) (by decide +kernel)⟩
theorem lw_p6 : lw_okq (⟨"ZoneShelf", "roomIn", "(I)I"⟩, 3) := ⟨⟨by decide +kernel, by decide +kernel⟩, List.mem_of_getElem? (i := 8) (by decide +kernel), List.mem_of_getElem? (i := 101) (by decide +kernel), List.mem_of_getElem? (i := 102) (by decide +kernel)⟩
theorem lw_p7 : lw_okq (⟨"ZoneShelf$Contents", "countWords", "()I"⟩, 5) := ⟨⟨by decide +kernel, by decide +kernel⟩, List.mem_of_getElem? (i := 16) (by decide +kernel), List.mem_of_getElem? (i := 105) (by decide +kernel), List.mem_of_getElem? (i := 106) (by decide +kernel)⟩
theorem lw_p8 : lw_okq (⟨"ZoneShelf$Contents", "addRow", "(III)V"⟩, 5) := ⟨⟨by decide +kernel, by decide +kernel⟩, List.mem_of_getElem? (i := 16) (by decide +kernel), List.mem_of_getElem? (i := 112) (by decide +kernel), List.mem_of_getElem? (i := 113) (by decide +kernel)⟩
theorem lw_p9 : lw_okq (⟨"ZoneShelf$Contents", "takeAway", "(I)V"⟩, 5) := ⟨⟨by decide +kernel, by decide +kernel⟩, List.mem_of_getElem? (i := 16) (by decide +kernel), List.mem_of_getElem? (i := 125) (by decide +kernel), List.mem_of_getElem? (i := 126) (by decide +kernel)⟩
theorem lw_p10 : lw_okq (⟨"ZoneShelf$Contents", "copyFrom", "(LZoneShelf$Contents;)V"⟩, 5) := ⟨⟨by decide +kernel, by decide +kernel⟩, List.mem_of_getElem? (i := 16) (by decide +kernel), List.mem_of_getElem? (i := 137) (by decide +kernel), List.mem_of_getElem? (i := 138) (by decide +kernel)⟩
theorem lw_p11 : lw_okq (⟨"ZoneShelf$Contents", "countObjects", "()I"⟩, 5) := ⟨⟨by decide +kernel, by decide +kernel⟩, List.mem_of_getElem? (i := 16) (by decide +kernel), List.mem_of_getElem? (i := 169) (by decide +kernel), List.mem_of_getElem? (i := 170) (by decide +kernel)⟩
theorem lw_p12 : lw_okq (⟨"ZoneShelf$Contents", "numberAtRank", "(I)I"⟩, 5) := ⟨⟨by decide +kernel, by decide +kernel⟩, List.mem_of_getElem? (i := 16) (by decide +kernel), List.mem_of_getElem? (i := 193) (by decide +kernel), List.mem_of_getElem? (i := 194) (by decide +kernel)⟩
theorem lw_p13 : lw_okq (⟨"ZoneShelf$Contents", "countNamesBelow", "(I)I"⟩, 5) := ⟨⟨by decide +kernel, by decide +kernel⟩, List.mem_of_getElem? (i := 16) (by decide +kernel), List.mem_of_getElem? (i := 197) (by decide +kernel), List.mem_of_getElem? (i := 198) (by decide +kernel)⟩
theorem lw_p14 : lw_okq (⟨"ZoneShelfModel", "named", "(I)I"⟩, 11) := ⟨⟨by decide +kernel, by decide +kernel⟩, List.mem_of_getElem? (i := 201) (by decide +kernel), List.mem_of_getElem? (i := 248) (by decide +kernel), List.mem_of_getElem? (i := 249) (by decide +kernel)⟩
theorem lw_p15 : lw_okq (⟨"ZoneShelfModel", "is", "(I)Z"⟩, 11) := ⟨⟨by decide +kernel, by decide +kernel⟩, List.mem_of_getElem? (i := 201) (by decide +kernel), List.mem_of_getElem? (i := 252) (by decide +kernel), List.mem_of_getElem? (i := 253) (by decide +kernel)⟩
def lw_privs_1 : List (MethodName × Nat) := [(⟨"ZoneShelf", "isFreeName", "(I)Z"⟩, 3), (⟨"ZoneShelf$Contents", "numberOf", "(I)I"⟩, 5), (⟨"ZoneShelf$Contents", "leastFreeNumber", "()I"⟩, 5), (⟨"ZoneShelf$Contents", "isTaken", "(I)Z"⟩, 5), (⟨"ZoneShelf$Contents", "place", "(III)V"⟩, 5), (⟨"ZoneShelf", "isThere", "(I)Z"⟩, 3), (⟨"ZoneShelf", "roomIn", "(I)I"⟩, 3), (⟨"ZoneShelf$Contents", "countWords", "()I"⟩, 5), (⟨"ZoneShelf$Contents", "addRow", "(III)V"⟩, 5), (⟨"ZoneShelf$Contents", "takeAway", "(I)V"⟩, 5), (⟨"ZoneShelf$Contents", "copyFrom", "(LZoneShelf$Contents;)V"⟩, 5), (⟨"ZoneShelf$Contents", "countObjects", "()I"⟩, 5), (⟨"ZoneShelf$Contents", "numberAtRank", "(I)I"⟩, 5), (⟨"ZoneShelf$Contents", "countNamesBelow", "(I)I"⟩, 5), (⟨"ZoneShelfModel", "named", "(I)I"⟩, 11), (⟨"ZoneShelfModel", "is", "(I)Z"⟩, 11)]
theorem lw_r1 : ∀ q ∈ lw_privs_1, lw_okq q := List.forall_mem_cons.mpr ⟨lw_p0, List.forall_mem_cons.mpr ⟨lw_p1, List.forall_mem_cons.mpr ⟨lw_p2, List.forall_mem_cons.mpr ⟨lw_p3, List.forall_mem_cons.mpr ⟨lw_p4, List.forall_mem_cons.mpr ⟨lw_p5, List.forall_mem_cons.mpr ⟨lw_p6, List.forall_mem_cons.mpr ⟨lw_p7, List.forall_mem_cons.mpr ⟨lw_p8, List.forall_mem_cons.mpr ⟨lw_p9, List.forall_mem_cons.mpr ⟨lw_p10, List.forall_mem_cons.mpr ⟨lw_p11, List.forall_mem_cons.mpr ⟨lw_p12, List.forall_mem_cons.mpr ⟨lw_p13, List.forall_mem_cons.mpr ⟨lw_p14, List.forall_mem_cons.mpr ⟨lw_p15, fun _ h => absurd h List.not_mem_nil⟩⟩⟩⟩⟩⟩⟩⟩⟩⟩⟩⟩⟩⟩⟩⟩
theorem lw_p16 : lw_okq (⟨"ZoneShelfModel", "left", "()I"⟩, 11) := ⟨⟨by decide +kernel, by decide +kernel⟩, List.mem_of_getElem? (i := 201) (by decide +kernel), List.mem_of_getElem? (i := 264) (by decide +kernel), List.mem_of_getElem? (i := 265) (by decide +kernel)⟩
def lw_privs_2 : List (MethodName × Nat) := [(⟨"ZoneShelfModel", "left", "()I"⟩, 11)]
theorem lw_r2 : ∀ q ∈ lw_privs_2, lw_okq q := List.forall_mem_cons.mpr ⟨lw_p16, fun _ h => absurd h List.not_mem_nil⟩
def lw_privs : List (MethodName × Nat) := lw_privs_1 ++ (lw_privs_2)
def lw_tbl : List Cond := k2_sels lw_privs ++ tables_1
theorem lw_privs_ok : ∀ q ∈ lw_privs, lw_okq q := by
  show ∀ q ∈ lw_privs_1 ++ (lw_privs_2), lw_okq q
  exact List.forall_mem_append.mpr ⟨lw_r1, lw_r2⟩
end
section
def zs_T_X : u_T := fun k => match k with
  | 0 => ("ZoneShelf", "current", "LZoneShelf$Contents;", true)
  | 1 => ("ZoneShelf", "synced", "LZoneShelf$Contents;", true)
  | _ => ("ZoneShelf", "up", "Z", false)
def zs_t_X : Nat → FieldType := fun k => match k with
  | 0 => .object "ZoneShelf$Contents"
  | 1 => .object "ZoneShelf$Contents"
  | _ => .boolean
def zs_T_C : u_T := fun k => match k with
  | 0 => ("ZoneShelf$Contents", "names", "[I", true)
  | 1 => ("ZoneShelf$Contents", "hints", "[I", true)
  | 2 => ("ZoneShelf$Contents", "lengths", "[I", true)
  | 3 => ("ZoneShelf$Contents", "opened", "[Z", true)
  | _ => ("ZoneShelf$Contents", "words", "[I", true)
def zs_t_C : Nat → FieldType := fun k => match k with
  | 0 => .array .int
  | 1 => .array .int
  | 2 => .array .int
  | 3 => .array .boolean
  | _ => .array .int
def zs_T_M : u_T := fun k => match k with
  | 0 => ("ZoneShelfModel", "up", "Z", false)
  | 1 => ("ZoneShelfModel", "names", "[I", true)
  | 2 => ("ZoneShelfModel", "hints", "[I", true)
  | 3 => ("ZoneShelfModel", "sizes", "[I", true)
  | 4 => ("ZoneShelfModel", "opens", "[Z", true)
  | 5 => ("ZoneShelfModel", "words", "[I", true)
  | 6 => ("ZoneShelfModel", "oldNames", "[I", true)
  | 7 => ("ZoneShelfModel", "oldHints", "[I", true)
  | 8 => ("ZoneShelfModel", "oldSizes", "[I", true)
  | 9 => ("ZoneShelfModel", "oldOpens", "[Z", true)
  | _ => ("ZoneShelfModel", "oldWords", "[I", true)
def zs_t_M : Nat → FieldType := fun k => match k with
  | 0 => .boolean
  | 1 => .array .int
  | 2 => .array .int
  | 3 => .array .int
  | 4 => .array .boolean
  | 5 => .array .int
  | 6 => .array .int
  | 7 => .array .int
  | 8 => .array .int
  | 9 => .array .boolean
  | _ => .array .int
abbrev zs_cl : List vw_C := [("ZoneShelf", zs_T_X, 3), ("ZoneShelf$Contents", zs_T_C, 5), ("ZoneShelfModel", zs_T_M, 11)]
abbrev zb_X_init : ByteArray := prog_1_method_1_code
def zy_X_init : MethodName := ⟨"ZoneShelf", "<init>", "()V"⟩
abbrev zb_C_init : ByteArray := prog_2_method_1_code
def zy_C_init : MethodName := ⟨"ZoneShelf$Contents", "<init>", "()V"⟩
abbrev zb_J_fill : ByteArray := prog_7_method_103_code
def zy_J_fill : MethodName := ⟨"java/util/Arrays", "fill", "([II)V"⟩
abbrev zb_X_create : ByteArray := prog_1_method_2_code
def zy_X_create : MethodName := ⟨"ZoneShelf", "create", "(II)I"⟩
abbrev zb_X_isFreeName : ByteArray := prog_1_method_21_code
def zy_X_isFreeName : MethodName := ⟨"ZoneShelf", "isFreeName", "(I)Z"⟩
abbrev zb_X_isName : ByteArray := prog_1_method_23_code
def zy_X_isName : MethodName := ⟨"ZoneShelf", "isName", "(I)Z"⟩
abbrev zb_C_numberOf : ByteArray := prog_2_method_4_code
def zy_C_numberOf : MethodName := ⟨"ZoneShelf$Contents", "numberOf", "(I)I"⟩
abbrev zb_X_isHint : ByteArray := prog_1_method_24_code
def zy_X_isHint : MethodName := ⟨"ZoneShelf", "isHint", "(I)Z"⟩
abbrev zb_C_leastFreeNumber : ByteArray := prog_2_method_3_code
def zy_C_leastFreeNumber : MethodName := ⟨"ZoneShelf$Contents", "leastFreeNumber", "()I"⟩
abbrev zb_C_isTaken : ByteArray := prog_2_method_2_code
def zy_C_isTaken : MethodName := ⟨"ZoneShelf$Contents", "isTaken", "(I)Z"⟩
abbrev zb_C_place : ByteArray := prog_2_method_9_code
def zy_C_place : MethodName := ⟨"ZoneShelf$Contents", "place", "(III)V"⟩
abbrev zb_X_append : ByteArray := prog_1_method_3_code
def zy_X_append : MethodName := ⟨"ZoneShelf", "append", "(II)Z"⟩
abbrev zb_X_appendRow : ByteArray := prog_1_method_4_code
def zy_X_appendRow : MethodName := ⟨"ZoneShelf", "appendRow", "(III)Z"⟩
abbrev zb_X_isThere : ByteArray := prog_1_method_20_code
def zy_X_isThere : MethodName := ⟨"ZoneShelf", "isThere", "(I)Z"⟩
abbrev zb_X_roomIn : ByteArray := prog_1_method_22_code
def zy_X_roomIn : MethodName := ⟨"ZoneShelf", "roomIn", "(I)I"⟩
abbrev zb_C_countWords : ByteArray := prog_2_method_8_code
def zy_C_countWords : MethodName := ⟨"ZoneShelf$Contents", "countWords", "()I"⟩
abbrev zb_C_addRow : ByteArray := prog_2_method_11_code
def zy_C_addRow : MethodName := ⟨"ZoneShelf$Contents", "addRow", "(III)V"⟩
abbrev zb_X_open : ByteArray := prog_1_method_5_code
def zy_X_open : MethodName := ⟨"ZoneShelf", "open", "(IZ)Z"⟩
abbrev zb_X_remove : ByteArray := prog_1_method_6_code
def zy_X_remove : MethodName := ⟨"ZoneShelf", "remove", "(I)Z"⟩
abbrev zb_C_takeAway : ByteArray := prog_2_method_10_code
def zy_C_takeAway : MethodName := ⟨"ZoneShelf$Contents", "takeAway", "(I)V"⟩
abbrev zb_X_rename : ByteArray := prog_1_method_7_code
def zy_X_rename : MethodName := ⟨"ZoneShelf", "rename", "(II)Z"⟩
abbrev zb_X_sync : ByteArray := prog_1_method_8_code
def zy_X_sync : MethodName := ⟨"ZoneShelf", "sync", "()Z"⟩
abbrev zb_C_copyFrom : ByteArray := prog_2_method_12_code
def zy_C_copyFrom : MethodName := ⟨"ZoneShelf$Contents", "copyFrom", "(LZoneShelf$Contents;)V"⟩
abbrev zb_X_tear : ByteArray := prog_1_method_9_code
def zy_X_tear : MethodName := ⟨"ZoneShelf", "tear", "()Z"⟩
abbrev zb_X_cut : ByteArray := prog_1_method_10_code
def zy_X_cut : MethodName := ⟨"ZoneShelf", "cut", "()Z"⟩
abbrev zb_X_mount : ByteArray := prog_1_method_11_code
def zy_X_mount : MethodName := ⟨"ZoneShelf", "mount", "()Z"⟩
abbrev zb_X_tidy : ByteArray := prog_1_method_12_code
def zy_X_tidy : MethodName := ⟨"ZoneShelf", "tidy", "()Z"⟩
abbrev zb_X_isUp : ByteArray := prog_1_method_13_code
def zy_X_isUp : MethodName := ⟨"ZoneShelf", "isUp", "()Z"⟩
abbrev zb_X_objects : ByteArray := prog_1_method_14_code
def zy_X_objects : MethodName := ⟨"ZoneShelf", "objects", "()I"⟩
abbrev zb_C_countObjects : ByteArray := prog_2_method_7_code
def zy_C_countObjects : MethodName := ⟨"ZoneShelf$Contents", "countObjects", "()I"⟩
abbrev zb_X_room : ByteArray := prog_1_method_15_code
def zy_X_room : MethodName := ⟨"ZoneShelf", "room", "()I"⟩
abbrev zb_X_object : ByteArray := prog_1_method_16_code
def zy_X_object : MethodName := ⟨"ZoneShelf", "object", "(II)I"⟩
abbrev zb_X_word : ByteArray := prog_1_method_17_code
def zy_X_word : MethodName := ⟨"ZoneShelf", "word", "(II)I"⟩
abbrev zb_X_find : ByteArray := prog_1_method_18_code
def zy_X_find : MethodName := ⟨"ZoneShelf", "find", "(I)I"⟩
abbrev zb_X_list : ByteArray := prog_1_method_19_code
def zy_X_list : MethodName := ⟨"ZoneShelf", "list", "(I)I"⟩
abbrev zb_C_numberAtRank : ByteArray := prog_2_method_5_code
def zy_C_numberAtRank : MethodName := ⟨"ZoneShelf$Contents", "numberAtRank", "(I)I"⟩
abbrev zb_C_countNamesBelow : ByteArray := prog_2_method_6_code
def zy_C_countNamesBelow : MethodName := ⟨"ZoneShelf$Contents", "countNamesBelow", "(I)I"⟩
abbrev zb_M_init : ByteArray := prog_4_method_1_code
def zy_M_init : MethodName := ⟨"ZoneShelfModel", "<init>", "()V"⟩
abbrev zb_M_create : ByteArray := prog_4_method_6_code
def zy_M_create : MethodName := ⟨"ZoneShelfModel", "create", "(II)I"⟩
abbrev zb_M_isName : ByteArray := prog_4_method_3_code
def zy_M_isName : MethodName := ⟨"ZoneShelfModel", "isName", "(I)Z"⟩
abbrev zb_M_named : ByteArray := prog_4_method_4_code
def zy_M_named : MethodName := ⟨"ZoneShelfModel", "named", "(I)I"⟩
abbrev zb_M_is : ByteArray := prog_4_method_2_code
def zy_M_is : MethodName := ⟨"ZoneShelfModel", "is", "(I)Z"⟩
abbrev zb_M_append : ByteArray := prog_4_method_7_code
def zy_M_append : MethodName := ⟨"ZoneShelfModel", "append", "(II)Z"⟩
abbrev zb_M_appendRow : ByteArray := prog_4_method_8_code
def zy_M_appendRow : MethodName := ⟨"ZoneShelfModel", "appendRow", "(III)Z"⟩
abbrev zb_M_left : ByteArray := prog_4_method_5_code
def zy_M_left : MethodName := ⟨"ZoneShelfModel", "left", "()I"⟩
abbrev zb_M_open : ByteArray := prog_4_method_9_code
def zy_M_open : MethodName := ⟨"ZoneShelfModel", "open", "(IZ)Z"⟩
abbrev zb_M_remove : ByteArray := prog_4_method_10_code
def zy_M_remove : MethodName := ⟨"ZoneShelfModel", "remove", "(I)Z"⟩
abbrev zb_M_rename : ByteArray := prog_4_method_11_code
def zy_M_rename : MethodName := ⟨"ZoneShelfModel", "rename", "(II)Z"⟩
abbrev zb_M_sync : ByteArray := prog_4_method_12_code
def zy_M_sync : MethodName := ⟨"ZoneShelfModel", "sync", "()Z"⟩
abbrev zb_M_tear : ByteArray := prog_4_method_13_code
def zy_M_tear : MethodName := ⟨"ZoneShelfModel", "tear", "()Z"⟩
abbrev zb_M_cut : ByteArray := prog_4_method_14_code
def zy_M_cut : MethodName := ⟨"ZoneShelfModel", "cut", "()Z"⟩
abbrev zb_M_mount : ByteArray := prog_4_method_15_code
def zy_M_mount : MethodName := ⟨"ZoneShelfModel", "mount", "()Z"⟩
abbrev zb_M_tidy : ByteArray := prog_4_method_16_code
def zy_M_tidy : MethodName := ⟨"ZoneShelfModel", "tidy", "()Z"⟩
abbrev zb_M_isUp : ByteArray := prog_4_method_17_code
def zy_M_isUp : MethodName := ⟨"ZoneShelfModel", "isUp", "()Z"⟩
abbrev zb_M_objects : ByteArray := prog_4_method_18_code
def zy_M_objects : MethodName := ⟨"ZoneShelfModel", "objects", "()I"⟩
abbrev zb_M_room : ByteArray := prog_4_method_19_code
def zy_M_room : MethodName := ⟨"ZoneShelfModel", "room", "()I"⟩
abbrev zb_M_object : ByteArray := prog_4_method_20_code
def zy_M_object : MethodName := ⟨"ZoneShelfModel", "object", "(II)I"⟩
abbrev zb_M_word : ByteArray := prog_4_method_21_code
def zy_M_word : MethodName := ⟨"ZoneShelfModel", "word", "(II)I"⟩
abbrev zb_M_find : ByteArray := prog_4_method_22_code
def zy_M_find : MethodName := ⟨"ZoneShelfModel", "find", "(I)I"⟩
abbrev zb_M_list : ByteArray := prog_4_method_23_code
def zy_M_list : MethodName := ⟨"ZoneShelfModel", "list", "(I)I"⟩
/-- the words that every method of this claim is given -/
def zs_w : List Cond := [(Jvm.Cond.selects "ZoneShelf" ({ cls := "ZoneShelf", name := "isFreeName", desc := "(I)Z" } : Jvm.MethodName) ({ cls := "ZoneShelf", name := "isFreeName", desc := "(I)Z" } : Jvm.MethodName)),
  (Jvm.Cond.selects "ZoneShelf$Contents" ({ cls := "ZoneShelf$Contents", name := "numberOf", desc := "(I)I" } : Jvm.MethodName) ({ cls := "ZoneShelf$Contents", name := "numberOf", desc := "(I)I" } : Jvm.MethodName)),
  (Jvm.Cond.selects "ZoneShelf$Contents" ({ cls := "ZoneShelf$Contents", name := "leastFreeNumber", desc := "()I" } : Jvm.MethodName) ({ cls := "ZoneShelf$Contents", name := "leastFreeNumber", desc := "()I" } : Jvm.MethodName)),
  (Jvm.Cond.selects "ZoneShelf$Contents" ({ cls := "ZoneShelf$Contents", name := "isTaken", desc := "(I)Z" } : Jvm.MethodName) ({ cls := "ZoneShelf$Contents", name := "isTaken", desc := "(I)Z" } : Jvm.MethodName)),
  (Jvm.Cond.selects "ZoneShelf$Contents" ({ cls := "ZoneShelf$Contents", name := "place", desc := "(III)V" } : Jvm.MethodName) ({ cls := "ZoneShelf$Contents", name := "place", desc := "(III)V" } : Jvm.MethodName)),
  (Jvm.Cond.selects "ZoneShelf" ({ cls := "ZoneShelf", name := "isThere", desc := "(I)Z" } : Jvm.MethodName) ({ cls := "ZoneShelf", name := "isThere", desc := "(I)Z" } : Jvm.MethodName)),
  (Jvm.Cond.selects "ZoneShelf" ({ cls := "ZoneShelf", name := "roomIn", desc := "(I)I" } : Jvm.MethodName) ({ cls := "ZoneShelf", name := "roomIn", desc := "(I)I" } : Jvm.MethodName)),
  (Jvm.Cond.selects "ZoneShelf$Contents" ({ cls := "ZoneShelf$Contents", name := "countWords", desc := "()I" } : Jvm.MethodName) ({ cls := "ZoneShelf$Contents", name := "countWords", desc := "()I" } : Jvm.MethodName)),
  (Jvm.Cond.selects "ZoneShelf$Contents" ({ cls := "ZoneShelf$Contents", name := "addRow", desc := "(III)V" } : Jvm.MethodName) ({ cls := "ZoneShelf$Contents", name := "addRow", desc := "(III)V" } : Jvm.MethodName)),
  (Jvm.Cond.selects "ZoneShelf$Contents" ({ cls := "ZoneShelf$Contents", name := "takeAway", desc := "(I)V" } : Jvm.MethodName) ({ cls := "ZoneShelf$Contents", name := "takeAway", desc := "(I)V" } : Jvm.MethodName)),
  (Jvm.Cond.selects "ZoneShelf$Contents" ({ cls := "ZoneShelf$Contents", name := "copyFrom", desc := "(LZoneShelf$Contents;)V" } : Jvm.MethodName) ({ cls := "ZoneShelf$Contents", name := "copyFrom", desc := "(LZoneShelf$Contents;)V" } : Jvm.MethodName)),
  (Jvm.Cond.selects "ZoneShelf$Contents" ({ cls := "ZoneShelf$Contents", name := "countObjects", desc := "()I" } : Jvm.MethodName) ({ cls := "ZoneShelf$Contents", name := "countObjects", desc := "()I" } : Jvm.MethodName)),
  (Jvm.Cond.selects "ZoneShelf$Contents" ({ cls := "ZoneShelf$Contents", name := "numberAtRank", desc := "(I)I" } : Jvm.MethodName) ({ cls := "ZoneShelf$Contents", name := "numberAtRank", desc := "(I)I" } : Jvm.MethodName)),
  (Jvm.Cond.selects "ZoneShelf$Contents" ({ cls := "ZoneShelf$Contents", name := "countNamesBelow", desc := "(I)I" } : Jvm.MethodName) ({ cls := "ZoneShelf$Contents", name := "countNamesBelow", desc := "(I)I" } : Jvm.MethodName)),
  (Jvm.Cond.selects "ZoneShelfModel" ({ cls := "ZoneShelfModel", name := "named", desc := "(I)I" } : Jvm.MethodName) ({ cls := "ZoneShelfModel", name := "named", desc := "(I)I" } : Jvm.MethodName)),
  (Jvm.Cond.selects "ZoneShelfModel" ({ cls := "ZoneShelfModel", name := "is", desc := "(I)Z" } : Jvm.MethodName) ({ cls := "ZoneShelfModel", name := "is", desc := "(I)Z" } : Jvm.MethodName)),
  (Jvm.Cond.selects "ZoneShelfModel" ({ cls := "ZoneShelfModel", name := "left", desc := "()I" } : Jvm.MethodName) ({ cls := "ZoneShelfModel", name := "left", desc := "()I" } : Jvm.MethodName)),
  (Jvm.Cond.initialized "ZoneShelfLaw"),
  (Jvm.Cond.initialized "ZoneShelf"),
  (Jvm.Cond.initialized "ZoneShelf$Contents"),
  (Jvm.Cond.initialized "java/util/Arrays"),
  (Jvm.Cond.initialized "ZoneShelfModel"),
  (Jvm.Cond.initialized "java/lang/Math"),
  (Jvm.Cond.initialized "java/lang/System"),
  (Jvm.Cond.classLink "ZoneShelfLaw" (7 : Nat) "ZoneShelf"),
  (Jvm.Cond.instantiable "ZoneShelf" (3 : Nat)),
  (Jvm.Cond.methodLink "ZoneShelfLaw" (9 : Nat) ({ cls := "ZoneShelf", name := "<init>", desc := "()V" } : Jvm.MethodName)),
  (Jvm.Cond.instanceMethod ({ cls := "ZoneShelf", name := "<init>", desc := "()V" } : Jvm.MethodName)),
  (Jvm.Cond.code ({ cls := "ZoneShelf", name := "<init>", desc := "()V" } : Jvm.MethodName) prog_1_method_1_code (1 : Nat) (Option.none : Option Jvm.ClassFile.FieldType)),
  (Jvm.Cond.methodLink "ZoneShelf" (1 : Nat) ({ cls := "java/lang/Object", name := "<init>", desc := "()V" } : Jvm.MethodName)),
  (Jvm.Cond.instanceMethod ({ cls := "java/lang/Object", name := "<init>", desc := "()V" } : Jvm.MethodName)),
  (Jvm.Cond.code ({ cls := "java/lang/Object", name := "<init>", desc := "()V" } : Jvm.MethodName) object_method_1_code (1 : Nat) (Option.none : Option Jvm.ClassFile.FieldType)),
  (Jvm.Cond.classLink "ZoneShelf" (7 : Nat) "ZoneShelf$Contents"),
  (Jvm.Cond.instantiable "ZoneShelf$Contents" (5 : Nat)),
  (Jvm.Cond.instanceMethod ({ cls := "ZoneShelf$Contents", name := "<init>", desc := "()V" } : Jvm.MethodName)),
  (Jvm.Cond.code ({ cls := "ZoneShelf$Contents", name := "<init>", desc := "()V" } : Jvm.MethodName) prog_2_method_1_code (1 : Nat) (Option.none : Option Jvm.ClassFile.FieldType)),
  (Jvm.Cond.methodLink "ZoneShelf$Contents" (3 : Nat) ({ cls := "java/lang/Object", name := "<init>", desc := "()V" } : Jvm.MethodName)),
  (Jvm.Cond.methodLink "ZoneShelf$Contents" (28 : Nat) ({ cls := "java/util/Arrays", name := "fill", desc := "([II)V" } : Jvm.MethodName)),
  (Jvm.Cond.static ({ cls := "java/util/Arrays", name := "fill", desc := "([II)V" } : Jvm.MethodName)),
  (Jvm.Cond.code ({ cls := "java/util/Arrays", name := "fill", desc := "([II)V" } : Jvm.MethodName) prog_7_method_103_code (4 : Nat) (Option.none : Option Jvm.ClassFile.FieldType)),
  (Jvm.Cond.fieldLink "ZoneShelf$Contents" (9 : Nat) "ZoneShelf$Contents" "names" "[I"),
  (Jvm.Cond.fieldLink "ZoneShelf$Contents" (15 : Nat) "ZoneShelf$Contents" "hints" "[I"),
  (Jvm.Cond.fieldLink "ZoneShelf$Contents" (18 : Nat) "ZoneShelf$Contents" "lengths" "[I"),
  (Jvm.Cond.fieldLink "ZoneShelf$Contents" (21 : Nat) "ZoneShelf$Contents" "opened" "[Z"),
  (Jvm.Cond.fieldLink "ZoneShelf$Contents" (25 : Nat) "ZoneShelf$Contents" "words" "[I"),
  (Jvm.Cond.laysFinal "ZoneShelf$Contents" "ZoneShelf$Contents" "names" "[I"),
  (Jvm.Cond.laysFinal "ZoneShelf$Contents" "ZoneShelf$Contents" "hints" "[I"),
  (Jvm.Cond.laysFinal "ZoneShelf$Contents" "ZoneShelf$Contents" "lengths" "[I"),
  (Jvm.Cond.laysFinal "ZoneShelf$Contents" "ZoneShelf$Contents" "opened" "[Z"),
  (Jvm.Cond.laysFinal "ZoneShelf$Contents" "ZoneShelf$Contents" "words" "[I"),
  (Jvm.Cond.arrayClass Jvm.ClassFile.FieldType.int),
  (Jvm.Cond.arrayClass Jvm.ClassFile.FieldType.boolean),
  (Jvm.Cond.fieldLink "ZoneShelf" (10 : Nat) "ZoneShelf" "current" "LZoneShelf$Contents;"),
  (Jvm.Cond.fieldLink "ZoneShelf" (16 : Nat) "ZoneShelf" "synced" "LZoneShelf$Contents;"),
  (Jvm.Cond.fieldLink "ZoneShelf" (19 : Nat) "ZoneShelf" "up" "Z"),
  (Jvm.Cond.laysFinal "ZoneShelf" "ZoneShelf" "current" "LZoneShelf$Contents;"),
  (Jvm.Cond.laysFinal "ZoneShelf" "ZoneShelf" "synced" "LZoneShelf$Contents;"),
  (Jvm.Cond.lays "ZoneShelf" "ZoneShelf" "up" "Z"),
  (Jvm.Cond.methodLink "ZoneShelfLaw" (13 : Nat) ({ cls := "ZoneShelf", name := "create", desc := "(II)I" } : Jvm.MethodName)),
  (Jvm.Cond.instanceMethod ({ cls := "ZoneShelf", name := "create", desc := "(II)I" } : Jvm.MethodName)),
  (Jvm.Cond.selects "ZoneShelf" ({ cls := "ZoneShelf", name := "create", desc := "(II)I" } : Jvm.MethodName) ({ cls := "ZoneShelf", name := "create", desc := "(II)I" } : Jvm.MethodName)),
  (Jvm.Cond.code ({ cls := "ZoneShelf", name := "create", desc := "(II)I" } : Jvm.MethodName) prog_1_method_2_code (4 : Nat) (Option.some Jvm.ClassFile.FieldType.int)),
  (Jvm.Cond.methodLink "ZoneShelf" (23 : Nat) ({ cls := "ZoneShelf", name := "isFreeName", desc := "(I)Z" } : Jvm.MethodName)),
  (Jvm.Cond.instanceMethod ({ cls := "ZoneShelf", name := "isFreeName", desc := "(I)Z" } : Jvm.MethodName)),
  (Jvm.Cond.code ({ cls := "ZoneShelf", name := "isFreeName", desc := "(I)Z" } : Jvm.MethodName) prog_1_method_21_code (2 : Nat) (Option.some Jvm.ClassFile.FieldType.boolean)),
  (Jvm.Cond.methodLink "ZoneShelf" (87 : Nat) ({ cls := "ZoneShelf", name := "isName", desc := "(I)Z" } : Jvm.MethodName)),
  (Jvm.Cond.static ({ cls := "ZoneShelf", name := "isName", desc := "(I)Z" } : Jvm.MethodName)),
  (Jvm.Cond.code ({ cls := "ZoneShelf", name := "isName", desc := "(I)Z" } : Jvm.MethodName) prog_1_method_23_code (1 : Nat) (Option.some Jvm.ClassFile.FieldType.boolean)),
  (Jvm.Cond.instanceMethod ({ cls := "ZoneShelf$Contents", name := "numberOf", desc := "(I)I" } : Jvm.MethodName)),
  (Jvm.Cond.code ({ cls := "ZoneShelf$Contents", name := "numberOf", desc := "(I)I" } : Jvm.MethodName) prog_2_method_4_code (3 : Nat) (Option.some Jvm.ClassFile.FieldType.int)),
  (Jvm.Cond.methodLink "ZoneShelf" (27 : Nat) ({ cls := "ZoneShelf", name := "isHint", desc := "(I)Z" } : Jvm.MethodName)),
  (Jvm.Cond.static ({ cls := "ZoneShelf", name := "isHint", desc := "(I)Z" } : Jvm.MethodName)),
  (Jvm.Cond.code ({ cls := "ZoneShelf", name := "isHint", desc := "(I)Z" } : Jvm.MethodName) prog_1_method_24_code (1 : Nat) (Option.some Jvm.ClassFile.FieldType.boolean)),
  (Jvm.Cond.instanceMethod ({ cls := "ZoneShelf$Contents", name := "leastFreeNumber", desc := "()I" } : Jvm.MethodName)),
  (Jvm.Cond.code ({ cls := "ZoneShelf$Contents", name := "leastFreeNumber", desc := "()I" } : Jvm.MethodName) prog_2_method_3_code (2 : Nat) (Option.some Jvm.ClassFile.FieldType.int)),
  (Jvm.Cond.methodLink "ZoneShelf$Contents" (34 : Nat) ({ cls := "ZoneShelf$Contents", name := "isTaken", desc := "(I)Z" } : Jvm.MethodName)),
  (Jvm.Cond.instanceMethod ({ cls := "ZoneShelf$Contents", name := "isTaken", desc := "(I)Z" } : Jvm.MethodName)),
  (Jvm.Cond.code ({ cls := "ZoneShelf$Contents", name := "isTaken", desc := "(I)Z" } : Jvm.MethodName) prog_2_method_2_code (2 : Nat) (Option.some Jvm.ClassFile.FieldType.boolean)),
  (Jvm.Cond.instanceMethod ({ cls := "ZoneShelf$Contents", name := "place", desc := "(III)V" } : Jvm.MethodName)),
  (Jvm.Cond.code ({ cls := "ZoneShelf$Contents", name := "place", desc := "(III)V" } : Jvm.MethodName) prog_2_method_9_code (4 : Nat) (Option.none : Option Jvm.ClassFile.FieldType)),
  (Jvm.Cond.methodLink "ZoneShelfLaw" (18 : Nat) ({ cls := "ZoneShelf", name := "append", desc := "(II)Z" } : Jvm.MethodName)),
  (Jvm.Cond.instanceMethod ({ cls := "ZoneShelf", name := "append", desc := "(II)Z" } : Jvm.MethodName)),
  (Jvm.Cond.selects "ZoneShelf" ({ cls := "ZoneShelf", name := "append", desc := "(II)Z" } : Jvm.MethodName) ({ cls := "ZoneShelf", name := "append", desc := "(II)Z" } : Jvm.MethodName)),
  (Jvm.Cond.code ({ cls := "ZoneShelf", name := "append", desc := "(II)Z" } : Jvm.MethodName) prog_1_method_3_code (3 : Nat) (Option.some Jvm.ClassFile.FieldType.boolean)),
  (Jvm.Cond.methodLink "ZoneShelf" (38 : Nat) ({ cls := "ZoneShelf", name := "appendRow", desc := "(III)Z" } : Jvm.MethodName)),
  (Jvm.Cond.instanceMethod ({ cls := "ZoneShelf", name := "appendRow", desc := "(III)Z" } : Jvm.MethodName)),
  (Jvm.Cond.selects "ZoneShelf" ({ cls := "ZoneShelf", name := "appendRow", desc := "(III)Z" } : Jvm.MethodName) ({ cls := "ZoneShelf", name := "appendRow", desc := "(III)Z" } : Jvm.MethodName)),
  (Jvm.Cond.code ({ cls := "ZoneShelf", name := "appendRow", desc := "(III)Z" } : Jvm.MethodName) prog_1_method_4_code (4 : Nat) (Option.some Jvm.ClassFile.FieldType.boolean)),
  (Jvm.Cond.methodLink "ZoneShelf" (42 : Nat) ({ cls := "ZoneShelf", name := "isThere", desc := "(I)Z" } : Jvm.MethodName)),
  (Jvm.Cond.instanceMethod ({ cls := "ZoneShelf", name := "isThere", desc := "(I)Z" } : Jvm.MethodName)),
  (Jvm.Cond.code ({ cls := "ZoneShelf", name := "isThere", desc := "(I)Z" } : Jvm.MethodName) prog_1_method_20_code (2 : Nat) (Option.some Jvm.ClassFile.FieldType.boolean)),
  (Jvm.Cond.methodLink "ZoneShelf" (49 : Nat) ({ cls := "ZoneShelf", name := "roomIn", desc := "(I)I" } : Jvm.MethodName)),
  (Jvm.Cond.instanceMethod ({ cls := "ZoneShelf", name := "roomIn", desc := "(I)I" } : Jvm.MethodName)),
  (Jvm.Cond.code ({ cls := "ZoneShelf", name := "roomIn", desc := "(I)I" } : Jvm.MethodName) prog_1_method_22_code (2 : Nat) (Option.some Jvm.ClassFile.FieldType.int)),
  (Jvm.Cond.instanceMethod ({ cls := "ZoneShelf$Contents", name := "countWords", desc := "()I" } : Jvm.MethodName)),
  (Jvm.Cond.code ({ cls := "ZoneShelf$Contents", name := "countWords", desc := "()I" } : Jvm.MethodName) prog_2_method_8_code (3 : Nat) (Option.some Jvm.ClassFile.FieldType.int)),
  (Jvm.Cond.methodLink "ZoneShelf" (99 : Nat) ({ cls := "java/lang/Math", name := "min", desc := "(II)I" } : Jvm.MethodName)),
  (Jvm.Cond.static ({ cls := "java/lang/Math", name := "min", desc := "(II)I" } : Jvm.MethodName)),
  (Jvm.Cond.code ({ cls := "java/lang/Math", name := "min", desc := "(II)I" } : Jvm.MethodName) prog_5_method_69_code (2 : Nat) (Option.some Jvm.ClassFile.FieldType.int)),
  (Jvm.Cond.instanceMethod ({ cls := "ZoneShelf$Contents", name := "addRow", desc := "(III)V" } : Jvm.MethodName)),
  (Jvm.Cond.code ({ cls := "ZoneShelf$Contents", name := "addRow", desc := "(III)V" } : Jvm.MethodName) prog_2_method_11_code (6 : Nat) (Option.none : Option Jvm.ClassFile.FieldType)),
  (Jvm.Cond.methodLink "ZoneShelfLaw" (23 : Nat) ({ cls := "ZoneShelf", name := "appendRow", desc := "(III)Z" } : Jvm.MethodName)),
  (Jvm.Cond.methodLink "ZoneShelfLaw" (28 : Nat) ({ cls := "ZoneShelf", name := "open", desc := "(IZ)Z" } : Jvm.MethodName)),
  (Jvm.Cond.instanceMethod ({ cls := "ZoneShelf", name := "open", desc := "(IZ)Z" } : Jvm.MethodName)),
  (Jvm.Cond.selects "ZoneShelf" ({ cls := "ZoneShelf", name := "open", desc := "(IZ)Z" } : Jvm.MethodName) ({ cls := "ZoneShelf", name := "open", desc := "(IZ)Z" } : Jvm.MethodName)),
  (Jvm.Cond.code ({ cls := "ZoneShelf", name := "open", desc := "(IZ)Z" } : Jvm.MethodName) prog_1_method_5_code (3 : Nat) (Option.some Jvm.ClassFile.FieldType.boolean)),
  (Jvm.Cond.methodLink "ZoneShelfLaw" (33 : Nat) ({ cls := "ZoneShelf", name := "remove", desc := "(I)Z" } : Jvm.MethodName)),
  (Jvm.Cond.instanceMethod ({ cls := "ZoneShelf", name := "remove", desc := "(I)Z" } : Jvm.MethodName)),
  (Jvm.Cond.selects "ZoneShelf" ({ cls := "ZoneShelf", name := "remove", desc := "(I)Z" } : Jvm.MethodName) ({ cls := "ZoneShelf", name := "remove", desc := "(I)Z" } : Jvm.MethodName)),
  (Jvm.Cond.code ({ cls := "ZoneShelf", name := "remove", desc := "(I)Z" } : Jvm.MethodName) prog_1_method_6_code (2 : Nat) (Option.some Jvm.ClassFile.FieldType.boolean)),
  (Jvm.Cond.instanceMethod ({ cls := "ZoneShelf$Contents", name := "takeAway", desc := "(I)V" } : Jvm.MethodName)),
  (Jvm.Cond.code ({ cls := "ZoneShelf$Contents", name := "takeAway", desc := "(I)V" } : Jvm.MethodName) prog_2_method_10_code (2 : Nat) (Option.none : Option Jvm.ClassFile.FieldType)),
  (Jvm.Cond.methodLink "ZoneShelfLaw" (38 : Nat) ({ cls := "ZoneShelf", name := "rename", desc := "(II)Z" } : Jvm.MethodName)),
  (Jvm.Cond.instanceMethod ({ cls := "ZoneShelf", name := "rename", desc := "(II)Z" } : Jvm.MethodName)),
  (Jvm.Cond.selects "ZoneShelf" ({ cls := "ZoneShelf", name := "rename", desc := "(II)Z" } : Jvm.MethodName) ({ cls := "ZoneShelf", name := "rename", desc := "(II)Z" } : Jvm.MethodName)),
  (Jvm.Cond.code ({ cls := "ZoneShelf", name := "rename", desc := "(II)Z" } : Jvm.MethodName) prog_1_method_7_code (3 : Nat) (Option.some Jvm.ClassFile.FieldType.boolean)),
  (Jvm.Cond.methodLink "ZoneShelfLaw" (42 : Nat) ({ cls := "ZoneShelf", name := "sync", desc := "()Z" } : Jvm.MethodName)),
  (Jvm.Cond.instanceMethod ({ cls := "ZoneShelf", name := "sync", desc := "()Z" } : Jvm.MethodName)),
  (Jvm.Cond.selects "ZoneShelf" ({ cls := "ZoneShelf", name := "sync", desc := "()Z" } : Jvm.MethodName) ({ cls := "ZoneShelf", name := "sync", desc := "()Z" } : Jvm.MethodName)),
  (Jvm.Cond.code ({ cls := "ZoneShelf", name := "sync", desc := "()Z" } : Jvm.MethodName) prog_1_method_8_code (1 : Nat) (Option.some Jvm.ClassFile.FieldType.boolean)),
  (Jvm.Cond.instanceMethod ({ cls := "ZoneShelf$Contents", name := "copyFrom", desc := "(LZoneShelf$Contents;)V" } : Jvm.MethodName)),
  (Jvm.Cond.code ({ cls := "ZoneShelf$Contents", name := "copyFrom", desc := "(LZoneShelf$Contents;)V" } : Jvm.MethodName) prog_2_method_12_code (3 : Nat) (Option.none : Option Jvm.ClassFile.FieldType)),
  (Jvm.Cond.methodLink "ZoneShelf$Contents" (42 : Nat) ({ cls := "java/lang/System", name := "arraycopy", desc := "(Ljava/lang/Object;ILjava/lang/Object;II)V" } : Jvm.MethodName)),
  (Jvm.Cond.static ({ cls := "java/lang/System", name := "arraycopy", desc := "(Ljava/lang/Object;ILjava/lang/Object;II)V" } : Jvm.MethodName)),
  (Jvm.Cond.native ({ cls := "java/lang/System", name := "arraycopy", desc := "(Ljava/lang/Object;ILjava/lang/Object;II)V" } : Jvm.MethodName)),
  (Jvm.Cond.methodLink "ZoneShelfLaw" (47 : Nat) ({ cls := "ZoneShelf", name := "tear", desc := "()Z" } : Jvm.MethodName)),
  (Jvm.Cond.instanceMethod ({ cls := "ZoneShelf", name := "tear", desc := "()Z" } : Jvm.MethodName)),
  (Jvm.Cond.selects "ZoneShelf" ({ cls := "ZoneShelf", name := "tear", desc := "()Z" } : Jvm.MethodName) ({ cls := "ZoneShelf", name := "tear", desc := "()Z" } : Jvm.MethodName)),
  (Jvm.Cond.code ({ cls := "ZoneShelf", name := "tear", desc := "()Z" } : Jvm.MethodName) prog_1_method_9_code (1 : Nat) (Option.some Jvm.ClassFile.FieldType.boolean)),
  (Jvm.Cond.methodLink "ZoneShelf" (68 : Nat) ({ cls := "ZoneShelf", name := "cut", desc := "()Z" } : Jvm.MethodName)),
  (Jvm.Cond.instanceMethod ({ cls := "ZoneShelf", name := "cut", desc := "()Z" } : Jvm.MethodName)),
  (Jvm.Cond.selects "ZoneShelf" ({ cls := "ZoneShelf", name := "cut", desc := "()Z" } : Jvm.MethodName) ({ cls := "ZoneShelf", name := "cut", desc := "()Z" } : Jvm.MethodName)),
  (Jvm.Cond.code ({ cls := "ZoneShelf", name := "cut", desc := "()Z" } : Jvm.MethodName) prog_1_method_10_code (1 : Nat) (Option.some Jvm.ClassFile.FieldType.boolean)),
  (Jvm.Cond.methodLink "ZoneShelfLaw" (51 : Nat) ({ cls := "ZoneShelf", name := "cut", desc := "()Z" } : Jvm.MethodName)),
  (Jvm.Cond.methodLink "ZoneShelfLaw" (55 : Nat) ({ cls := "ZoneShelf", name := "mount", desc := "()Z" } : Jvm.MethodName)),
  (Jvm.Cond.instanceMethod ({ cls := "ZoneShelf", name := "mount", desc := "()Z" } : Jvm.MethodName)),
  (Jvm.Cond.selects "ZoneShelf" ({ cls := "ZoneShelf", name := "mount", desc := "()Z" } : Jvm.MethodName) ({ cls := "ZoneShelf", name := "mount", desc := "()Z" } : Jvm.MethodName)),
  (Jvm.Cond.code ({ cls := "ZoneShelf", name := "mount", desc := "()Z" } : Jvm.MethodName) prog_1_method_11_code (1 : Nat) (Option.some Jvm.ClassFile.FieldType.boolean)),
  (Jvm.Cond.methodLink "ZoneShelfLaw" (59 : Nat) ({ cls := "ZoneShelf", name := "tidy", desc := "()Z" } : Jvm.MethodName)),
  (Jvm.Cond.instanceMethod ({ cls := "ZoneShelf", name := "tidy", desc := "()Z" } : Jvm.MethodName)),
  (Jvm.Cond.selects "ZoneShelf" ({ cls := "ZoneShelf", name := "tidy", desc := "()Z" } : Jvm.MethodName) ({ cls := "ZoneShelf", name := "tidy", desc := "()Z" } : Jvm.MethodName)),
  (Jvm.Cond.code ({ cls := "ZoneShelf", name := "tidy", desc := "()Z" } : Jvm.MethodName) prog_1_method_12_code (1 : Nat) (Option.some Jvm.ClassFile.FieldType.boolean)),
  (Jvm.Cond.methodLink "ZoneShelfLaw" (63 : Nat) ({ cls := "ZoneShelf", name := "isUp", desc := "()Z" } : Jvm.MethodName)),
  (Jvm.Cond.instanceMethod ({ cls := "ZoneShelf", name := "isUp", desc := "()Z" } : Jvm.MethodName)),
  (Jvm.Cond.selects "ZoneShelf" ({ cls := "ZoneShelf", name := "isUp", desc := "()Z" } : Jvm.MethodName) ({ cls := "ZoneShelf", name := "isUp", desc := "()Z" } : Jvm.MethodName)),
  (Jvm.Cond.code ({ cls := "ZoneShelf", name := "isUp", desc := "()Z" } : Jvm.MethodName) prog_1_method_13_code (1 : Nat) (Option.some Jvm.ClassFile.FieldType.boolean)),
  (Jvm.Cond.methodLink "ZoneShelfLaw" (67 : Nat) ({ cls := "ZoneShelf", name := "objects", desc := "()I" } : Jvm.MethodName)),
  (Jvm.Cond.instanceMethod ({ cls := "ZoneShelf", name := "objects", desc := "()I" } : Jvm.MethodName)),
  (Jvm.Cond.selects "ZoneShelf" ({ cls := "ZoneShelf", name := "objects", desc := "()I" } : Jvm.MethodName) ({ cls := "ZoneShelf", name := "objects", desc := "()I" } : Jvm.MethodName)),
  (Jvm.Cond.code ({ cls := "ZoneShelf", name := "objects", desc := "()I" } : Jvm.MethodName) prog_1_method_14_code (1 : Nat) (Option.some Jvm.ClassFile.FieldType.int)),
  (Jvm.Cond.instanceMethod ({ cls := "ZoneShelf$Contents", name := "countObjects", desc := "()I" } : Jvm.MethodName)),
  (Jvm.Cond.code ({ cls := "ZoneShelf$Contents", name := "countObjects", desc := "()I" } : Jvm.MethodName) prog_2_method_7_code (3 : Nat) (Option.some Jvm.ClassFile.FieldType.int)),
  (Jvm.Cond.methodLink "ZoneShelfLaw" (72 : Nat) ({ cls := "ZoneShelf", name := "room", desc := "()I" } : Jvm.MethodName)),
  (Jvm.Cond.instanceMethod ({ cls := "ZoneShelf", name := "room", desc := "()I" } : Jvm.MethodName)),
  (Jvm.Cond.selects "ZoneShelf" ({ cls := "ZoneShelf", name := "room", desc := "()I" } : Jvm.MethodName) ({ cls := "ZoneShelf", name := "room", desc := "()I" } : Jvm.MethodName)),
  (Jvm.Cond.code ({ cls := "ZoneShelf", name := "room", desc := "()I" } : Jvm.MethodName) prog_1_method_15_code (1 : Nat) (Option.some Jvm.ClassFile.FieldType.int)),
  (Jvm.Cond.methodLink "ZoneShelfLaw" (76 : Nat) ({ cls := "ZoneShelf", name := "object", desc := "(II)I" } : Jvm.MethodName)),
  (Jvm.Cond.instanceMethod ({ cls := "ZoneShelf", name := "object", desc := "(II)I" } : Jvm.MethodName)),
  (Jvm.Cond.selects "ZoneShelf" ({ cls := "ZoneShelf", name := "object", desc := "(II)I" } : Jvm.MethodName) ({ cls := "ZoneShelf", name := "object", desc := "(II)I" } : Jvm.MethodName)),
  (Jvm.Cond.code ({ cls := "ZoneShelf", name := "object", desc := "(II)I" } : Jvm.MethodName) prog_1_method_16_code (3 : Nat) (Option.some Jvm.ClassFile.FieldType.int)),
  (Jvm.Cond.methodLink "ZoneShelfLaw" (80 : Nat) ({ cls := "ZoneShelf", name := "word", desc := "(II)I" } : Jvm.MethodName)),
  (Jvm.Cond.instanceMethod ({ cls := "ZoneShelf", name := "word", desc := "(II)I" } : Jvm.MethodName)),
  (Jvm.Cond.selects "ZoneShelf" ({ cls := "ZoneShelf", name := "word", desc := "(II)I" } : Jvm.MethodName) ({ cls := "ZoneShelf", name := "word", desc := "(II)I" } : Jvm.MethodName)),
  (Jvm.Cond.code ({ cls := "ZoneShelf", name := "word", desc := "(II)I" } : Jvm.MethodName) prog_1_method_17_code (3 : Nat) (Option.some Jvm.ClassFile.FieldType.int)),
  (Jvm.Cond.methodLink "ZoneShelfLaw" (84 : Nat) ({ cls := "ZoneShelf", name := "find", desc := "(I)I" } : Jvm.MethodName)),
  (Jvm.Cond.instanceMethod ({ cls := "ZoneShelf", name := "find", desc := "(I)I" } : Jvm.MethodName)),
  (Jvm.Cond.selects "ZoneShelf" ({ cls := "ZoneShelf", name := "find", desc := "(I)I" } : Jvm.MethodName) ({ cls := "ZoneShelf", name := "find", desc := "(I)I" } : Jvm.MethodName)),
  (Jvm.Cond.code ({ cls := "ZoneShelf", name := "find", desc := "(I)I" } : Jvm.MethodName) prog_1_method_18_code (2 : Nat) (Option.some Jvm.ClassFile.FieldType.int)),
  (Jvm.Cond.methodLink "ZoneShelfLaw" (89 : Nat) ({ cls := "ZoneShelf", name := "list", desc := "(I)I" } : Jvm.MethodName)),
  (Jvm.Cond.instanceMethod ({ cls := "ZoneShelf", name := "list", desc := "(I)I" } : Jvm.MethodName)),
  (Jvm.Cond.selects "ZoneShelf" ({ cls := "ZoneShelf", name := "list", desc := "(I)I" } : Jvm.MethodName) ({ cls := "ZoneShelf", name := "list", desc := "(I)I" } : Jvm.MethodName)),
  (Jvm.Cond.code ({ cls := "ZoneShelf", name := "list", desc := "(I)I" } : Jvm.MethodName) prog_1_method_19_code (2 : Nat) (Option.some Jvm.ClassFile.FieldType.int)),
  (Jvm.Cond.instanceMethod ({ cls := "ZoneShelf$Contents", name := "numberAtRank", desc := "(I)I" } : Jvm.MethodName)),
  (Jvm.Cond.code ({ cls := "ZoneShelf$Contents", name := "numberAtRank", desc := "(I)I" } : Jvm.MethodName) prog_2_method_5_code (3 : Nat) (Option.some Jvm.ClassFile.FieldType.int)),
  (Jvm.Cond.methodLink "ZoneShelf$Contents" (38 : Nat) ({ cls := "ZoneShelf$Contents", name := "countNamesBelow", desc := "(I)I" } : Jvm.MethodName)),
  (Jvm.Cond.instanceMethod ({ cls := "ZoneShelf$Contents", name := "countNamesBelow", desc := "(I)I" } : Jvm.MethodName)),
  (Jvm.Cond.code ({ cls := "ZoneShelf$Contents", name := "countNamesBelow", desc := "(I)I" } : Jvm.MethodName) prog_2_method_6_code (4 : Nat) (Option.some Jvm.ClassFile.FieldType.int)),
  (Jvm.Cond.classLink "ZoneShelfLaw" (10 : Nat) "ZoneShelfModel"),
  (Jvm.Cond.instantiable "ZoneShelfModel" (11 : Nat)),
  (Jvm.Cond.methodLink "ZoneShelfLaw" (12 : Nat) ({ cls := "ZoneShelfModel", name := "<init>", desc := "()V" } : Jvm.MethodName)),
  (Jvm.Cond.instanceMethod ({ cls := "ZoneShelfModel", name := "<init>", desc := "()V" } : Jvm.MethodName)),
  (Jvm.Cond.code ({ cls := "ZoneShelfModel", name := "<init>", desc := "()V" } : Jvm.MethodName) prog_4_method_1_code (1 : Nat) (Option.none : Option Jvm.ClassFile.FieldType)),
  (Jvm.Cond.methodLink "ZoneShelfModel" (1 : Nat) ({ cls := "java/lang/Object", name := "<init>", desc := "()V" } : Jvm.MethodName)),
  (Jvm.Cond.fieldLink "ZoneShelfModel" (7 : Nat) "ZoneShelfModel" "up" "Z"),
  (Jvm.Cond.fieldLink "ZoneShelfModel" (13 : Nat) "ZoneShelfModel" "names" "[I"),
  (Jvm.Cond.fieldLink "ZoneShelfModel" (17 : Nat) "ZoneShelfModel" "hints" "[I"),
  (Jvm.Cond.fieldLink "ZoneShelfModel" (20 : Nat) "ZoneShelfModel" "sizes" "[I"),
  (Jvm.Cond.fieldLink "ZoneShelfModel" (23 : Nat) "ZoneShelfModel" "opens" "[Z"),
  (Jvm.Cond.fieldLink "ZoneShelfModel" (27 : Nat) "ZoneShelfModel" "words" "[I"),
  (Jvm.Cond.fieldLink "ZoneShelfModel" (30 : Nat) "ZoneShelfModel" "oldNames" "[I"),
  (Jvm.Cond.fieldLink "ZoneShelfModel" (33 : Nat) "ZoneShelfModel" "oldHints" "[I"),
  (Jvm.Cond.fieldLink "ZoneShelfModel" (36 : Nat) "ZoneShelfModel" "oldSizes" "[I"),
  (Jvm.Cond.fieldLink "ZoneShelfModel" (39 : Nat) "ZoneShelfModel" "oldOpens" "[Z"),
  (Jvm.Cond.fieldLink "ZoneShelfModel" (42 : Nat) "ZoneShelfModel" "oldWords" "[I"),
  (Jvm.Cond.lays "ZoneShelfModel" "ZoneShelfModel" "up" "Z"),
  (Jvm.Cond.laysFinal "ZoneShelfModel" "ZoneShelfModel" "names" "[I"),
  (Jvm.Cond.laysFinal "ZoneShelfModel" "ZoneShelfModel" "hints" "[I"),
  (Jvm.Cond.laysFinal "ZoneShelfModel" "ZoneShelfModel" "sizes" "[I"),
  (Jvm.Cond.laysFinal "ZoneShelfModel" "ZoneShelfModel" "opens" "[Z"),
  (Jvm.Cond.laysFinal "ZoneShelfModel" "ZoneShelfModel" "words" "[I"),
  (Jvm.Cond.laysFinal "ZoneShelfModel" "ZoneShelfModel" "oldNames" "[I"),
  (Jvm.Cond.laysFinal "ZoneShelfModel" "ZoneShelfModel" "oldHints" "[I"),
  (Jvm.Cond.laysFinal "ZoneShelfModel" "ZoneShelfModel" "oldSizes" "[I"),
  (Jvm.Cond.laysFinal "ZoneShelfModel" "ZoneShelfModel" "oldOpens" "[Z"),
  (Jvm.Cond.laysFinal "ZoneShelfModel" "ZoneShelfModel" "oldWords" "[I"),
  (Jvm.Cond.methodLink "ZoneShelfLaw" (17 : Nat) ({ cls := "ZoneShelfModel", name := "create", desc := "(II)I" } : Jvm.MethodName)),
  (Jvm.Cond.instanceMethod ({ cls := "ZoneShelfModel", name := "create", desc := "(II)I" } : Jvm.MethodName)),
  (Jvm.Cond.selects "ZoneShelfModel" ({ cls := "ZoneShelfModel", name := "create", desc := "(II)I" } : Jvm.MethodName) ({ cls := "ZoneShelfModel", name := "create", desc := "(II)I" } : Jvm.MethodName)),
  (Jvm.Cond.code ({ cls := "ZoneShelfModel", name := "create", desc := "(II)I" } : Jvm.MethodName) prog_4_method_6_code (4 : Nat) (Option.some Jvm.ClassFile.FieldType.int)),
  (Jvm.Cond.methodLink "ZoneShelfModel" (45 : Nat) ({ cls := "ZoneShelfModel", name := "isName", desc := "(I)Z" } : Jvm.MethodName)),
  (Jvm.Cond.static ({ cls := "ZoneShelfModel", name := "isName", desc := "(I)Z" } : Jvm.MethodName)),
  (Jvm.Cond.code ({ cls := "ZoneShelfModel", name := "isName", desc := "(I)Z" } : Jvm.MethodName) prog_4_method_3_code (1 : Nat) (Option.some Jvm.ClassFile.FieldType.boolean)),
  (Jvm.Cond.methodLink "ZoneShelfModel" (52 : Nat) ({ cls := "ZoneShelfModel", name := "named", desc := "(I)I" } : Jvm.MethodName)),
  (Jvm.Cond.instanceMethod ({ cls := "ZoneShelfModel", name := "named", desc := "(I)I" } : Jvm.MethodName)),
  (Jvm.Cond.code ({ cls := "ZoneShelfModel", name := "named", desc := "(I)I" } : Jvm.MethodName) prog_4_method_4_code (4 : Nat) (Option.some Jvm.ClassFile.FieldType.int)),
  (Jvm.Cond.methodLink "ZoneShelfModel" (49 : Nat) ({ cls := "ZoneShelfModel", name := "is", desc := "(I)Z" } : Jvm.MethodName)),
  (Jvm.Cond.instanceMethod ({ cls := "ZoneShelfModel", name := "is", desc := "(I)Z" } : Jvm.MethodName)),
  (Jvm.Cond.code ({ cls := "ZoneShelfModel", name := "is", desc := "(I)Z" } : Jvm.MethodName) prog_4_method_2_code (2 : Nat) (Option.some Jvm.ClassFile.FieldType.boolean)),
  (Jvm.Cond.methodLink "ZoneShelfLaw" (22 : Nat) ({ cls := "ZoneShelfModel", name := "append", desc := "(II)Z" } : Jvm.MethodName)),
  (Jvm.Cond.instanceMethod ({ cls := "ZoneShelfModel", name := "append", desc := "(II)Z" } : Jvm.MethodName)),
  (Jvm.Cond.selects "ZoneShelfModel" ({ cls := "ZoneShelfModel", name := "append", desc := "(II)Z" } : Jvm.MethodName) ({ cls := "ZoneShelfModel", name := "append", desc := "(II)Z" } : Jvm.MethodName)),
  (Jvm.Cond.code ({ cls := "ZoneShelfModel", name := "append", desc := "(II)Z" } : Jvm.MethodName) prog_4_method_7_code (3 : Nat) (Option.some Jvm.ClassFile.FieldType.boolean)),
  (Jvm.Cond.methodLink "ZoneShelfModel" (56 : Nat) ({ cls := "ZoneShelfModel", name := "appendRow", desc := "(III)Z" } : Jvm.MethodName)),
  (Jvm.Cond.instanceMethod ({ cls := "ZoneShelfModel", name := "appendRow", desc := "(III)Z" } : Jvm.MethodName)),
  (Jvm.Cond.selects "ZoneShelfModel" ({ cls := "ZoneShelfModel", name := "appendRow", desc := "(III)Z" } : Jvm.MethodName) ({ cls := "ZoneShelfModel", name := "appendRow", desc := "(III)Z" } : Jvm.MethodName)),
  (Jvm.Cond.code ({ cls := "ZoneShelfModel", name := "appendRow", desc := "(III)Z" } : Jvm.MethodName) prog_4_method_8_code (5 : Nat) (Option.some Jvm.ClassFile.FieldType.boolean)),
  (Jvm.Cond.methodLink "ZoneShelfModel" (60 : Nat) ({ cls := "ZoneShelfModel", name := "left", desc := "()I" } : Jvm.MethodName)),
  (Jvm.Cond.instanceMethod ({ cls := "ZoneShelfModel", name := "left", desc := "()I" } : Jvm.MethodName)),
  (Jvm.Cond.code ({ cls := "ZoneShelfModel", name := "left", desc := "()I" } : Jvm.MethodName) prog_4_method_5_code (3 : Nat) (Option.some Jvm.ClassFile.FieldType.int)),
  (Jvm.Cond.methodLink "ZoneShelfLaw" (27 : Nat) ({ cls := "ZoneShelfModel", name := "appendRow", desc := "(III)Z" } : Jvm.MethodName)),
  (Jvm.Cond.methodLink "ZoneShelfLaw" (32 : Nat) ({ cls := "ZoneShelfModel", name := "open", desc := "(IZ)Z" } : Jvm.MethodName)),
  (Jvm.Cond.instanceMethod ({ cls := "ZoneShelfModel", name := "open", desc := "(IZ)Z" } : Jvm.MethodName)),
  (Jvm.Cond.selects "ZoneShelfModel" ({ cls := "ZoneShelfModel", name := "open", desc := "(IZ)Z" } : Jvm.MethodName) ({ cls := "ZoneShelfModel", name := "open", desc := "(IZ)Z" } : Jvm.MethodName)),
  (Jvm.Cond.code ({ cls := "ZoneShelfModel", name := "open", desc := "(IZ)Z" } : Jvm.MethodName) prog_4_method_9_code (3 : Nat) (Option.some Jvm.ClassFile.FieldType.boolean)),
  (Jvm.Cond.methodLink "ZoneShelfLaw" (37 : Nat) ({ cls := "ZoneShelfModel", name := "remove", desc := "(I)Z" } : Jvm.MethodName)),
  (Jvm.Cond.instanceMethod ({ cls := "ZoneShelfModel", name := "remove", desc := "(I)Z" } : Jvm.MethodName)),
  (Jvm.Cond.selects "ZoneShelfModel" ({ cls := "ZoneShelfModel", name := "remove", desc := "(I)Z" } : Jvm.MethodName) ({ cls := "ZoneShelfModel", name := "remove", desc := "(I)Z" } : Jvm.MethodName)),
  (Jvm.Cond.code ({ cls := "ZoneShelfModel", name := "remove", desc := "(I)Z" } : Jvm.MethodName) prog_4_method_10_code (2 : Nat) (Option.some Jvm.ClassFile.FieldType.boolean)),
  (Jvm.Cond.methodLink "ZoneShelfLaw" (41 : Nat) ({ cls := "ZoneShelfModel", name := "rename", desc := "(II)Z" } : Jvm.MethodName)),
  (Jvm.Cond.instanceMethod ({ cls := "ZoneShelfModel", name := "rename", desc := "(II)Z" } : Jvm.MethodName)),
  (Jvm.Cond.selects "ZoneShelfModel" ({ cls := "ZoneShelfModel", name := "rename", desc := "(II)Z" } : Jvm.MethodName) ({ cls := "ZoneShelfModel", name := "rename", desc := "(II)Z" } : Jvm.MethodName)),
  (Jvm.Cond.code ({ cls := "ZoneShelfModel", name := "rename", desc := "(II)Z" } : Jvm.MethodName) prog_4_method_11_code (3 : Nat) (Option.some Jvm.ClassFile.FieldType.boolean)),
  (Jvm.Cond.methodLink "ZoneShelfLaw" (46 : Nat) ({ cls := "ZoneShelfModel", name := "sync", desc := "()Z" } : Jvm.MethodName)),
  (Jvm.Cond.instanceMethod ({ cls := "ZoneShelfModel", name := "sync", desc := "()Z" } : Jvm.MethodName)),
  (Jvm.Cond.selects "ZoneShelfModel" ({ cls := "ZoneShelfModel", name := "sync", desc := "()Z" } : Jvm.MethodName) ({ cls := "ZoneShelfModel", name := "sync", desc := "()Z" } : Jvm.MethodName)),
  (Jvm.Cond.code ({ cls := "ZoneShelfModel", name := "sync", desc := "()Z" } : Jvm.MethodName) prog_4_method_12_code (2 : Nat) (Option.some Jvm.ClassFile.FieldType.boolean)),
  (Jvm.Cond.methodLink "ZoneShelfLaw" (50 : Nat) ({ cls := "ZoneShelfModel", name := "tear", desc := "()Z" } : Jvm.MethodName)),
  (Jvm.Cond.instanceMethod ({ cls := "ZoneShelfModel", name := "tear", desc := "()Z" } : Jvm.MethodName)),
  (Jvm.Cond.selects "ZoneShelfModel" ({ cls := "ZoneShelfModel", name := "tear", desc := "()Z" } : Jvm.MethodName) ({ cls := "ZoneShelfModel", name := "tear", desc := "()Z" } : Jvm.MethodName)),
  (Jvm.Cond.code ({ cls := "ZoneShelfModel", name := "tear", desc := "()Z" } : Jvm.MethodName) prog_4_method_13_code (1 : Nat) (Option.some Jvm.ClassFile.FieldType.boolean)),
  (Jvm.Cond.methodLink "ZoneShelfModel" (64 : Nat) ({ cls := "ZoneShelfModel", name := "cut", desc := "()Z" } : Jvm.MethodName)),
  (Jvm.Cond.instanceMethod ({ cls := "ZoneShelfModel", name := "cut", desc := "()Z" } : Jvm.MethodName)),
  (Jvm.Cond.selects "ZoneShelfModel" ({ cls := "ZoneShelfModel", name := "cut", desc := "()Z" } : Jvm.MethodName) ({ cls := "ZoneShelfModel", name := "cut", desc := "()Z" } : Jvm.MethodName)),
  (Jvm.Cond.code ({ cls := "ZoneShelfModel", name := "cut", desc := "()Z" } : Jvm.MethodName) prog_4_method_14_code (2 : Nat) (Option.some Jvm.ClassFile.FieldType.boolean)),
  (Jvm.Cond.methodLink "ZoneShelfLaw" (54 : Nat) ({ cls := "ZoneShelfModel", name := "cut", desc := "()Z" } : Jvm.MethodName)),
  (Jvm.Cond.methodLink "ZoneShelfLaw" (58 : Nat) ({ cls := "ZoneShelfModel", name := "mount", desc := "()Z" } : Jvm.MethodName)),
  (Jvm.Cond.instanceMethod ({ cls := "ZoneShelfModel", name := "mount", desc := "()Z" } : Jvm.MethodName)),
  (Jvm.Cond.selects "ZoneShelfModel" ({ cls := "ZoneShelfModel", name := "mount", desc := "()Z" } : Jvm.MethodName) ({ cls := "ZoneShelfModel", name := "mount", desc := "()Z" } : Jvm.MethodName)),
  (Jvm.Cond.code ({ cls := "ZoneShelfModel", name := "mount", desc := "()Z" } : Jvm.MethodName) prog_4_method_15_code (2 : Nat) (Option.some Jvm.ClassFile.FieldType.boolean)),
  (Jvm.Cond.methodLink "ZoneShelfLaw" (62 : Nat) ({ cls := "ZoneShelfModel", name := "tidy", desc := "()Z" } : Jvm.MethodName)),
  (Jvm.Cond.instanceMethod ({ cls := "ZoneShelfModel", name := "tidy", desc := "()Z" } : Jvm.MethodName)),
  (Jvm.Cond.selects "ZoneShelfModel" ({ cls := "ZoneShelfModel", name := "tidy", desc := "()Z" } : Jvm.MethodName) ({ cls := "ZoneShelfModel", name := "tidy", desc := "()Z" } : Jvm.MethodName)),
  (Jvm.Cond.code ({ cls := "ZoneShelfModel", name := "tidy", desc := "()Z" } : Jvm.MethodName) prog_4_method_16_code (1 : Nat) (Option.some Jvm.ClassFile.FieldType.boolean)),
  (Jvm.Cond.methodLink "ZoneShelfLaw" (66 : Nat) ({ cls := "ZoneShelfModel", name := "isUp", desc := "()Z" } : Jvm.MethodName)),
  (Jvm.Cond.instanceMethod ({ cls := "ZoneShelfModel", name := "isUp", desc := "()Z" } : Jvm.MethodName)),
  (Jvm.Cond.selects "ZoneShelfModel" ({ cls := "ZoneShelfModel", name := "isUp", desc := "()Z" } : Jvm.MethodName) ({ cls := "ZoneShelfModel", name := "isUp", desc := "()Z" } : Jvm.MethodName)),
  (Jvm.Cond.code ({ cls := "ZoneShelfModel", name := "isUp", desc := "()Z" } : Jvm.MethodName) prog_4_method_17_code (1 : Nat) (Option.some Jvm.ClassFile.FieldType.boolean)),
  (Jvm.Cond.methodLink "ZoneShelfLaw" (71 : Nat) ({ cls := "ZoneShelfModel", name := "objects", desc := "()I" } : Jvm.MethodName)),
  (Jvm.Cond.instanceMethod ({ cls := "ZoneShelfModel", name := "objects", desc := "()I" } : Jvm.MethodName)),
  (Jvm.Cond.selects "ZoneShelfModel" ({ cls := "ZoneShelfModel", name := "objects", desc := "()I" } : Jvm.MethodName) ({ cls := "ZoneShelfModel", name := "objects", desc := "()I" } : Jvm.MethodName)),
  (Jvm.Cond.code ({ cls := "ZoneShelfModel", name := "objects", desc := "()I" } : Jvm.MethodName) prog_4_method_18_code (3 : Nat) (Option.some Jvm.ClassFile.FieldType.int)),
  (Jvm.Cond.methodLink "ZoneShelfLaw" (75 : Nat) ({ cls := "ZoneShelfModel", name := "room", desc := "()I" } : Jvm.MethodName)),
  (Jvm.Cond.instanceMethod ({ cls := "ZoneShelfModel", name := "room", desc := "()I" } : Jvm.MethodName)),
  (Jvm.Cond.selects "ZoneShelfModel" ({ cls := "ZoneShelfModel", name := "room", desc := "()I" } : Jvm.MethodName) ({ cls := "ZoneShelfModel", name := "room", desc := "()I" } : Jvm.MethodName)),
  (Jvm.Cond.code ({ cls := "ZoneShelfModel", name := "room", desc := "()I" } : Jvm.MethodName) prog_4_method_19_code (1 : Nat) (Option.some Jvm.ClassFile.FieldType.int)),
  (Jvm.Cond.methodLink "ZoneShelfLaw" (79 : Nat) ({ cls := "ZoneShelfModel", name := "object", desc := "(II)I" } : Jvm.MethodName)),
  (Jvm.Cond.instanceMethod ({ cls := "ZoneShelfModel", name := "object", desc := "(II)I" } : Jvm.MethodName)),
  (Jvm.Cond.selects "ZoneShelfModel" ({ cls := "ZoneShelfModel", name := "object", desc := "(II)I" } : Jvm.MethodName) ({ cls := "ZoneShelfModel", name := "object", desc := "(II)I" } : Jvm.MethodName)),
  (Jvm.Cond.code ({ cls := "ZoneShelfModel", name := "object", desc := "(II)I" } : Jvm.MethodName) prog_4_method_20_code (3 : Nat) (Option.some Jvm.ClassFile.FieldType.int)),
  (Jvm.Cond.methodLink "ZoneShelfLaw" (83 : Nat) ({ cls := "ZoneShelfModel", name := "word", desc := "(II)I" } : Jvm.MethodName)),
  (Jvm.Cond.instanceMethod ({ cls := "ZoneShelfModel", name := "word", desc := "(II)I" } : Jvm.MethodName)),
  (Jvm.Cond.selects "ZoneShelfModel" ({ cls := "ZoneShelfModel", name := "word", desc := "(II)I" } : Jvm.MethodName) ({ cls := "ZoneShelfModel", name := "word", desc := "(II)I" } : Jvm.MethodName)),
  (Jvm.Cond.code ({ cls := "ZoneShelfModel", name := "word", desc := "(II)I" } : Jvm.MethodName) prog_4_method_21_code (3 : Nat) (Option.some Jvm.ClassFile.FieldType.int)),
  (Jvm.Cond.methodLink "ZoneShelfLaw" (88 : Nat) ({ cls := "ZoneShelfModel", name := "find", desc := "(I)I" } : Jvm.MethodName)),
  (Jvm.Cond.instanceMethod ({ cls := "ZoneShelfModel", name := "find", desc := "(I)I" } : Jvm.MethodName)),
  (Jvm.Cond.selects "ZoneShelfModel" ({ cls := "ZoneShelfModel", name := "find", desc := "(I)I" } : Jvm.MethodName) ({ cls := "ZoneShelfModel", name := "find", desc := "(I)I" } : Jvm.MethodName)),
  (Jvm.Cond.code ({ cls := "ZoneShelfModel", name := "find", desc := "(I)I" } : Jvm.MethodName) prog_4_method_22_code (2 : Nat) (Option.some Jvm.ClassFile.FieldType.int)),
  (Jvm.Cond.methodLink "ZoneShelfLaw" (92 : Nat) ({ cls := "ZoneShelfModel", name := "list", desc := "(I)I" } : Jvm.MethodName)),
  (Jvm.Cond.instanceMethod ({ cls := "ZoneShelfModel", name := "list", desc := "(I)I" } : Jvm.MethodName)),
  (Jvm.Cond.selects "ZoneShelfModel" ({ cls := "ZoneShelfModel", name := "list", desc := "(I)I" } : Jvm.MethodName) ({ cls := "ZoneShelfModel", name := "list", desc := "(I)I" } : Jvm.MethodName)),
  (Jvm.Cond.code ({ cls := "ZoneShelfModel", name := "list", desc := "(I)I" } : Jvm.MethodName) prog_4_method_23_code (5 : Nat) (Option.some Jvm.ClassFile.FieldType.int))]
/-- the links between nest mates -/
def zs_n : List Cond := [(Jvm.Cond.methodLinkNest "ZoneShelf" (9 : Nat) ({ cls := "ZoneShelf$Contents", name := "<init>", desc := "()V" } : Jvm.MethodName) "ZoneShelf"),
  (Jvm.Cond.fieldLinkNest "ZoneShelf" (60 : Nat) "ZoneShelf$Contents" "names" "[I" "ZoneShelf"),
  (Jvm.Cond.fieldLinkNest "ZoneShelf" (78 : Nat) "ZoneShelf$Contents" "hints" "[I" "ZoneShelf"),
  (Jvm.Cond.fieldLinkNest "ZoneShelf" (81 : Nat) "ZoneShelf$Contents" "lengths" "[I" "ZoneShelf"),
  (Jvm.Cond.fieldLinkNest "ZoneShelf" (45 : Nat) "ZoneShelf$Contents" "opened" "[Z" "ZoneShelf"),
  (Jvm.Cond.fieldLinkNest "ZoneShelf" (84 : Nat) "ZoneShelf$Contents" "words" "[I" "ZoneShelf"),
  (Jvm.Cond.methodLinkNest "ZoneShelf" (90 : Nat) ({ cls := "ZoneShelf$Contents", name := "numberOf", desc := "(I)I" } : Jvm.MethodName) "ZoneShelf"),
  (Jvm.Cond.methodLinkNest "ZoneShelf" (30 : Nat) ({ cls := "ZoneShelf$Contents", name := "leastFreeNumber", desc := "()I" } : Jvm.MethodName) "ZoneShelf"),
  (Jvm.Cond.methodLinkNest "ZoneShelf" (34 : Nat) ({ cls := "ZoneShelf$Contents", name := "place", desc := "(III)V" } : Jvm.MethodName) "ZoneShelf"),
  (Jvm.Cond.methodLinkNest "ZoneShelf" (96 : Nat) ({ cls := "ZoneShelf$Contents", name := "isTaken", desc := "(I)Z" } : Jvm.MethodName) "ZoneShelf"),
  (Jvm.Cond.methodLinkNest "ZoneShelf" (75 : Nat) ({ cls := "ZoneShelf$Contents", name := "countWords", desc := "()I" } : Jvm.MethodName) "ZoneShelf"),
  (Jvm.Cond.methodLinkNest "ZoneShelf" (53 : Nat) ({ cls := "ZoneShelf$Contents", name := "addRow", desc := "(III)V" } : Jvm.MethodName) "ZoneShelf"),
  (Jvm.Cond.methodLinkNest "ZoneShelf" (56 : Nat) ({ cls := "ZoneShelf$Contents", name := "takeAway", desc := "(I)V" } : Jvm.MethodName) "ZoneShelf"),
  (Jvm.Cond.methodLinkNest "ZoneShelf" (64 : Nat) ({ cls := "ZoneShelf$Contents", name := "copyFrom", desc := "(LZoneShelf$Contents;)V" } : Jvm.MethodName) "ZoneShelf"),
  (Jvm.Cond.methodLinkNest "ZoneShelf" (72 : Nat) ({ cls := "ZoneShelf$Contents", name := "countObjects", desc := "()I" } : Jvm.MethodName) "ZoneShelf"),
  (Jvm.Cond.methodLinkNest "ZoneShelf" (93 : Nat) ({ cls := "ZoneShelf$Contents", name := "numberAtRank", desc := "(I)I" } : Jvm.MethodName) "ZoneShelf")]
theorem zs_w_all : zs_w.all goodWord = true := by decide +kernel
theorem zq_0 : (Jvm.Cond.selects "ZoneShelf" ({ cls := "ZoneShelf", name := "isFreeName", desc := "(I)Z" } : Jvm.MethodName) ({ cls := "ZoneShelf", name := "isFreeName", desc := "(I)Z" } : Jvm.MethodName)) ∈ zs_w := List.mem_of_getElem? (i := 0) rfl
theorem zq_1 : (Jvm.Cond.selects "ZoneShelf$Contents" ({ cls := "ZoneShelf$Contents", name := "numberOf", desc := "(I)I" } : Jvm.MethodName) ({ cls := "ZoneShelf$Contents", name := "numberOf", desc := "(I)I" } : Jvm.MethodName)) ∈ zs_w := List.mem_of_getElem? (i := 1) rfl
theorem zq_2 : (Jvm.Cond.selects "ZoneShelf$Contents" ({ cls := "ZoneShelf$Contents", name := "leastFreeNumber", desc := "()I" } : Jvm.MethodName) ({ cls := "ZoneShelf$Contents", name := "leastFreeNumber", desc := "()I" } : Jvm.MethodName)) ∈ zs_w := List.mem_of_getElem? (i := 2) rfl
theorem zq_3 : (Jvm.Cond.selects "ZoneShelf$Contents" ({ cls := "ZoneShelf$Contents", name := "isTaken", desc := "(I)Z" } : Jvm.MethodName) ({ cls := "ZoneShelf$Contents", name := "isTaken", desc := "(I)Z" } : Jvm.MethodName)) ∈ zs_w := List.mem_of_getElem? (i := 3) rfl
theorem zq_4 : (Jvm.Cond.selects "ZoneShelf$Contents" ({ cls := "ZoneShelf$Contents", name := "place", desc := "(III)V" } : Jvm.MethodName) ({ cls := "ZoneShelf$Contents", name := "place", desc := "(III)V" } : Jvm.MethodName)) ∈ zs_w := List.mem_of_getElem? (i := 4) rfl
theorem zq_5 : (Jvm.Cond.selects "ZoneShelf" ({ cls := "ZoneShelf", name := "isThere", desc := "(I)Z" } : Jvm.MethodName) ({ cls := "ZoneShelf", name := "isThere", desc := "(I)Z" } : Jvm.MethodName)) ∈ zs_w := List.mem_of_getElem? (i := 5) rfl
theorem zq_6 : (Jvm.Cond.selects "ZoneShelf" ({ cls := "ZoneShelf", name := "roomIn", desc := "(I)I" } : Jvm.MethodName) ({ cls := "ZoneShelf", name := "roomIn", desc := "(I)I" } : Jvm.MethodName)) ∈ zs_w := List.mem_of_getElem? (i := 6) rfl
theorem zq_7 : (Jvm.Cond.selects "ZoneShelf$Contents" ({ cls := "ZoneShelf$Contents", name := "countWords", desc := "()I" } : Jvm.MethodName) ({ cls := "ZoneShelf$Contents", name := "countWords", desc := "()I" } : Jvm.MethodName)) ∈ zs_w := List.mem_of_getElem? (i := 7) rfl
theorem zq_8 : (Jvm.Cond.selects "ZoneShelf$Contents" ({ cls := "ZoneShelf$Contents", name := "addRow", desc := "(III)V" } : Jvm.MethodName) ({ cls := "ZoneShelf$Contents", name := "addRow", desc := "(III)V" } : Jvm.MethodName)) ∈ zs_w := List.mem_of_getElem? (i := 8) rfl
theorem zq_9 : (Jvm.Cond.selects "ZoneShelf$Contents" ({ cls := "ZoneShelf$Contents", name := "takeAway", desc := "(I)V" } : Jvm.MethodName) ({ cls := "ZoneShelf$Contents", name := "takeAway", desc := "(I)V" } : Jvm.MethodName)) ∈ zs_w := List.mem_of_getElem? (i := 9) rfl
theorem zq_10 : (Jvm.Cond.selects "ZoneShelf$Contents" ({ cls := "ZoneShelf$Contents", name := "copyFrom", desc := "(LZoneShelf$Contents;)V" } : Jvm.MethodName) ({ cls := "ZoneShelf$Contents", name := "copyFrom", desc := "(LZoneShelf$Contents;)V" } : Jvm.MethodName)) ∈ zs_w := List.mem_of_getElem? (i := 10) rfl
theorem zq_11 : (Jvm.Cond.selects "ZoneShelf$Contents" ({ cls := "ZoneShelf$Contents", name := "countObjects", desc := "()I" } : Jvm.MethodName) ({ cls := "ZoneShelf$Contents", name := "countObjects", desc := "()I" } : Jvm.MethodName)) ∈ zs_w := List.mem_of_getElem? (i := 11) rfl
theorem zq_12 : (Jvm.Cond.selects "ZoneShelf$Contents" ({ cls := "ZoneShelf$Contents", name := "numberAtRank", desc := "(I)I" } : Jvm.MethodName) ({ cls := "ZoneShelf$Contents", name := "numberAtRank", desc := "(I)I" } : Jvm.MethodName)) ∈ zs_w := List.mem_of_getElem? (i := 12) rfl
theorem zq_13 : (Jvm.Cond.selects "ZoneShelf$Contents" ({ cls := "ZoneShelf$Contents", name := "countNamesBelow", desc := "(I)I" } : Jvm.MethodName) ({ cls := "ZoneShelf$Contents", name := "countNamesBelow", desc := "(I)I" } : Jvm.MethodName)) ∈ zs_w := List.mem_of_getElem? (i := 13) rfl
theorem zq_14 : (Jvm.Cond.selects "ZoneShelfModel" ({ cls := "ZoneShelfModel", name := "named", desc := "(I)I" } : Jvm.MethodName) ({ cls := "ZoneShelfModel", name := "named", desc := "(I)I" } : Jvm.MethodName)) ∈ zs_w := List.mem_of_getElem? (i := 14) rfl
theorem zq_15 : (Jvm.Cond.selects "ZoneShelfModel" ({ cls := "ZoneShelfModel", name := "is", desc := "(I)Z" } : Jvm.MethodName) ({ cls := "ZoneShelfModel", name := "is", desc := "(I)Z" } : Jvm.MethodName)) ∈ zs_w := List.mem_of_getElem? (i := 15) rfl
theorem zq_16 : (Jvm.Cond.selects "ZoneShelfModel" ({ cls := "ZoneShelfModel", name := "left", desc := "()I" } : Jvm.MethodName) ({ cls := "ZoneShelfModel", name := "left", desc := "()I" } : Jvm.MethodName)) ∈ zs_w := List.mem_of_getElem? (i := 16) rfl
theorem zq_17 : (Jvm.Cond.initialized "ZoneShelfLaw") ∈ zs_w := List.mem_of_getElem? (i := 17) rfl
theorem zq_18 : (Jvm.Cond.initialized "ZoneShelf") ∈ zs_w := List.mem_of_getElem? (i := 18) rfl
theorem zq_19 : (Jvm.Cond.initialized "ZoneShelf$Contents") ∈ zs_w := List.mem_of_getElem? (i := 19) rfl
theorem zq_20 : (Jvm.Cond.initialized "java/util/Arrays") ∈ zs_w := List.mem_of_getElem? (i := 20) rfl
theorem zq_21 : (Jvm.Cond.initialized "ZoneShelfModel") ∈ zs_w := List.mem_of_getElem? (i := 21) rfl
theorem zq_22 : (Jvm.Cond.initialized "java/lang/Math") ∈ zs_w := List.mem_of_getElem? (i := 22) rfl
theorem zq_23 : (Jvm.Cond.initialized "java/lang/System") ∈ zs_w := List.mem_of_getElem? (i := 23) rfl
theorem zq_24 : (Jvm.Cond.classLink "ZoneShelfLaw" (7 : Nat) "ZoneShelf") ∈ zs_w := List.mem_of_getElem? (i := 24) rfl
theorem zq_25 : (Jvm.Cond.instantiable "ZoneShelf" (3 : Nat)) ∈ zs_w := List.mem_of_getElem? (i := 25) rfl
theorem zq_26 : (Jvm.Cond.methodLink "ZoneShelfLaw" (9 : Nat) ({ cls := "ZoneShelf", name := "<init>", desc := "()V" } : Jvm.MethodName)) ∈ zs_w := List.mem_of_getElem? (i := 26) rfl
theorem zq_27 : (Jvm.Cond.instanceMethod ({ cls := "ZoneShelf", name := "<init>", desc := "()V" } : Jvm.MethodName)) ∈ zs_w := List.mem_of_getElem? (i := 27) rfl
theorem zq_28 : (Jvm.Cond.code ({ cls := "ZoneShelf", name := "<init>", desc := "()V" } : Jvm.MethodName) prog_1_method_1_code (1 : Nat) (Option.none : Option Jvm.ClassFile.FieldType)) ∈ zs_w := List.mem_of_getElem? (i := 28) rfl
theorem zq_29 : (Jvm.Cond.methodLink "ZoneShelf" (1 : Nat) ({ cls := "java/lang/Object", name := "<init>", desc := "()V" } : Jvm.MethodName)) ∈ zs_w := List.mem_of_getElem? (i := 29) rfl
theorem zq_30 : (Jvm.Cond.instanceMethod ({ cls := "java/lang/Object", name := "<init>", desc := "()V" } : Jvm.MethodName)) ∈ zs_w := List.mem_of_getElem? (i := 30) rfl
theorem zq_31 : (Jvm.Cond.code ({ cls := "java/lang/Object", name := "<init>", desc := "()V" } : Jvm.MethodName) object_method_1_code (1 : Nat) (Option.none : Option Jvm.ClassFile.FieldType)) ∈ zs_w := List.mem_of_getElem? (i := 31) rfl
theorem zq_32 : (Jvm.Cond.classLink "ZoneShelf" (7 : Nat) "ZoneShelf$Contents") ∈ zs_w := List.mem_of_getElem? (i := 32) rfl
theorem zq_33 : (Jvm.Cond.instantiable "ZoneShelf$Contents" (5 : Nat)) ∈ zs_w := List.mem_of_getElem? (i := 33) rfl
theorem zq_34 : (Jvm.Cond.instanceMethod ({ cls := "ZoneShelf$Contents", name := "<init>", desc := "()V" } : Jvm.MethodName)) ∈ zs_w := List.mem_of_getElem? (i := 34) rfl
theorem zq_35 : (Jvm.Cond.code ({ cls := "ZoneShelf$Contents", name := "<init>", desc := "()V" } : Jvm.MethodName) prog_2_method_1_code (1 : Nat) (Option.none : Option Jvm.ClassFile.FieldType)) ∈ zs_w := List.mem_of_getElem? (i := 35) rfl
theorem zq_36 : (Jvm.Cond.methodLink "ZoneShelf$Contents" (3 : Nat) ({ cls := "java/lang/Object", name := "<init>", desc := "()V" } : Jvm.MethodName)) ∈ zs_w := List.mem_of_getElem? (i := 36) rfl
theorem zq_37 : (Jvm.Cond.methodLink "ZoneShelf$Contents" (28 : Nat) ({ cls := "java/util/Arrays", name := "fill", desc := "([II)V" } : Jvm.MethodName)) ∈ zs_w := List.mem_of_getElem? (i := 37) rfl
theorem zq_38 : (Jvm.Cond.static ({ cls := "java/util/Arrays", name := "fill", desc := "([II)V" } : Jvm.MethodName)) ∈ zs_w := List.mem_of_getElem? (i := 38) rfl
theorem zq_39 : (Jvm.Cond.code ({ cls := "java/util/Arrays", name := "fill", desc := "([II)V" } : Jvm.MethodName) prog_7_method_103_code (4 : Nat) (Option.none : Option Jvm.ClassFile.FieldType)) ∈ zs_w := List.mem_of_getElem? (i := 39) rfl
theorem zq_40 : (Jvm.Cond.fieldLink "ZoneShelf$Contents" (9 : Nat) "ZoneShelf$Contents" "names" "[I") ∈ zs_w := List.mem_of_getElem? (i := 40) rfl
theorem zq_41 : (Jvm.Cond.fieldLink "ZoneShelf$Contents" (15 : Nat) "ZoneShelf$Contents" "hints" "[I") ∈ zs_w := List.mem_of_getElem? (i := 41) rfl
theorem zq_42 : (Jvm.Cond.fieldLink "ZoneShelf$Contents" (18 : Nat) "ZoneShelf$Contents" "lengths" "[I") ∈ zs_w := List.mem_of_getElem? (i := 42) rfl
theorem zq_43 : (Jvm.Cond.fieldLink "ZoneShelf$Contents" (21 : Nat) "ZoneShelf$Contents" "opened" "[Z") ∈ zs_w := List.mem_of_getElem? (i := 43) rfl
theorem zq_44 : (Jvm.Cond.fieldLink "ZoneShelf$Contents" (25 : Nat) "ZoneShelf$Contents" "words" "[I") ∈ zs_w := List.mem_of_getElem? (i := 44) rfl
theorem zq_45 : (Jvm.Cond.laysFinal "ZoneShelf$Contents" "ZoneShelf$Contents" "names" "[I") ∈ zs_w := List.mem_of_getElem? (i := 45) rfl
theorem zq_46 : (Jvm.Cond.laysFinal "ZoneShelf$Contents" "ZoneShelf$Contents" "hints" "[I") ∈ zs_w := List.mem_of_getElem? (i := 46) rfl
theorem zq_47 : (Jvm.Cond.laysFinal "ZoneShelf$Contents" "ZoneShelf$Contents" "lengths" "[I") ∈ zs_w := List.mem_of_getElem? (i := 47) rfl
theorem zq_48 : (Jvm.Cond.laysFinal "ZoneShelf$Contents" "ZoneShelf$Contents" "opened" "[Z") ∈ zs_w := List.mem_of_getElem? (i := 48) rfl
theorem zq_49 : (Jvm.Cond.laysFinal "ZoneShelf$Contents" "ZoneShelf$Contents" "words" "[I") ∈ zs_w := List.mem_of_getElem? (i := 49) rfl
theorem zq_50 : (Jvm.Cond.arrayClass Jvm.ClassFile.FieldType.int) ∈ zs_w := List.mem_of_getElem? (i := 50) rfl
theorem zq_51 : (Jvm.Cond.arrayClass Jvm.ClassFile.FieldType.boolean) ∈ zs_w := List.mem_of_getElem? (i := 51) rfl
theorem zq_52 : (Jvm.Cond.fieldLink "ZoneShelf" (10 : Nat) "ZoneShelf" "current" "LZoneShelf$Contents;") ∈ zs_w := List.mem_of_getElem? (i := 52) rfl
theorem zq_53 : (Jvm.Cond.fieldLink "ZoneShelf" (16 : Nat) "ZoneShelf" "synced" "LZoneShelf$Contents;") ∈ zs_w := List.mem_of_getElem? (i := 53) rfl
theorem zq_54 : (Jvm.Cond.fieldLink "ZoneShelf" (19 : Nat) "ZoneShelf" "up" "Z") ∈ zs_w := List.mem_of_getElem? (i := 54) rfl
theorem zq_55 : (Jvm.Cond.laysFinal "ZoneShelf" "ZoneShelf" "current" "LZoneShelf$Contents;") ∈ zs_w := List.mem_of_getElem? (i := 55) rfl
theorem zq_56 : (Jvm.Cond.laysFinal "ZoneShelf" "ZoneShelf" "synced" "LZoneShelf$Contents;") ∈ zs_w := List.mem_of_getElem? (i := 56) rfl
theorem zq_57 : (Jvm.Cond.lays "ZoneShelf" "ZoneShelf" "up" "Z") ∈ zs_w := List.mem_of_getElem? (i := 57) rfl
theorem zq_58 : (Jvm.Cond.methodLink "ZoneShelfLaw" (13 : Nat) ({ cls := "ZoneShelf", name := "create", desc := "(II)I" } : Jvm.MethodName)) ∈ zs_w := List.mem_of_getElem? (i := 58) rfl
theorem zq_59 : (Jvm.Cond.instanceMethod ({ cls := "ZoneShelf", name := "create", desc := "(II)I" } : Jvm.MethodName)) ∈ zs_w := List.mem_of_getElem? (i := 59) rfl
theorem zq_60 : (Jvm.Cond.selects "ZoneShelf" ({ cls := "ZoneShelf", name := "create", desc := "(II)I" } : Jvm.MethodName) ({ cls := "ZoneShelf", name := "create", desc := "(II)I" } : Jvm.MethodName)) ∈ zs_w := List.mem_of_getElem? (i := 60) rfl
theorem zq_61 : (Jvm.Cond.code ({ cls := "ZoneShelf", name := "create", desc := "(II)I" } : Jvm.MethodName) prog_1_method_2_code (4 : Nat) (Option.some Jvm.ClassFile.FieldType.int)) ∈ zs_w := List.mem_of_getElem? (i := 61) rfl
theorem zq_62 : (Jvm.Cond.methodLink "ZoneShelf" (23 : Nat) ({ cls := "ZoneShelf", name := "isFreeName", desc := "(I)Z" } : Jvm.MethodName)) ∈ zs_w := List.mem_of_getElem? (i := 62) rfl
theorem zq_63 : (Jvm.Cond.instanceMethod ({ cls := "ZoneShelf", name := "isFreeName", desc := "(I)Z" } : Jvm.MethodName)) ∈ zs_w := List.mem_of_getElem? (i := 63) rfl
theorem zq_64 : (Jvm.Cond.code ({ cls := "ZoneShelf", name := "isFreeName", desc := "(I)Z" } : Jvm.MethodName) prog_1_method_21_code (2 : Nat) (Option.some Jvm.ClassFile.FieldType.boolean)) ∈ zs_w := List.mem_of_getElem? (i := 64) rfl
theorem zq_65 : (Jvm.Cond.methodLink "ZoneShelf" (87 : Nat) ({ cls := "ZoneShelf", name := "isName", desc := "(I)Z" } : Jvm.MethodName)) ∈ zs_w := List.mem_of_getElem? (i := 65) rfl
theorem zq_66 : (Jvm.Cond.static ({ cls := "ZoneShelf", name := "isName", desc := "(I)Z" } : Jvm.MethodName)) ∈ zs_w := List.mem_of_getElem? (i := 66) rfl
theorem zq_67 : (Jvm.Cond.code ({ cls := "ZoneShelf", name := "isName", desc := "(I)Z" } : Jvm.MethodName) prog_1_method_23_code (1 : Nat) (Option.some Jvm.ClassFile.FieldType.boolean)) ∈ zs_w := List.mem_of_getElem? (i := 67) rfl
theorem zq_68 : (Jvm.Cond.instanceMethod ({ cls := "ZoneShelf$Contents", name := "numberOf", desc := "(I)I" } : Jvm.MethodName)) ∈ zs_w := List.mem_of_getElem? (i := 68) rfl
theorem zq_69 : (Jvm.Cond.code ({ cls := "ZoneShelf$Contents", name := "numberOf", desc := "(I)I" } : Jvm.MethodName) prog_2_method_4_code (3 : Nat) (Option.some Jvm.ClassFile.FieldType.int)) ∈ zs_w := List.mem_of_getElem? (i := 69) rfl
theorem zq_70 : (Jvm.Cond.methodLink "ZoneShelf" (27 : Nat) ({ cls := "ZoneShelf", name := "isHint", desc := "(I)Z" } : Jvm.MethodName)) ∈ zs_w := List.mem_of_getElem? (i := 70) rfl
theorem zq_71 : (Jvm.Cond.static ({ cls := "ZoneShelf", name := "isHint", desc := "(I)Z" } : Jvm.MethodName)) ∈ zs_w := List.mem_of_getElem? (i := 71) rfl
theorem zq_72 : (Jvm.Cond.code ({ cls := "ZoneShelf", name := "isHint", desc := "(I)Z" } : Jvm.MethodName) prog_1_method_24_code (1 : Nat) (Option.some Jvm.ClassFile.FieldType.boolean)) ∈ zs_w := List.mem_of_getElem? (i := 72) rfl
theorem zq_73 : (Jvm.Cond.instanceMethod ({ cls := "ZoneShelf$Contents", name := "leastFreeNumber", desc := "()I" } : Jvm.MethodName)) ∈ zs_w := List.mem_of_getElem? (i := 73) rfl
theorem zq_74 : (Jvm.Cond.code ({ cls := "ZoneShelf$Contents", name := "leastFreeNumber", desc := "()I" } : Jvm.MethodName) prog_2_method_3_code (2 : Nat) (Option.some Jvm.ClassFile.FieldType.int)) ∈ zs_w := List.mem_of_getElem? (i := 74) rfl
theorem zq_75 : (Jvm.Cond.methodLink "ZoneShelf$Contents" (34 : Nat) ({ cls := "ZoneShelf$Contents", name := "isTaken", desc := "(I)Z" } : Jvm.MethodName)) ∈ zs_w := List.mem_of_getElem? (i := 75) rfl
theorem zq_76 : (Jvm.Cond.instanceMethod ({ cls := "ZoneShelf$Contents", name := "isTaken", desc := "(I)Z" } : Jvm.MethodName)) ∈ zs_w := List.mem_of_getElem? (i := 76) rfl
theorem zq_77 : (Jvm.Cond.code ({ cls := "ZoneShelf$Contents", name := "isTaken", desc := "(I)Z" } : Jvm.MethodName) prog_2_method_2_code (2 : Nat) (Option.some Jvm.ClassFile.FieldType.boolean)) ∈ zs_w := List.mem_of_getElem? (i := 77) rfl
theorem zq_78 : (Jvm.Cond.instanceMethod ({ cls := "ZoneShelf$Contents", name := "place", desc := "(III)V" } : Jvm.MethodName)) ∈ zs_w := List.mem_of_getElem? (i := 78) rfl
theorem zq_79 : (Jvm.Cond.code ({ cls := "ZoneShelf$Contents", name := "place", desc := "(III)V" } : Jvm.MethodName) prog_2_method_9_code (4 : Nat) (Option.none : Option Jvm.ClassFile.FieldType)) ∈ zs_w := List.mem_of_getElem? (i := 79) rfl
theorem zq_80 : (Jvm.Cond.methodLink "ZoneShelfLaw" (18 : Nat) ({ cls := "ZoneShelf", name := "append", desc := "(II)Z" } : Jvm.MethodName)) ∈ zs_w := List.mem_of_getElem? (i := 80) rfl
theorem zq_81 : (Jvm.Cond.instanceMethod ({ cls := "ZoneShelf", name := "append", desc := "(II)Z" } : Jvm.MethodName)) ∈ zs_w := List.mem_of_getElem? (i := 81) rfl
theorem zq_82 : (Jvm.Cond.selects "ZoneShelf" ({ cls := "ZoneShelf", name := "append", desc := "(II)Z" } : Jvm.MethodName) ({ cls := "ZoneShelf", name := "append", desc := "(II)Z" } : Jvm.MethodName)) ∈ zs_w := List.mem_of_getElem? (i := 82) rfl
theorem zq_83 : (Jvm.Cond.code ({ cls := "ZoneShelf", name := "append", desc := "(II)Z" } : Jvm.MethodName) prog_1_method_3_code (3 : Nat) (Option.some Jvm.ClassFile.FieldType.boolean)) ∈ zs_w := List.mem_of_getElem? (i := 83) rfl
theorem zq_84 : (Jvm.Cond.methodLink "ZoneShelf" (38 : Nat) ({ cls := "ZoneShelf", name := "appendRow", desc := "(III)Z" } : Jvm.MethodName)) ∈ zs_w := List.mem_of_getElem? (i := 84) rfl
theorem zq_85 : (Jvm.Cond.instanceMethod ({ cls := "ZoneShelf", name := "appendRow", desc := "(III)Z" } : Jvm.MethodName)) ∈ zs_w := List.mem_of_getElem? (i := 85) rfl
theorem zq_86 : (Jvm.Cond.selects "ZoneShelf" ({ cls := "ZoneShelf", name := "appendRow", desc := "(III)Z" } : Jvm.MethodName) ({ cls := "ZoneShelf", name := "appendRow", desc := "(III)Z" } : Jvm.MethodName)) ∈ zs_w := List.mem_of_getElem? (i := 86) rfl
theorem zq_87 : (Jvm.Cond.code ({ cls := "ZoneShelf", name := "appendRow", desc := "(III)Z" } : Jvm.MethodName) prog_1_method_4_code (4 : Nat) (Option.some Jvm.ClassFile.FieldType.boolean)) ∈ zs_w := List.mem_of_getElem? (i := 87) rfl
theorem zq_88 : (Jvm.Cond.methodLink "ZoneShelf" (42 : Nat) ({ cls := "ZoneShelf", name := "isThere", desc := "(I)Z" } : Jvm.MethodName)) ∈ zs_w := List.mem_of_getElem? (i := 88) rfl
theorem zq_89 : (Jvm.Cond.instanceMethod ({ cls := "ZoneShelf", name := "isThere", desc := "(I)Z" } : Jvm.MethodName)) ∈ zs_w := List.mem_of_getElem? (i := 89) rfl
theorem zq_90 : (Jvm.Cond.code ({ cls := "ZoneShelf", name := "isThere", desc := "(I)Z" } : Jvm.MethodName) prog_1_method_20_code (2 : Nat) (Option.some Jvm.ClassFile.FieldType.boolean)) ∈ zs_w := List.mem_of_getElem? (i := 90) rfl
theorem zq_91 : (Jvm.Cond.methodLink "ZoneShelf" (49 : Nat) ({ cls := "ZoneShelf", name := "roomIn", desc := "(I)I" } : Jvm.MethodName)) ∈ zs_w := List.mem_of_getElem? (i := 91) rfl
theorem zq_92 : (Jvm.Cond.instanceMethod ({ cls := "ZoneShelf", name := "roomIn", desc := "(I)I" } : Jvm.MethodName)) ∈ zs_w := List.mem_of_getElem? (i := 92) rfl
theorem zq_93 : (Jvm.Cond.code ({ cls := "ZoneShelf", name := "roomIn", desc := "(I)I" } : Jvm.MethodName) prog_1_method_22_code (2 : Nat) (Option.some Jvm.ClassFile.FieldType.int)) ∈ zs_w := List.mem_of_getElem? (i := 93) rfl
theorem zq_94 : (Jvm.Cond.instanceMethod ({ cls := "ZoneShelf$Contents", name := "countWords", desc := "()I" } : Jvm.MethodName)) ∈ zs_w := List.mem_of_getElem? (i := 94) rfl
theorem zq_95 : (Jvm.Cond.code ({ cls := "ZoneShelf$Contents", name := "countWords", desc := "()I" } : Jvm.MethodName) prog_2_method_8_code (3 : Nat) (Option.some Jvm.ClassFile.FieldType.int)) ∈ zs_w := List.mem_of_getElem? (i := 95) rfl
theorem zq_96 : (Jvm.Cond.methodLink "ZoneShelf" (99 : Nat) ({ cls := "java/lang/Math", name := "min", desc := "(II)I" } : Jvm.MethodName)) ∈ zs_w := List.mem_of_getElem? (i := 96) rfl
theorem zq_97 : (Jvm.Cond.static ({ cls := "java/lang/Math", name := "min", desc := "(II)I" } : Jvm.MethodName)) ∈ zs_w := List.mem_of_getElem? (i := 97) rfl
theorem zq_98 : (Jvm.Cond.code ({ cls := "java/lang/Math", name := "min", desc := "(II)I" } : Jvm.MethodName) prog_5_method_69_code (2 : Nat) (Option.some Jvm.ClassFile.FieldType.int)) ∈ zs_w := List.mem_of_getElem? (i := 98) rfl
theorem zq_99 : (Jvm.Cond.instanceMethod ({ cls := "ZoneShelf$Contents", name := "addRow", desc := "(III)V" } : Jvm.MethodName)) ∈ zs_w := List.mem_of_getElem? (i := 99) rfl
theorem zq_100 : (Jvm.Cond.code ({ cls := "ZoneShelf$Contents", name := "addRow", desc := "(III)V" } : Jvm.MethodName) prog_2_method_11_code (6 : Nat) (Option.none : Option Jvm.ClassFile.FieldType)) ∈ zs_w := List.mem_of_getElem? (i := 100) rfl
theorem zq_101 : (Jvm.Cond.methodLink "ZoneShelfLaw" (23 : Nat) ({ cls := "ZoneShelf", name := "appendRow", desc := "(III)Z" } : Jvm.MethodName)) ∈ zs_w := List.mem_of_getElem? (i := 101) rfl
theorem zq_102 : (Jvm.Cond.methodLink "ZoneShelfLaw" (28 : Nat) ({ cls := "ZoneShelf", name := "open", desc := "(IZ)Z" } : Jvm.MethodName)) ∈ zs_w := List.mem_of_getElem? (i := 102) rfl
theorem zq_103 : (Jvm.Cond.instanceMethod ({ cls := "ZoneShelf", name := "open", desc := "(IZ)Z" } : Jvm.MethodName)) ∈ zs_w := List.mem_of_getElem? (i := 103) rfl
theorem zq_104 : (Jvm.Cond.selects "ZoneShelf" ({ cls := "ZoneShelf", name := "open", desc := "(IZ)Z" } : Jvm.MethodName) ({ cls := "ZoneShelf", name := "open", desc := "(IZ)Z" } : Jvm.MethodName)) ∈ zs_w := List.mem_of_getElem? (i := 104) rfl
theorem zq_105 : (Jvm.Cond.code ({ cls := "ZoneShelf", name := "open", desc := "(IZ)Z" } : Jvm.MethodName) prog_1_method_5_code (3 : Nat) (Option.some Jvm.ClassFile.FieldType.boolean)) ∈ zs_w := List.mem_of_getElem? (i := 105) rfl
theorem zq_106 : (Jvm.Cond.methodLink "ZoneShelfLaw" (33 : Nat) ({ cls := "ZoneShelf", name := "remove", desc := "(I)Z" } : Jvm.MethodName)) ∈ zs_w := List.mem_of_getElem? (i := 106) rfl
theorem zq_107 : (Jvm.Cond.instanceMethod ({ cls := "ZoneShelf", name := "remove", desc := "(I)Z" } : Jvm.MethodName)) ∈ zs_w := List.mem_of_getElem? (i := 107) rfl
theorem zq_108 : (Jvm.Cond.selects "ZoneShelf" ({ cls := "ZoneShelf", name := "remove", desc := "(I)Z" } : Jvm.MethodName) ({ cls := "ZoneShelf", name := "remove", desc := "(I)Z" } : Jvm.MethodName)) ∈ zs_w := List.mem_of_getElem? (i := 108) rfl
theorem zq_109 : (Jvm.Cond.code ({ cls := "ZoneShelf", name := "remove", desc := "(I)Z" } : Jvm.MethodName) prog_1_method_6_code (2 : Nat) (Option.some Jvm.ClassFile.FieldType.boolean)) ∈ zs_w := List.mem_of_getElem? (i := 109) rfl
theorem zq_110 : (Jvm.Cond.instanceMethod ({ cls := "ZoneShelf$Contents", name := "takeAway", desc := "(I)V" } : Jvm.MethodName)) ∈ zs_w := List.mem_of_getElem? (i := 110) rfl
theorem zq_111 : (Jvm.Cond.code ({ cls := "ZoneShelf$Contents", name := "takeAway", desc := "(I)V" } : Jvm.MethodName) prog_2_method_10_code (2 : Nat) (Option.none : Option Jvm.ClassFile.FieldType)) ∈ zs_w := List.mem_of_getElem? (i := 111) rfl
theorem zq_112 : (Jvm.Cond.methodLink "ZoneShelfLaw" (38 : Nat) ({ cls := "ZoneShelf", name := "rename", desc := "(II)Z" } : Jvm.MethodName)) ∈ zs_w := List.mem_of_getElem? (i := 112) rfl
theorem zq_113 : (Jvm.Cond.instanceMethod ({ cls := "ZoneShelf", name := "rename", desc := "(II)Z" } : Jvm.MethodName)) ∈ zs_w := List.mem_of_getElem? (i := 113) rfl
theorem zq_114 : (Jvm.Cond.selects "ZoneShelf" ({ cls := "ZoneShelf", name := "rename", desc := "(II)Z" } : Jvm.MethodName) ({ cls := "ZoneShelf", name := "rename", desc := "(II)Z" } : Jvm.MethodName)) ∈ zs_w := List.mem_of_getElem? (i := 114) rfl
theorem zq_115 : (Jvm.Cond.code ({ cls := "ZoneShelf", name := "rename", desc := "(II)Z" } : Jvm.MethodName) prog_1_method_7_code (3 : Nat) (Option.some Jvm.ClassFile.FieldType.boolean)) ∈ zs_w := List.mem_of_getElem? (i := 115) rfl
theorem zq_116 : (Jvm.Cond.methodLink "ZoneShelfLaw" (42 : Nat) ({ cls := "ZoneShelf", name := "sync", desc := "()Z" } : Jvm.MethodName)) ∈ zs_w := List.mem_of_getElem? (i := 116) rfl
theorem zq_117 : (Jvm.Cond.instanceMethod ({ cls := "ZoneShelf", name := "sync", desc := "()Z" } : Jvm.MethodName)) ∈ zs_w := List.mem_of_getElem? (i := 117) rfl
theorem zq_118 : (Jvm.Cond.selects "ZoneShelf" ({ cls := "ZoneShelf", name := "sync", desc := "()Z" } : Jvm.MethodName) ({ cls := "ZoneShelf", name := "sync", desc := "()Z" } : Jvm.MethodName)) ∈ zs_w := List.mem_of_getElem? (i := 118) rfl
theorem zq_119 : (Jvm.Cond.code ({ cls := "ZoneShelf", name := "sync", desc := "()Z" } : Jvm.MethodName) prog_1_method_8_code (1 : Nat) (Option.some Jvm.ClassFile.FieldType.boolean)) ∈ zs_w := List.mem_of_getElem? (i := 119) rfl
theorem zq_120 : (Jvm.Cond.instanceMethod ({ cls := "ZoneShelf$Contents", name := "copyFrom", desc := "(LZoneShelf$Contents;)V" } : Jvm.MethodName)) ∈ zs_w := List.mem_of_getElem? (i := 120) rfl
theorem zq_121 : (Jvm.Cond.code ({ cls := "ZoneShelf$Contents", name := "copyFrom", desc := "(LZoneShelf$Contents;)V" } : Jvm.MethodName) prog_2_method_12_code (3 : Nat) (Option.none : Option Jvm.ClassFile.FieldType)) ∈ zs_w := List.mem_of_getElem? (i := 121) rfl
theorem zq_122 : (Jvm.Cond.methodLink "ZoneShelf$Contents" (42 : Nat) ({ cls := "java/lang/System", name := "arraycopy", desc := "(Ljava/lang/Object;ILjava/lang/Object;II)V" } : Jvm.MethodName)) ∈ zs_w := List.mem_of_getElem? (i := 122) rfl
theorem zq_123 : (Jvm.Cond.static ({ cls := "java/lang/System", name := "arraycopy", desc := "(Ljava/lang/Object;ILjava/lang/Object;II)V" } : Jvm.MethodName)) ∈ zs_w := List.mem_of_getElem? (i := 123) rfl
theorem zq_124 : (Jvm.Cond.native ({ cls := "java/lang/System", name := "arraycopy", desc := "(Ljava/lang/Object;ILjava/lang/Object;II)V" } : Jvm.MethodName)) ∈ zs_w := List.mem_of_getElem? (i := 124) rfl
theorem zq_125 : (Jvm.Cond.methodLink "ZoneShelfLaw" (47 : Nat) ({ cls := "ZoneShelf", name := "tear", desc := "()Z" } : Jvm.MethodName)) ∈ zs_w := List.mem_of_getElem? (i := 125) rfl
theorem zq_126 : (Jvm.Cond.instanceMethod ({ cls := "ZoneShelf", name := "tear", desc := "()Z" } : Jvm.MethodName)) ∈ zs_w := List.mem_of_getElem? (i := 126) rfl
theorem zq_127 : (Jvm.Cond.selects "ZoneShelf" ({ cls := "ZoneShelf", name := "tear", desc := "()Z" } : Jvm.MethodName) ({ cls := "ZoneShelf", name := "tear", desc := "()Z" } : Jvm.MethodName)) ∈ zs_w := List.mem_of_getElem? (i := 127) rfl
theorem zq_128 : (Jvm.Cond.code ({ cls := "ZoneShelf", name := "tear", desc := "()Z" } : Jvm.MethodName) prog_1_method_9_code (1 : Nat) (Option.some Jvm.ClassFile.FieldType.boolean)) ∈ zs_w := List.mem_of_getElem? (i := 128) rfl
theorem zq_129 : (Jvm.Cond.methodLink "ZoneShelf" (68 : Nat) ({ cls := "ZoneShelf", name := "cut", desc := "()Z" } : Jvm.MethodName)) ∈ zs_w := List.mem_of_getElem? (i := 129) rfl
theorem zq_130 : (Jvm.Cond.instanceMethod ({ cls := "ZoneShelf", name := "cut", desc := "()Z" } : Jvm.MethodName)) ∈ zs_w := List.mem_of_getElem? (i := 130) rfl
theorem zq_131 : (Jvm.Cond.selects "ZoneShelf" ({ cls := "ZoneShelf", name := "cut", desc := "()Z" } : Jvm.MethodName) ({ cls := "ZoneShelf", name := "cut", desc := "()Z" } : Jvm.MethodName)) ∈ zs_w := List.mem_of_getElem? (i := 131) rfl
theorem zq_132 : (Jvm.Cond.code ({ cls := "ZoneShelf", name := "cut", desc := "()Z" } : Jvm.MethodName) prog_1_method_10_code (1 : Nat) (Option.some Jvm.ClassFile.FieldType.boolean)) ∈ zs_w := List.mem_of_getElem? (i := 132) rfl
theorem zq_133 : (Jvm.Cond.methodLink "ZoneShelfLaw" (51 : Nat) ({ cls := "ZoneShelf", name := "cut", desc := "()Z" } : Jvm.MethodName)) ∈ zs_w := List.mem_of_getElem? (i := 133) rfl
theorem zq_134 : (Jvm.Cond.methodLink "ZoneShelfLaw" (55 : Nat) ({ cls := "ZoneShelf", name := "mount", desc := "()Z" } : Jvm.MethodName)) ∈ zs_w := List.mem_of_getElem? (i := 134) rfl
theorem zq_135 : (Jvm.Cond.instanceMethod ({ cls := "ZoneShelf", name := "mount", desc := "()Z" } : Jvm.MethodName)) ∈ zs_w := List.mem_of_getElem? (i := 135) rfl
theorem zq_136 : (Jvm.Cond.selects "ZoneShelf" ({ cls := "ZoneShelf", name := "mount", desc := "()Z" } : Jvm.MethodName) ({ cls := "ZoneShelf", name := "mount", desc := "()Z" } : Jvm.MethodName)) ∈ zs_w := List.mem_of_getElem? (i := 136) rfl
theorem zq_137 : (Jvm.Cond.code ({ cls := "ZoneShelf", name := "mount", desc := "()Z" } : Jvm.MethodName) prog_1_method_11_code (1 : Nat) (Option.some Jvm.ClassFile.FieldType.boolean)) ∈ zs_w := List.mem_of_getElem? (i := 137) rfl
theorem zq_138 : (Jvm.Cond.methodLink "ZoneShelfLaw" (59 : Nat) ({ cls := "ZoneShelf", name := "tidy", desc := "()Z" } : Jvm.MethodName)) ∈ zs_w := List.mem_of_getElem? (i := 138) rfl
theorem zq_139 : (Jvm.Cond.instanceMethod ({ cls := "ZoneShelf", name := "tidy", desc := "()Z" } : Jvm.MethodName)) ∈ zs_w := List.mem_of_getElem? (i := 139) rfl
theorem zq_140 : (Jvm.Cond.selects "ZoneShelf" ({ cls := "ZoneShelf", name := "tidy", desc := "()Z" } : Jvm.MethodName) ({ cls := "ZoneShelf", name := "tidy", desc := "()Z" } : Jvm.MethodName)) ∈ zs_w := List.mem_of_getElem? (i := 140) rfl
theorem zq_141 : (Jvm.Cond.code ({ cls := "ZoneShelf", name := "tidy", desc := "()Z" } : Jvm.MethodName) prog_1_method_12_code (1 : Nat) (Option.some Jvm.ClassFile.FieldType.boolean)) ∈ zs_w := List.mem_of_getElem? (i := 141) rfl
theorem zq_142 : (Jvm.Cond.methodLink "ZoneShelfLaw" (63 : Nat) ({ cls := "ZoneShelf", name := "isUp", desc := "()Z" } : Jvm.MethodName)) ∈ zs_w := List.mem_of_getElem? (i := 142) rfl
theorem zq_143 : (Jvm.Cond.instanceMethod ({ cls := "ZoneShelf", name := "isUp", desc := "()Z" } : Jvm.MethodName)) ∈ zs_w := List.mem_of_getElem? (i := 143) rfl
theorem zq_144 : (Jvm.Cond.selects "ZoneShelf" ({ cls := "ZoneShelf", name := "isUp", desc := "()Z" } : Jvm.MethodName) ({ cls := "ZoneShelf", name := "isUp", desc := "()Z" } : Jvm.MethodName)) ∈ zs_w := List.mem_of_getElem? (i := 144) rfl
theorem zq_145 : (Jvm.Cond.code ({ cls := "ZoneShelf", name := "isUp", desc := "()Z" } : Jvm.MethodName) prog_1_method_13_code (1 : Nat) (Option.some Jvm.ClassFile.FieldType.boolean)) ∈ zs_w := List.mem_of_getElem? (i := 145) rfl
theorem zq_146 : (Jvm.Cond.methodLink "ZoneShelfLaw" (67 : Nat) ({ cls := "ZoneShelf", name := "objects", desc := "()I" } : Jvm.MethodName)) ∈ zs_w := List.mem_of_getElem? (i := 146) rfl
theorem zq_147 : (Jvm.Cond.instanceMethod ({ cls := "ZoneShelf", name := "objects", desc := "()I" } : Jvm.MethodName)) ∈ zs_w := List.mem_of_getElem? (i := 147) rfl
theorem zq_148 : (Jvm.Cond.selects "ZoneShelf" ({ cls := "ZoneShelf", name := "objects", desc := "()I" } : Jvm.MethodName) ({ cls := "ZoneShelf", name := "objects", desc := "()I" } : Jvm.MethodName)) ∈ zs_w := List.mem_of_getElem? (i := 148) rfl
theorem zq_149 : (Jvm.Cond.code ({ cls := "ZoneShelf", name := "objects", desc := "()I" } : Jvm.MethodName) prog_1_method_14_code (1 : Nat) (Option.some Jvm.ClassFile.FieldType.int)) ∈ zs_w := List.mem_of_getElem? (i := 149) rfl
theorem zq_150 : (Jvm.Cond.instanceMethod ({ cls := "ZoneShelf$Contents", name := "countObjects", desc := "()I" } : Jvm.MethodName)) ∈ zs_w := List.mem_of_getElem? (i := 150) rfl
theorem zq_151 : (Jvm.Cond.code ({ cls := "ZoneShelf$Contents", name := "countObjects", desc := "()I" } : Jvm.MethodName) prog_2_method_7_code (3 : Nat) (Option.some Jvm.ClassFile.FieldType.int)) ∈ zs_w := List.mem_of_getElem? (i := 151) rfl
theorem zq_152 : (Jvm.Cond.methodLink "ZoneShelfLaw" (72 : Nat) ({ cls := "ZoneShelf", name := "room", desc := "()I" } : Jvm.MethodName)) ∈ zs_w := List.mem_of_getElem? (i := 152) rfl
theorem zq_153 : (Jvm.Cond.instanceMethod ({ cls := "ZoneShelf", name := "room", desc := "()I" } : Jvm.MethodName)) ∈ zs_w := List.mem_of_getElem? (i := 153) rfl
theorem zq_154 : (Jvm.Cond.selects "ZoneShelf" ({ cls := "ZoneShelf", name := "room", desc := "()I" } : Jvm.MethodName) ({ cls := "ZoneShelf", name := "room", desc := "()I" } : Jvm.MethodName)) ∈ zs_w := List.mem_of_getElem? (i := 154) rfl
theorem zq_155 : (Jvm.Cond.code ({ cls := "ZoneShelf", name := "room", desc := "()I" } : Jvm.MethodName) prog_1_method_15_code (1 : Nat) (Option.some Jvm.ClassFile.FieldType.int)) ∈ zs_w := List.mem_of_getElem? (i := 155) rfl
theorem zq_156 : (Jvm.Cond.methodLink "ZoneShelfLaw" (76 : Nat) ({ cls := "ZoneShelf", name := "object", desc := "(II)I" } : Jvm.MethodName)) ∈ zs_w := List.mem_of_getElem? (i := 156) rfl
theorem zq_157 : (Jvm.Cond.instanceMethod ({ cls := "ZoneShelf", name := "object", desc := "(II)I" } : Jvm.MethodName)) ∈ zs_w := List.mem_of_getElem? (i := 157) rfl
theorem zq_158 : (Jvm.Cond.selects "ZoneShelf" ({ cls := "ZoneShelf", name := "object", desc := "(II)I" } : Jvm.MethodName) ({ cls := "ZoneShelf", name := "object", desc := "(II)I" } : Jvm.MethodName)) ∈ zs_w := List.mem_of_getElem? (i := 158) rfl
theorem zq_159 : (Jvm.Cond.code ({ cls := "ZoneShelf", name := "object", desc := "(II)I" } : Jvm.MethodName) prog_1_method_16_code (3 : Nat) (Option.some Jvm.ClassFile.FieldType.int)) ∈ zs_w := List.mem_of_getElem? (i := 159) rfl
theorem zq_160 : (Jvm.Cond.methodLink "ZoneShelfLaw" (80 : Nat) ({ cls := "ZoneShelf", name := "word", desc := "(II)I" } : Jvm.MethodName)) ∈ zs_w := List.mem_of_getElem? (i := 160) rfl
theorem zq_161 : (Jvm.Cond.instanceMethod ({ cls := "ZoneShelf", name := "word", desc := "(II)I" } : Jvm.MethodName)) ∈ zs_w := List.mem_of_getElem? (i := 161) rfl
theorem zq_162 : (Jvm.Cond.selects "ZoneShelf" ({ cls := "ZoneShelf", name := "word", desc := "(II)I" } : Jvm.MethodName) ({ cls := "ZoneShelf", name := "word", desc := "(II)I" } : Jvm.MethodName)) ∈ zs_w := List.mem_of_getElem? (i := 162) rfl
theorem zq_163 : (Jvm.Cond.code ({ cls := "ZoneShelf", name := "word", desc := "(II)I" } : Jvm.MethodName) prog_1_method_17_code (3 : Nat) (Option.some Jvm.ClassFile.FieldType.int)) ∈ zs_w := List.mem_of_getElem? (i := 163) rfl
theorem zq_164 : (Jvm.Cond.methodLink "ZoneShelfLaw" (84 : Nat) ({ cls := "ZoneShelf", name := "find", desc := "(I)I" } : Jvm.MethodName)) ∈ zs_w := List.mem_of_getElem? (i := 164) rfl
theorem zq_165 : (Jvm.Cond.instanceMethod ({ cls := "ZoneShelf", name := "find", desc := "(I)I" } : Jvm.MethodName)) ∈ zs_w := List.mem_of_getElem? (i := 165) rfl
theorem zq_166 : (Jvm.Cond.selects "ZoneShelf" ({ cls := "ZoneShelf", name := "find", desc := "(I)I" } : Jvm.MethodName) ({ cls := "ZoneShelf", name := "find", desc := "(I)I" } : Jvm.MethodName)) ∈ zs_w := List.mem_of_getElem? (i := 166) rfl
theorem zq_167 : (Jvm.Cond.code ({ cls := "ZoneShelf", name := "find", desc := "(I)I" } : Jvm.MethodName) prog_1_method_18_code (2 : Nat) (Option.some Jvm.ClassFile.FieldType.int)) ∈ zs_w := List.mem_of_getElem? (i := 167) rfl
theorem zq_168 : (Jvm.Cond.methodLink "ZoneShelfLaw" (89 : Nat) ({ cls := "ZoneShelf", name := "list", desc := "(I)I" } : Jvm.MethodName)) ∈ zs_w := List.mem_of_getElem? (i := 168) rfl
theorem zq_169 : (Jvm.Cond.instanceMethod ({ cls := "ZoneShelf", name := "list", desc := "(I)I" } : Jvm.MethodName)) ∈ zs_w := List.mem_of_getElem? (i := 169) rfl
theorem zq_170 : (Jvm.Cond.selects "ZoneShelf" ({ cls := "ZoneShelf", name := "list", desc := "(I)I" } : Jvm.MethodName) ({ cls := "ZoneShelf", name := "list", desc := "(I)I" } : Jvm.MethodName)) ∈ zs_w := List.mem_of_getElem? (i := 170) rfl
theorem zq_171 : (Jvm.Cond.code ({ cls := "ZoneShelf", name := "list", desc := "(I)I" } : Jvm.MethodName) prog_1_method_19_code (2 : Nat) (Option.some Jvm.ClassFile.FieldType.int)) ∈ zs_w := List.mem_of_getElem? (i := 171) rfl
theorem zq_172 : (Jvm.Cond.instanceMethod ({ cls := "ZoneShelf$Contents", name := "numberAtRank", desc := "(I)I" } : Jvm.MethodName)) ∈ zs_w := List.mem_of_getElem? (i := 172) rfl
theorem zq_173 : (Jvm.Cond.code ({ cls := "ZoneShelf$Contents", name := "numberAtRank", desc := "(I)I" } : Jvm.MethodName) prog_2_method_5_code (3 : Nat) (Option.some Jvm.ClassFile.FieldType.int)) ∈ zs_w := List.mem_of_getElem? (i := 173) rfl
theorem zq_174 : (Jvm.Cond.methodLink "ZoneShelf$Contents" (38 : Nat) ({ cls := "ZoneShelf$Contents", name := "countNamesBelow", desc := "(I)I" } : Jvm.MethodName)) ∈ zs_w := List.mem_of_getElem? (i := 174) rfl
theorem zq_175 : (Jvm.Cond.instanceMethod ({ cls := "ZoneShelf$Contents", name := "countNamesBelow", desc := "(I)I" } : Jvm.MethodName)) ∈ zs_w := List.mem_of_getElem? (i := 175) rfl
theorem zq_176 : (Jvm.Cond.code ({ cls := "ZoneShelf$Contents", name := "countNamesBelow", desc := "(I)I" } : Jvm.MethodName) prog_2_method_6_code (4 : Nat) (Option.some Jvm.ClassFile.FieldType.int)) ∈ zs_w := List.mem_of_getElem? (i := 176) rfl
theorem zq_177 : (Jvm.Cond.classLink "ZoneShelfLaw" (10 : Nat) "ZoneShelfModel") ∈ zs_w := List.mem_of_getElem? (i := 177) rfl
theorem zq_178 : (Jvm.Cond.instantiable "ZoneShelfModel" (11 : Nat)) ∈ zs_w := List.mem_of_getElem? (i := 178) rfl
theorem zq_179 : (Jvm.Cond.methodLink "ZoneShelfLaw" (12 : Nat) ({ cls := "ZoneShelfModel", name := "<init>", desc := "()V" } : Jvm.MethodName)) ∈ zs_w := List.mem_of_getElem? (i := 179) rfl
theorem zq_180 : (Jvm.Cond.instanceMethod ({ cls := "ZoneShelfModel", name := "<init>", desc := "()V" } : Jvm.MethodName)) ∈ zs_w := List.mem_of_getElem? (i := 180) rfl
theorem zq_181 : (Jvm.Cond.code ({ cls := "ZoneShelfModel", name := "<init>", desc := "()V" } : Jvm.MethodName) prog_4_method_1_code (1 : Nat) (Option.none : Option Jvm.ClassFile.FieldType)) ∈ zs_w := List.mem_of_getElem? (i := 181) rfl
theorem zq_182 : (Jvm.Cond.methodLink "ZoneShelfModel" (1 : Nat) ({ cls := "java/lang/Object", name := "<init>", desc := "()V" } : Jvm.MethodName)) ∈ zs_w := List.mem_of_getElem? (i := 182) rfl
theorem zq_183 : (Jvm.Cond.fieldLink "ZoneShelfModel" (7 : Nat) "ZoneShelfModel" "up" "Z") ∈ zs_w := List.mem_of_getElem? (i := 183) rfl
theorem zq_184 : (Jvm.Cond.fieldLink "ZoneShelfModel" (13 : Nat) "ZoneShelfModel" "names" "[I") ∈ zs_w := List.mem_of_getElem? (i := 184) rfl
theorem zq_185 : (Jvm.Cond.fieldLink "ZoneShelfModel" (17 : Nat) "ZoneShelfModel" "hints" "[I") ∈ zs_w := List.mem_of_getElem? (i := 185) rfl
theorem zq_186 : (Jvm.Cond.fieldLink "ZoneShelfModel" (20 : Nat) "ZoneShelfModel" "sizes" "[I") ∈ zs_w := List.mem_of_getElem? (i := 186) rfl
theorem zq_187 : (Jvm.Cond.fieldLink "ZoneShelfModel" (23 : Nat) "ZoneShelfModel" "opens" "[Z") ∈ zs_w := List.mem_of_getElem? (i := 187) rfl
theorem zq_188 : (Jvm.Cond.fieldLink "ZoneShelfModel" (27 : Nat) "ZoneShelfModel" "words" "[I") ∈ zs_w := List.mem_of_getElem? (i := 188) rfl
theorem zq_189 : (Jvm.Cond.fieldLink "ZoneShelfModel" (30 : Nat) "ZoneShelfModel" "oldNames" "[I") ∈ zs_w := List.mem_of_getElem? (i := 189) rfl
theorem zq_190 : (Jvm.Cond.fieldLink "ZoneShelfModel" (33 : Nat) "ZoneShelfModel" "oldHints" "[I") ∈ zs_w := List.mem_of_getElem? (i := 190) rfl
theorem zq_191 : (Jvm.Cond.fieldLink "ZoneShelfModel" (36 : Nat) "ZoneShelfModel" "oldSizes" "[I") ∈ zs_w := List.mem_of_getElem? (i := 191) rfl
theorem zq_192 : (Jvm.Cond.fieldLink "ZoneShelfModel" (39 : Nat) "ZoneShelfModel" "oldOpens" "[Z") ∈ zs_w := List.mem_of_getElem? (i := 192) rfl
theorem zq_193 : (Jvm.Cond.fieldLink "ZoneShelfModel" (42 : Nat) "ZoneShelfModel" "oldWords" "[I") ∈ zs_w := List.mem_of_getElem? (i := 193) rfl
theorem zq_194 : (Jvm.Cond.lays "ZoneShelfModel" "ZoneShelfModel" "up" "Z") ∈ zs_w := List.mem_of_getElem? (i := 194) rfl
theorem zq_195 : (Jvm.Cond.laysFinal "ZoneShelfModel" "ZoneShelfModel" "names" "[I") ∈ zs_w := List.mem_of_getElem? (i := 195) rfl
theorem zq_196 : (Jvm.Cond.laysFinal "ZoneShelfModel" "ZoneShelfModel" "hints" "[I") ∈ zs_w := List.mem_of_getElem? (i := 196) rfl
theorem zq_197 : (Jvm.Cond.laysFinal "ZoneShelfModel" "ZoneShelfModel" "sizes" "[I") ∈ zs_w := List.mem_of_getElem? (i := 197) rfl
theorem zq_198 : (Jvm.Cond.laysFinal "ZoneShelfModel" "ZoneShelfModel" "opens" "[Z") ∈ zs_w := List.mem_of_getElem? (i := 198) rfl
theorem zq_199 : (Jvm.Cond.laysFinal "ZoneShelfModel" "ZoneShelfModel" "words" "[I") ∈ zs_w := List.mem_of_getElem? (i := 199) rfl
theorem zq_200 : (Jvm.Cond.laysFinal "ZoneShelfModel" "ZoneShelfModel" "oldNames" "[I") ∈ zs_w := List.mem_of_getElem? (i := 200) rfl
theorem zq_201 : (Jvm.Cond.laysFinal "ZoneShelfModel" "ZoneShelfModel" "oldHints" "[I") ∈ zs_w := List.mem_of_getElem? (i := 201) rfl
theorem zq_202 : (Jvm.Cond.laysFinal "ZoneShelfModel" "ZoneShelfModel" "oldSizes" "[I") ∈ zs_w := List.mem_of_getElem? (i := 202) rfl
theorem zq_203 : (Jvm.Cond.laysFinal "ZoneShelfModel" "ZoneShelfModel" "oldOpens" "[Z") ∈ zs_w := List.mem_of_getElem? (i := 203) rfl
theorem zq_204 : (Jvm.Cond.laysFinal "ZoneShelfModel" "ZoneShelfModel" "oldWords" "[I") ∈ zs_w := List.mem_of_getElem? (i := 204) rfl
theorem zq_205 : (Jvm.Cond.methodLink "ZoneShelfLaw" (17 : Nat) ({ cls := "ZoneShelfModel", name := "create", desc := "(II)I" } : Jvm.MethodName)) ∈ zs_w := List.mem_of_getElem? (i := 205) rfl
theorem zq_206 : (Jvm.Cond.instanceMethod ({ cls := "ZoneShelfModel", name := "create", desc := "(II)I" } : Jvm.MethodName)) ∈ zs_w := List.mem_of_getElem? (i := 206) rfl
theorem zq_207 : (Jvm.Cond.selects "ZoneShelfModel" ({ cls := "ZoneShelfModel", name := "create", desc := "(II)I" } : Jvm.MethodName) ({ cls := "ZoneShelfModel", name := "create", desc := "(II)I" } : Jvm.MethodName)) ∈ zs_w := List.mem_of_getElem? (i := 207) rfl
theorem zq_208 : (Jvm.Cond.code ({ cls := "ZoneShelfModel", name := "create", desc := "(II)I" } : Jvm.MethodName) prog_4_method_6_code (4 : Nat) (Option.some Jvm.ClassFile.FieldType.int)) ∈ zs_w := List.mem_of_getElem? (i := 208) rfl
theorem zq_209 : (Jvm.Cond.methodLink "ZoneShelfModel" (45 : Nat) ({ cls := "ZoneShelfModel", name := "isName", desc := "(I)Z" } : Jvm.MethodName)) ∈ zs_w := List.mem_of_getElem? (i := 209) rfl
theorem zq_210 : (Jvm.Cond.static ({ cls := "ZoneShelfModel", name := "isName", desc := "(I)Z" } : Jvm.MethodName)) ∈ zs_w := List.mem_of_getElem? (i := 210) rfl
theorem zq_211 : (Jvm.Cond.code ({ cls := "ZoneShelfModel", name := "isName", desc := "(I)Z" } : Jvm.MethodName) prog_4_method_3_code (1 : Nat) (Option.some Jvm.ClassFile.FieldType.boolean)) ∈ zs_w := List.mem_of_getElem? (i := 211) rfl
theorem zq_212 : (Jvm.Cond.methodLink "ZoneShelfModel" (52 : Nat) ({ cls := "ZoneShelfModel", name := "named", desc := "(I)I" } : Jvm.MethodName)) ∈ zs_w := List.mem_of_getElem? (i := 212) rfl
theorem zq_213 : (Jvm.Cond.instanceMethod ({ cls := "ZoneShelfModel", name := "named", desc := "(I)I" } : Jvm.MethodName)) ∈ zs_w := List.mem_of_getElem? (i := 213) rfl
theorem zq_214 : (Jvm.Cond.code ({ cls := "ZoneShelfModel", name := "named", desc := "(I)I" } : Jvm.MethodName) prog_4_method_4_code (4 : Nat) (Option.some Jvm.ClassFile.FieldType.int)) ∈ zs_w := List.mem_of_getElem? (i := 214) rfl
theorem zq_215 : (Jvm.Cond.methodLink "ZoneShelfModel" (49 : Nat) ({ cls := "ZoneShelfModel", name := "is", desc := "(I)Z" } : Jvm.MethodName)) ∈ zs_w := List.mem_of_getElem? (i := 215) rfl
theorem zq_216 : (Jvm.Cond.instanceMethod ({ cls := "ZoneShelfModel", name := "is", desc := "(I)Z" } : Jvm.MethodName)) ∈ zs_w := List.mem_of_getElem? (i := 216) rfl
theorem zq_217 : (Jvm.Cond.code ({ cls := "ZoneShelfModel", name := "is", desc := "(I)Z" } : Jvm.MethodName) prog_4_method_2_code (2 : Nat) (Option.some Jvm.ClassFile.FieldType.boolean)) ∈ zs_w := List.mem_of_getElem? (i := 217) rfl
theorem zq_218 : (Jvm.Cond.methodLink "ZoneShelfLaw" (22 : Nat) ({ cls := "ZoneShelfModel", name := "append", desc := "(II)Z" } : Jvm.MethodName)) ∈ zs_w := List.mem_of_getElem? (i := 218) rfl
theorem zq_219 : (Jvm.Cond.instanceMethod ({ cls := "ZoneShelfModel", name := "append", desc := "(II)Z" } : Jvm.MethodName)) ∈ zs_w := List.mem_of_getElem? (i := 219) rfl
theorem zq_220 : (Jvm.Cond.selects "ZoneShelfModel" ({ cls := "ZoneShelfModel", name := "append", desc := "(II)Z" } : Jvm.MethodName) ({ cls := "ZoneShelfModel", name := "append", desc := "(II)Z" } : Jvm.MethodName)) ∈ zs_w := List.mem_of_getElem? (i := 220) rfl
theorem zq_221 : (Jvm.Cond.code ({ cls := "ZoneShelfModel", name := "append", desc := "(II)Z" } : Jvm.MethodName) prog_4_method_7_code (3 : Nat) (Option.some Jvm.ClassFile.FieldType.boolean)) ∈ zs_w := List.mem_of_getElem? (i := 221) rfl
theorem zq_222 : (Jvm.Cond.methodLink "ZoneShelfModel" (56 : Nat) ({ cls := "ZoneShelfModel", name := "appendRow", desc := "(III)Z" } : Jvm.MethodName)) ∈ zs_w := List.mem_of_getElem? (i := 222) rfl
theorem zq_223 : (Jvm.Cond.instanceMethod ({ cls := "ZoneShelfModel", name := "appendRow", desc := "(III)Z" } : Jvm.MethodName)) ∈ zs_w := List.mem_of_getElem? (i := 223) rfl
theorem zq_224 : (Jvm.Cond.selects "ZoneShelfModel" ({ cls := "ZoneShelfModel", name := "appendRow", desc := "(III)Z" } : Jvm.MethodName) ({ cls := "ZoneShelfModel", name := "appendRow", desc := "(III)Z" } : Jvm.MethodName)) ∈ zs_w := List.mem_of_getElem? (i := 224) rfl
theorem zq_225 : (Jvm.Cond.code ({ cls := "ZoneShelfModel", name := "appendRow", desc := "(III)Z" } : Jvm.MethodName) prog_4_method_8_code (5 : Nat) (Option.some Jvm.ClassFile.FieldType.boolean)) ∈ zs_w := List.mem_of_getElem? (i := 225) rfl
theorem zq_226 : (Jvm.Cond.methodLink "ZoneShelfModel" (60 : Nat) ({ cls := "ZoneShelfModel", name := "left", desc := "()I" } : Jvm.MethodName)) ∈ zs_w := List.mem_of_getElem? (i := 226) rfl
theorem zq_227 : (Jvm.Cond.instanceMethod ({ cls := "ZoneShelfModel", name := "left", desc := "()I" } : Jvm.MethodName)) ∈ zs_w := List.mem_of_getElem? (i := 227) rfl
theorem zq_228 : (Jvm.Cond.code ({ cls := "ZoneShelfModel", name := "left", desc := "()I" } : Jvm.MethodName) prog_4_method_5_code (3 : Nat) (Option.some Jvm.ClassFile.FieldType.int)) ∈ zs_w := List.mem_of_getElem? (i := 228) rfl
theorem zq_229 : (Jvm.Cond.methodLink "ZoneShelfLaw" (27 : Nat) ({ cls := "ZoneShelfModel", name := "appendRow", desc := "(III)Z" } : Jvm.MethodName)) ∈ zs_w := List.mem_of_getElem? (i := 229) rfl
theorem zq_230 : (Jvm.Cond.methodLink "ZoneShelfLaw" (32 : Nat) ({ cls := "ZoneShelfModel", name := "open", desc := "(IZ)Z" } : Jvm.MethodName)) ∈ zs_w := List.mem_of_getElem? (i := 230) rfl
theorem zq_231 : (Jvm.Cond.instanceMethod ({ cls := "ZoneShelfModel", name := "open", desc := "(IZ)Z" } : Jvm.MethodName)) ∈ zs_w := List.mem_of_getElem? (i := 231) rfl
theorem zq_232 : (Jvm.Cond.selects "ZoneShelfModel" ({ cls := "ZoneShelfModel", name := "open", desc := "(IZ)Z" } : Jvm.MethodName) ({ cls := "ZoneShelfModel", name := "open", desc := "(IZ)Z" } : Jvm.MethodName)) ∈ zs_w := List.mem_of_getElem? (i := 232) rfl
theorem zq_233 : (Jvm.Cond.code ({ cls := "ZoneShelfModel", name := "open", desc := "(IZ)Z" } : Jvm.MethodName) prog_4_method_9_code (3 : Nat) (Option.some Jvm.ClassFile.FieldType.boolean)) ∈ zs_w := List.mem_of_getElem? (i := 233) rfl
theorem zq_234 : (Jvm.Cond.methodLink "ZoneShelfLaw" (37 : Nat) ({ cls := "ZoneShelfModel", name := "remove", desc := "(I)Z" } : Jvm.MethodName)) ∈ zs_w := List.mem_of_getElem? (i := 234) rfl
theorem zq_235 : (Jvm.Cond.instanceMethod ({ cls := "ZoneShelfModel", name := "remove", desc := "(I)Z" } : Jvm.MethodName)) ∈ zs_w := List.mem_of_getElem? (i := 235) rfl
theorem zq_236 : (Jvm.Cond.selects "ZoneShelfModel" ({ cls := "ZoneShelfModel", name := "remove", desc := "(I)Z" } : Jvm.MethodName) ({ cls := "ZoneShelfModel", name := "remove", desc := "(I)Z" } : Jvm.MethodName)) ∈ zs_w := List.mem_of_getElem? (i := 236) rfl
theorem zq_237 : (Jvm.Cond.code ({ cls := "ZoneShelfModel", name := "remove", desc := "(I)Z" } : Jvm.MethodName) prog_4_method_10_code (2 : Nat) (Option.some Jvm.ClassFile.FieldType.boolean)) ∈ zs_w := List.mem_of_getElem? (i := 237) rfl
theorem zq_238 : (Jvm.Cond.methodLink "ZoneShelfLaw" (41 : Nat) ({ cls := "ZoneShelfModel", name := "rename", desc := "(II)Z" } : Jvm.MethodName)) ∈ zs_w := List.mem_of_getElem? (i := 238) rfl
theorem zq_239 : (Jvm.Cond.instanceMethod ({ cls := "ZoneShelfModel", name := "rename", desc := "(II)Z" } : Jvm.MethodName)) ∈ zs_w := List.mem_of_getElem? (i := 239) rfl
theorem zq_240 : (Jvm.Cond.selects "ZoneShelfModel" ({ cls := "ZoneShelfModel", name := "rename", desc := "(II)Z" } : Jvm.MethodName) ({ cls := "ZoneShelfModel", name := "rename", desc := "(II)Z" } : Jvm.MethodName)) ∈ zs_w := List.mem_of_getElem? (i := 240) rfl
theorem zq_241 : (Jvm.Cond.code ({ cls := "ZoneShelfModel", name := "rename", desc := "(II)Z" } : Jvm.MethodName) prog_4_method_11_code (3 : Nat) (Option.some Jvm.ClassFile.FieldType.boolean)) ∈ zs_w := List.mem_of_getElem? (i := 241) rfl
theorem zq_242 : (Jvm.Cond.methodLink "ZoneShelfLaw" (46 : Nat) ({ cls := "ZoneShelfModel", name := "sync", desc := "()Z" } : Jvm.MethodName)) ∈ zs_w := List.mem_of_getElem? (i := 242) rfl
theorem zq_243 : (Jvm.Cond.instanceMethod ({ cls := "ZoneShelfModel", name := "sync", desc := "()Z" } : Jvm.MethodName)) ∈ zs_w := List.mem_of_getElem? (i := 243) rfl
theorem zq_244 : (Jvm.Cond.selects "ZoneShelfModel" ({ cls := "ZoneShelfModel", name := "sync", desc := "()Z" } : Jvm.MethodName) ({ cls := "ZoneShelfModel", name := "sync", desc := "()Z" } : Jvm.MethodName)) ∈ zs_w := List.mem_of_getElem? (i := 244) rfl
theorem zq_245 : (Jvm.Cond.code ({ cls := "ZoneShelfModel", name := "sync", desc := "()Z" } : Jvm.MethodName) prog_4_method_12_code (2 : Nat) (Option.some Jvm.ClassFile.FieldType.boolean)) ∈ zs_w := List.mem_of_getElem? (i := 245) rfl
theorem zq_246 : (Jvm.Cond.methodLink "ZoneShelfLaw" (50 : Nat) ({ cls := "ZoneShelfModel", name := "tear", desc := "()Z" } : Jvm.MethodName)) ∈ zs_w := List.mem_of_getElem? (i := 246) rfl
theorem zq_247 : (Jvm.Cond.instanceMethod ({ cls := "ZoneShelfModel", name := "tear", desc := "()Z" } : Jvm.MethodName)) ∈ zs_w := List.mem_of_getElem? (i := 247) rfl
theorem zq_248 : (Jvm.Cond.selects "ZoneShelfModel" ({ cls := "ZoneShelfModel", name := "tear", desc := "()Z" } : Jvm.MethodName) ({ cls := "ZoneShelfModel", name := "tear", desc := "()Z" } : Jvm.MethodName)) ∈ zs_w := List.mem_of_getElem? (i := 248) rfl
theorem zq_249 : (Jvm.Cond.code ({ cls := "ZoneShelfModel", name := "tear", desc := "()Z" } : Jvm.MethodName) prog_4_method_13_code (1 : Nat) (Option.some Jvm.ClassFile.FieldType.boolean)) ∈ zs_w := List.mem_of_getElem? (i := 249) rfl
theorem zq_250 : (Jvm.Cond.methodLink "ZoneShelfModel" (64 : Nat) ({ cls := "ZoneShelfModel", name := "cut", desc := "()Z" } : Jvm.MethodName)) ∈ zs_w := List.mem_of_getElem? (i := 250) rfl
theorem zq_251 : (Jvm.Cond.instanceMethod ({ cls := "ZoneShelfModel", name := "cut", desc := "()Z" } : Jvm.MethodName)) ∈ zs_w := List.mem_of_getElem? (i := 251) rfl
theorem zq_252 : (Jvm.Cond.selects "ZoneShelfModel" ({ cls := "ZoneShelfModel", name := "cut", desc := "()Z" } : Jvm.MethodName) ({ cls := "ZoneShelfModel", name := "cut", desc := "()Z" } : Jvm.MethodName)) ∈ zs_w := List.mem_of_getElem? (i := 252) rfl
theorem zq_253 : (Jvm.Cond.code ({ cls := "ZoneShelfModel", name := "cut", desc := "()Z" } : Jvm.MethodName) prog_4_method_14_code (2 : Nat) (Option.some Jvm.ClassFile.FieldType.boolean)) ∈ zs_w := List.mem_of_getElem? (i := 253) rfl
theorem zq_254 : (Jvm.Cond.methodLink "ZoneShelfLaw" (54 : Nat) ({ cls := "ZoneShelfModel", name := "cut", desc := "()Z" } : Jvm.MethodName)) ∈ zs_w := List.mem_of_getElem? (i := 254) rfl
theorem zq_255 : (Jvm.Cond.methodLink "ZoneShelfLaw" (58 : Nat) ({ cls := "ZoneShelfModel", name := "mount", desc := "()Z" } : Jvm.MethodName)) ∈ zs_w := List.mem_of_getElem? (i := 255) rfl
theorem zq_256 : (Jvm.Cond.instanceMethod ({ cls := "ZoneShelfModel", name := "mount", desc := "()Z" } : Jvm.MethodName)) ∈ zs_w := List.mem_of_getElem? (i := 256) rfl
theorem zq_257 : (Jvm.Cond.selects "ZoneShelfModel" ({ cls := "ZoneShelfModel", name := "mount", desc := "()Z" } : Jvm.MethodName) ({ cls := "ZoneShelfModel", name := "mount", desc := "()Z" } : Jvm.MethodName)) ∈ zs_w := List.mem_of_getElem? (i := 257) rfl
theorem zq_258 : (Jvm.Cond.code ({ cls := "ZoneShelfModel", name := "mount", desc := "()Z" } : Jvm.MethodName) prog_4_method_15_code (2 : Nat) (Option.some Jvm.ClassFile.FieldType.boolean)) ∈ zs_w := List.mem_of_getElem? (i := 258) rfl
theorem zq_259 : (Jvm.Cond.methodLink "ZoneShelfLaw" (62 : Nat) ({ cls := "ZoneShelfModel", name := "tidy", desc := "()Z" } : Jvm.MethodName)) ∈ zs_w := List.mem_of_getElem? (i := 259) rfl
theorem zq_260 : (Jvm.Cond.instanceMethod ({ cls := "ZoneShelfModel", name := "tidy", desc := "()Z" } : Jvm.MethodName)) ∈ zs_w := List.mem_of_getElem? (i := 260) rfl
theorem zq_261 : (Jvm.Cond.selects "ZoneShelfModel" ({ cls := "ZoneShelfModel", name := "tidy", desc := "()Z" } : Jvm.MethodName) ({ cls := "ZoneShelfModel", name := "tidy", desc := "()Z" } : Jvm.MethodName)) ∈ zs_w := List.mem_of_getElem? (i := 261) rfl
theorem zq_262 : (Jvm.Cond.code ({ cls := "ZoneShelfModel", name := "tidy", desc := "()Z" } : Jvm.MethodName) prog_4_method_16_code (1 : Nat) (Option.some Jvm.ClassFile.FieldType.boolean)) ∈ zs_w := List.mem_of_getElem? (i := 262) rfl
theorem zq_263 : (Jvm.Cond.methodLink "ZoneShelfLaw" (66 : Nat) ({ cls := "ZoneShelfModel", name := "isUp", desc := "()Z" } : Jvm.MethodName)) ∈ zs_w := List.mem_of_getElem? (i := 263) rfl
theorem zq_264 : (Jvm.Cond.instanceMethod ({ cls := "ZoneShelfModel", name := "isUp", desc := "()Z" } : Jvm.MethodName)) ∈ zs_w := List.mem_of_getElem? (i := 264) rfl
theorem zq_265 : (Jvm.Cond.selects "ZoneShelfModel" ({ cls := "ZoneShelfModel", name := "isUp", desc := "()Z" } : Jvm.MethodName) ({ cls := "ZoneShelfModel", name := "isUp", desc := "()Z" } : Jvm.MethodName)) ∈ zs_w := List.mem_of_getElem? (i := 265) rfl
theorem zq_266 : (Jvm.Cond.code ({ cls := "ZoneShelfModel", name := "isUp", desc := "()Z" } : Jvm.MethodName) prog_4_method_17_code (1 : Nat) (Option.some Jvm.ClassFile.FieldType.boolean)) ∈ zs_w := List.mem_of_getElem? (i := 266) rfl
theorem zq_267 : (Jvm.Cond.methodLink "ZoneShelfLaw" (71 : Nat) ({ cls := "ZoneShelfModel", name := "objects", desc := "()I" } : Jvm.MethodName)) ∈ zs_w := List.mem_of_getElem? (i := 267) rfl
theorem zq_268 : (Jvm.Cond.instanceMethod ({ cls := "ZoneShelfModel", name := "objects", desc := "()I" } : Jvm.MethodName)) ∈ zs_w := List.mem_of_getElem? (i := 268) rfl
theorem zq_269 : (Jvm.Cond.selects "ZoneShelfModel" ({ cls := "ZoneShelfModel", name := "objects", desc := "()I" } : Jvm.MethodName) ({ cls := "ZoneShelfModel", name := "objects", desc := "()I" } : Jvm.MethodName)) ∈ zs_w := List.mem_of_getElem? (i := 269) rfl
theorem zq_270 : (Jvm.Cond.code ({ cls := "ZoneShelfModel", name := "objects", desc := "()I" } : Jvm.MethodName) prog_4_method_18_code (3 : Nat) (Option.some Jvm.ClassFile.FieldType.int)) ∈ zs_w := List.mem_of_getElem? (i := 270) rfl
theorem zq_271 : (Jvm.Cond.methodLink "ZoneShelfLaw" (75 : Nat) ({ cls := "ZoneShelfModel", name := "room", desc := "()I" } : Jvm.MethodName)) ∈ zs_w := List.mem_of_getElem? (i := 271) rfl
theorem zq_272 : (Jvm.Cond.instanceMethod ({ cls := "ZoneShelfModel", name := "room", desc := "()I" } : Jvm.MethodName)) ∈ zs_w := List.mem_of_getElem? (i := 272) rfl
theorem zq_273 : (Jvm.Cond.selects "ZoneShelfModel" ({ cls := "ZoneShelfModel", name := "room", desc := "()I" } : Jvm.MethodName) ({ cls := "ZoneShelfModel", name := "room", desc := "()I" } : Jvm.MethodName)) ∈ zs_w := List.mem_of_getElem? (i := 273) rfl
theorem zq_274 : (Jvm.Cond.code ({ cls := "ZoneShelfModel", name := "room", desc := "()I" } : Jvm.MethodName) prog_4_method_19_code (1 : Nat) (Option.some Jvm.ClassFile.FieldType.int)) ∈ zs_w := List.mem_of_getElem? (i := 274) rfl
theorem zq_275 : (Jvm.Cond.methodLink "ZoneShelfLaw" (79 : Nat) ({ cls := "ZoneShelfModel", name := "object", desc := "(II)I" } : Jvm.MethodName)) ∈ zs_w := List.mem_of_getElem? (i := 275) rfl
theorem zq_276 : (Jvm.Cond.instanceMethod ({ cls := "ZoneShelfModel", name := "object", desc := "(II)I" } : Jvm.MethodName)) ∈ zs_w := List.mem_of_getElem? (i := 276) rfl
theorem zq_277 : (Jvm.Cond.selects "ZoneShelfModel" ({ cls := "ZoneShelfModel", name := "object", desc := "(II)I" } : Jvm.MethodName) ({ cls := "ZoneShelfModel", name := "object", desc := "(II)I" } : Jvm.MethodName)) ∈ zs_w := List.mem_of_getElem? (i := 277) rfl
theorem zq_278 : (Jvm.Cond.code ({ cls := "ZoneShelfModel", name := "object", desc := "(II)I" } : Jvm.MethodName) prog_4_method_20_code (3 : Nat) (Option.some Jvm.ClassFile.FieldType.int)) ∈ zs_w := List.mem_of_getElem? (i := 278) rfl
theorem zq_279 : (Jvm.Cond.methodLink "ZoneShelfLaw" (83 : Nat) ({ cls := "ZoneShelfModel", name := "word", desc := "(II)I" } : Jvm.MethodName)) ∈ zs_w := List.mem_of_getElem? (i := 279) rfl
theorem zq_280 : (Jvm.Cond.instanceMethod ({ cls := "ZoneShelfModel", name := "word", desc := "(II)I" } : Jvm.MethodName)) ∈ zs_w := List.mem_of_getElem? (i := 280) rfl
theorem zq_281 : (Jvm.Cond.selects "ZoneShelfModel" ({ cls := "ZoneShelfModel", name := "word", desc := "(II)I" } : Jvm.MethodName) ({ cls := "ZoneShelfModel", name := "word", desc := "(II)I" } : Jvm.MethodName)) ∈ zs_w := List.mem_of_getElem? (i := 281) rfl
theorem zq_282 : (Jvm.Cond.code ({ cls := "ZoneShelfModel", name := "word", desc := "(II)I" } : Jvm.MethodName) prog_4_method_21_code (3 : Nat) (Option.some Jvm.ClassFile.FieldType.int)) ∈ zs_w := List.mem_of_getElem? (i := 282) rfl
theorem zq_283 : (Jvm.Cond.methodLink "ZoneShelfLaw" (88 : Nat) ({ cls := "ZoneShelfModel", name := "find", desc := "(I)I" } : Jvm.MethodName)) ∈ zs_w := List.mem_of_getElem? (i := 283) rfl
theorem zq_284 : (Jvm.Cond.instanceMethod ({ cls := "ZoneShelfModel", name := "find", desc := "(I)I" } : Jvm.MethodName)) ∈ zs_w := List.mem_of_getElem? (i := 284) rfl
theorem zq_285 : (Jvm.Cond.selects "ZoneShelfModel" ({ cls := "ZoneShelfModel", name := "find", desc := "(I)I" } : Jvm.MethodName) ({ cls := "ZoneShelfModel", name := "find", desc := "(I)I" } : Jvm.MethodName)) ∈ zs_w := List.mem_of_getElem? (i := 285) rfl
theorem zq_286 : (Jvm.Cond.code ({ cls := "ZoneShelfModel", name := "find", desc := "(I)I" } : Jvm.MethodName) prog_4_method_22_code (2 : Nat) (Option.some Jvm.ClassFile.FieldType.int)) ∈ zs_w := List.mem_of_getElem? (i := 286) rfl
theorem zq_287 : (Jvm.Cond.methodLink "ZoneShelfLaw" (92 : Nat) ({ cls := "ZoneShelfModel", name := "list", desc := "(I)I" } : Jvm.MethodName)) ∈ zs_w := List.mem_of_getElem? (i := 287) rfl
theorem zq_288 : (Jvm.Cond.instanceMethod ({ cls := "ZoneShelfModel", name := "list", desc := "(I)I" } : Jvm.MethodName)) ∈ zs_w := List.mem_of_getElem? (i := 288) rfl
theorem zq_289 : (Jvm.Cond.selects "ZoneShelfModel" ({ cls := "ZoneShelfModel", name := "list", desc := "(I)I" } : Jvm.MethodName) ({ cls := "ZoneShelfModel", name := "list", desc := "(I)I" } : Jvm.MethodName)) ∈ zs_w := List.mem_of_getElem? (i := 289) rfl
theorem zq_290 : (Jvm.Cond.code ({ cls := "ZoneShelfModel", name := "list", desc := "(I)I" } : Jvm.MethodName) prog_4_method_23_code (5 : Nat) (Option.some Jvm.ClassFile.FieldType.int)) ∈ zs_w := List.mem_of_getElem? (i := 290) rfl
theorem zv_0 : (Jvm.Cond.methodLinkNest "ZoneShelf" (9 : Nat) ({ cls := "ZoneShelf$Contents", name := "<init>", desc := "()V" } : Jvm.MethodName) "ZoneShelf") ∈ zs_n := List.mem_of_getElem? (i := 0) rfl
theorem zv_1 : (Jvm.Cond.fieldLinkNest "ZoneShelf" (60 : Nat) "ZoneShelf$Contents" "names" "[I" "ZoneShelf") ∈ zs_n := List.mem_of_getElem? (i := 1) rfl
theorem zv_2 : (Jvm.Cond.fieldLinkNest "ZoneShelf" (78 : Nat) "ZoneShelf$Contents" "hints" "[I" "ZoneShelf") ∈ zs_n := List.mem_of_getElem? (i := 2) rfl
theorem zv_3 : (Jvm.Cond.fieldLinkNest "ZoneShelf" (81 : Nat) "ZoneShelf$Contents" "lengths" "[I" "ZoneShelf") ∈ zs_n := List.mem_of_getElem? (i := 3) rfl
theorem zv_4 : (Jvm.Cond.fieldLinkNest "ZoneShelf" (45 : Nat) "ZoneShelf$Contents" "opened" "[Z" "ZoneShelf") ∈ zs_n := List.mem_of_getElem? (i := 4) rfl
theorem zv_5 : (Jvm.Cond.fieldLinkNest "ZoneShelf" (84 : Nat) "ZoneShelf$Contents" "words" "[I" "ZoneShelf") ∈ zs_n := List.mem_of_getElem? (i := 5) rfl
theorem zv_6 : (Jvm.Cond.methodLinkNest "ZoneShelf" (90 : Nat) ({ cls := "ZoneShelf$Contents", name := "numberOf", desc := "(I)I" } : Jvm.MethodName) "ZoneShelf") ∈ zs_n := List.mem_of_getElem? (i := 6) rfl
theorem zv_7 : (Jvm.Cond.methodLinkNest "ZoneShelf" (30 : Nat) ({ cls := "ZoneShelf$Contents", name := "leastFreeNumber", desc := "()I" } : Jvm.MethodName) "ZoneShelf") ∈ zs_n := List.mem_of_getElem? (i := 7) rfl
theorem zv_8 : (Jvm.Cond.methodLinkNest "ZoneShelf" (34 : Nat) ({ cls := "ZoneShelf$Contents", name := "place", desc := "(III)V" } : Jvm.MethodName) "ZoneShelf") ∈ zs_n := List.mem_of_getElem? (i := 8) rfl
theorem zv_9 : (Jvm.Cond.methodLinkNest "ZoneShelf" (96 : Nat) ({ cls := "ZoneShelf$Contents", name := "isTaken", desc := "(I)Z" } : Jvm.MethodName) "ZoneShelf") ∈ zs_n := List.mem_of_getElem? (i := 9) rfl
theorem zv_10 : (Jvm.Cond.methodLinkNest "ZoneShelf" (75 : Nat) ({ cls := "ZoneShelf$Contents", name := "countWords", desc := "()I" } : Jvm.MethodName) "ZoneShelf") ∈ zs_n := List.mem_of_getElem? (i := 10) rfl
theorem zv_11 : (Jvm.Cond.methodLinkNest "ZoneShelf" (53 : Nat) ({ cls := "ZoneShelf$Contents", name := "addRow", desc := "(III)V" } : Jvm.MethodName) "ZoneShelf") ∈ zs_n := List.mem_of_getElem? (i := 11) rfl
theorem zv_12 : (Jvm.Cond.methodLinkNest "ZoneShelf" (56 : Nat) ({ cls := "ZoneShelf$Contents", name := "takeAway", desc := "(I)V" } : Jvm.MethodName) "ZoneShelf") ∈ zs_n := List.mem_of_getElem? (i := 12) rfl
theorem zv_13 : (Jvm.Cond.methodLinkNest "ZoneShelf" (64 : Nat) ({ cls := "ZoneShelf$Contents", name := "copyFrom", desc := "(LZoneShelf$Contents;)V" } : Jvm.MethodName) "ZoneShelf") ∈ zs_n := List.mem_of_getElem? (i := 13) rfl
theorem zv_14 : (Jvm.Cond.methodLinkNest "ZoneShelf" (72 : Nat) ({ cls := "ZoneShelf$Contents", name := "countObjects", desc := "()I" } : Jvm.MethodName) "ZoneShelf") ∈ zs_n := List.mem_of_getElem? (i := 14) rfl
theorem zv_15 : (Jvm.Cond.methodLinkNest "ZoneShelf" (93 : Nat) ({ cls := "ZoneShelf$Contents", name := "numberAtRank", desc := "(I)I" } : Jvm.MethodName) "ZoneShelf") ∈ zs_n := List.mem_of_getElem? (i := 15) rfl
theorem zs_in_X : ∀ w ∈ u_ws "ZoneShelf" zs_T_X 3, w ∈ zs_w := by decide +kernel
theorem zs_tok_X : ∀ k, k < 3 → parseFieldDescriptor (zs_T_X k).2.2.1 = some (zs_t_X k) := by decide +kernel
theorem zs_nok_X : ∀ a, a < 3 → ∀ b, b < 3 → a ≠ b → (zs_T_X a).2.1 ≠ (zs_T_X b).2.1 := by decide +kernel
theorem zs_in_C : ∀ w ∈ u_ws "ZoneShelf$Contents" zs_T_C 5, w ∈ zs_w := by decide +kernel
theorem zs_tok_C : ∀ k, k < 5 → parseFieldDescriptor (zs_T_C k).2.2.1 = some (zs_t_C k) := by decide +kernel
theorem zs_nok_C : ∀ a, a < 5 → ∀ b, b < 5 → a ≠ b → (zs_T_C a).2.1 ≠ (zs_T_C b).2.1 := by decide +kernel
theorem zs_in_M : ∀ w ∈ u_ws "ZoneShelfModel" zs_T_M 11, w ∈ zs_w := by decide +kernel
theorem zs_tok_M : ∀ k, k < 11 → parseFieldDescriptor (zs_T_M k).2.2.1 = some (zs_t_M k) := by decide +kernel
theorem zs_nok_M : ∀ a, a < 11 → ∀ b, b < 11 → a ≠ b → (zs_T_M a).2.1 ≠ (zs_T_M b).2.1 := by decide +kernel
def zs_wi : List Nat := [0, 1, 2, 3, 4, 5, 6, 7, 8, 9, 10, 11, 12, 13, 14, 15, 16, 17, 18, 19, 20, 21, 22, 23, 24, 25, 26, 27, 28, 29, 30, 31, 32, 33, 35, 36, 37, 38, 39, 40, 41, 43, 45, 47, 49, 51, 53, 55, 57, 59, 62, 63, 64, 65, 66, 67, 69, 71, 74, 75, 76, 77, 78, 80, 81, 82, 83, 84, 87, 88, 89, 90, 91, 94, 95, 96, 98, 99, 102, 103, 104, 105, 106, 107, 108, 109, 110, 111, 112, 114, 115, 117, 119, 120, 123, 124, 125, 126, 127, 130, 131, 132, 133, 134, 135, 136, 137, 138, 139, 140, 143, 144, 145, 146, 147, 148, 149, 150, 151, 152, 155, 156, 157, 158, 159, 160, 161, 162, 163, 164, 165, 166, 167, 168, 169, 170, 171, 172, 173, 174, 175, 176, 177, 178, 179, 180, 181, 182, 183, 184, 187, 188, 189, 190, 191, 192, 193, 194, 195, 196, 197, 198, 199, 200, 201, 202, 203, 204, 205, 206, 207, 208, 211, 212, 213, 215, 216, 217, 218, 219, 220, 221, 222, 223, 224, 225, 226, 227, 228, 229, 230, 231, 232, 233, 234, 236, 238, 240, 242, 244, 246, 248, 250, 252, 254, 257, 258, 259, 260, 261, 262, 263, 264, 266, 267, 268, 270, 271, 272, 273, 274, 275, 276, 277, 278, 279, 280, 282, 283, 284, 285, 286, 287, 288, 289, 290, 291, 292, 293, 294, 295, 296, 297, 298, 299, 300, 301, 302, 303, 304, 305, 306, 307, 308, 309, 310, 311, 312, 313, 314, 315, 316, 317, 318, 319, 320, 321, 322, 323, 324, 325, 326, 327, 328, 329, 330, 331, 332, 333, 334, 335, 336, 337, 338, 339, 340, 341, 342, 343, 344, 345]
def zs_ni : List Nat := [34, 42, 44, 46, 48, 50, 85, 92, 100, 116, 121, 128, 141, 153, 185, 209]
set_option maxRecDepth 100000 in
theorem zs_wi_ok : zs_wi.filterMap (fun i => lw_tbl[i]?) = zs_w := by rfl
set_option maxRecDepth 100000 in
theorem zs_ni_ok : zs_ni.filterMap (fun i => lw_tbl[i]?) = zs_n := by rfl
theorem zs_w_tbl : ∀ w ∈ zs_w, w ∈ lw_tbl := by
  intro w hw
  rw [← zs_wi_ok] at hw
  obtain ⟨i, -, hi⟩ := List.mem_filterMap.mp hw
  exact List.mem_of_getElem? hi
theorem zs_n_tbl : ∀ w ∈ zs_n, w ∈ lw_tbl := by
  intro w hw
  rw [← zs_ni_ok] at hw
  obtain ⟨i, -, hi⟩ := List.mem_filterMap.mp hw
  exact List.mem_of_getElem? hi
end
section
/-- what a callee's own words say -/
def zs_f (y : MethodName) (bytes : ByteArray) (maxL : Nat) (ret : Option FieldType) (n : Nat) : Prop := Cond.code y bytes maxL ret ∈ zs_w ∧ Cond.initialized y.cls ∈ zs_w ∧ (y.cls ≠ "java/lang/invoke/MethodHandle" ∧ y.cls ≠ "java/lang/invoke/VarHandle" ∧ (parseMethodDescriptor y.desc).map (fun d => d.parameters.length) = some n)
theorem zf_X_init : zs_f zy_X_init zb_X_init 1 none 0 := ⟨zq_28, zq_18, by decide +kernel, by decide +kernel, by decide +kernel⟩
theorem zf_C_init : zs_f zy_C_init zb_C_init 1 none 0 := ⟨zq_35, zq_19, by decide +kernel, by decide +kernel, by decide +kernel⟩
theorem zf_J_fill : zs_f zy_J_fill zb_J_fill 4 none 2 := ⟨zq_39, zq_20, by decide +kernel, by decide +kernel, by decide +kernel⟩
theorem zf_X_create : zs_f zy_X_create zb_X_create 4 (some .int) 2 := ⟨zq_61, zq_18, by decide +kernel, by decide +kernel, by decide +kernel⟩
theorem zf_X_isFreeName : zs_f zy_X_isFreeName zb_X_isFreeName 2 (some .boolean) 1 := ⟨zq_64, zq_18, by decide +kernel, by decide +kernel, by decide +kernel⟩
theorem zf_X_isName : zs_f zy_X_isName zb_X_isName 1 (some .boolean) 1 := ⟨zq_67, zq_18, by decide +kernel, by decide +kernel, by decide +kernel⟩
theorem zf_C_numberOf : zs_f zy_C_numberOf zb_C_numberOf 3 (some .int) 1 := ⟨zq_69, zq_19, by decide +kernel, by decide +kernel, by decide +kernel⟩
theorem zf_X_isHint : zs_f zy_X_isHint zb_X_isHint 1 (some .boolean) 1 := ⟨zq_72, zq_18, by decide +kernel, by decide +kernel, by decide +kernel⟩
theorem zf_C_leastFreeNumber : zs_f zy_C_leastFreeNumber zb_C_leastFreeNumber 2 (some .int) 0 := ⟨zq_74, zq_19, by decide +kernel, by decide +kernel, by decide +kernel⟩
theorem zf_C_isTaken : zs_f zy_C_isTaken zb_C_isTaken 2 (some .boolean) 1 := ⟨zq_77, zq_19, by decide +kernel, by decide +kernel, by decide +kernel⟩
theorem zf_C_place : zs_f zy_C_place zb_C_place 4 none 3 := ⟨zq_79, zq_19, by decide +kernel, by decide +kernel, by decide +kernel⟩
theorem zf_X_append : zs_f zy_X_append zb_X_append 3 (some .boolean) 2 := ⟨zq_83, zq_18, by decide +kernel, by decide +kernel, by decide +kernel⟩
theorem zf_X_appendRow : zs_f zy_X_appendRow zb_X_appendRow 4 (some .boolean) 3 := ⟨zq_87, zq_18, by decide +kernel, by decide +kernel, by decide +kernel⟩
theorem zf_X_isThere : zs_f zy_X_isThere zb_X_isThere 2 (some .boolean) 1 := ⟨zq_90, zq_18, by decide +kernel, by decide +kernel, by decide +kernel⟩
theorem zf_X_roomIn : zs_f zy_X_roomIn zb_X_roomIn 2 (some .int) 1 := ⟨zq_93, zq_18, by decide +kernel, by decide +kernel, by decide +kernel⟩
theorem zf_C_countWords : zs_f zy_C_countWords zb_C_countWords 3 (some .int) 0 := ⟨zq_95, zq_19, by decide +kernel, by decide +kernel, by decide +kernel⟩
theorem zf_C_addRow : zs_f zy_C_addRow zb_C_addRow 6 none 3 := ⟨zq_100, zq_19, by decide +kernel, by decide +kernel, by decide +kernel⟩
theorem zf_X_open : zs_f zy_X_open zb_X_open 3 (some .boolean) 2 := ⟨zq_105, zq_18, by decide +kernel, by decide +kernel, by decide +kernel⟩
theorem zf_X_remove : zs_f zy_X_remove zb_X_remove 2 (some .boolean) 1 := ⟨zq_109, zq_18, by decide +kernel, by decide +kernel, by decide +kernel⟩
theorem zf_C_takeAway : zs_f zy_C_takeAway zb_C_takeAway 2 none 1 := ⟨zq_111, zq_19, by decide +kernel, by decide +kernel, by decide +kernel⟩
theorem zf_X_rename : zs_f zy_X_rename zb_X_rename 3 (some .boolean) 2 := ⟨zq_115, zq_18, by decide +kernel, by decide +kernel, by decide +kernel⟩
theorem zf_X_sync : zs_f zy_X_sync zb_X_sync 1 (some .boolean) 0 := ⟨zq_119, zq_18, by decide +kernel, by decide +kernel, by decide +kernel⟩
theorem zf_C_copyFrom : zs_f zy_C_copyFrom zb_C_copyFrom 3 none 1 := ⟨zq_121, zq_19, by decide +kernel, by decide +kernel, by decide +kernel⟩
theorem zf_X_tear : zs_f zy_X_tear zb_X_tear 1 (some .boolean) 0 := ⟨zq_128, zq_18, by decide +kernel, by decide +kernel, by decide +kernel⟩
theorem zf_X_cut : zs_f zy_X_cut zb_X_cut 1 (some .boolean) 0 := ⟨zq_132, zq_18, by decide +kernel, by decide +kernel, by decide +kernel⟩
theorem zf_X_mount : zs_f zy_X_mount zb_X_mount 1 (some .boolean) 0 := ⟨zq_137, zq_18, by decide +kernel, by decide +kernel, by decide +kernel⟩
theorem zf_X_tidy : zs_f zy_X_tidy zb_X_tidy 1 (some .boolean) 0 := ⟨zq_141, zq_18, by decide +kernel, by decide +kernel, by decide +kernel⟩
theorem zf_X_isUp : zs_f zy_X_isUp zb_X_isUp 1 (some .boolean) 0 := ⟨zq_145, zq_18, by decide +kernel, by decide +kernel, by decide +kernel⟩
theorem zf_X_objects : zs_f zy_X_objects zb_X_objects 1 (some .int) 0 := ⟨zq_149, zq_18, by decide +kernel, by decide +kernel, by decide +kernel⟩
theorem zf_C_countObjects : zs_f zy_C_countObjects zb_C_countObjects 3 (some .int) 0 := ⟨zq_151, zq_19, by decide +kernel, by decide +kernel, by decide +kernel⟩
theorem zf_X_room : zs_f zy_X_room zb_X_room 1 (some .int) 0 := ⟨zq_155, zq_18, by decide +kernel, by decide +kernel, by decide +kernel⟩
theorem zf_X_object : zs_f zy_X_object zb_X_object 3 (some .int) 2 := ⟨zq_159, zq_18, by decide +kernel, by decide +kernel, by decide +kernel⟩
theorem zf_X_word : zs_f zy_X_word zb_X_word 3 (some .int) 2 := ⟨zq_163, zq_18, by decide +kernel, by decide +kernel, by decide +kernel⟩
theorem zf_X_find : zs_f zy_X_find zb_X_find 2 (some .int) 1 := ⟨zq_167, zq_18, by decide +kernel, by decide +kernel, by decide +kernel⟩
theorem zf_X_list : zs_f zy_X_list zb_X_list 2 (some .int) 1 := ⟨zq_171, zq_18, by decide +kernel, by decide +kernel, by decide +kernel⟩
theorem zf_C_numberAtRank : zs_f zy_C_numberAtRank zb_C_numberAtRank 3 (some .int) 1 := ⟨zq_173, zq_19, by decide +kernel, by decide +kernel, by decide +kernel⟩
theorem zf_C_countNamesBelow : zs_f zy_C_countNamesBelow zb_C_countNamesBelow 4 (some .int) 1 := ⟨zq_176, zq_19, by decide +kernel, by decide +kernel, by decide +kernel⟩
theorem zf_M_init : zs_f zy_M_init zb_M_init 1 none 0 := ⟨zq_181, zq_21, by decide +kernel, by decide +kernel, by decide +kernel⟩
theorem zf_M_create : zs_f zy_M_create zb_M_create 4 (some .int) 2 := ⟨zq_208, zq_21, by decide +kernel, by decide +kernel, by decide +kernel⟩
theorem zf_M_isName : zs_f zy_M_isName zb_M_isName 1 (some .boolean) 1 := ⟨zq_211, zq_21, by decide +kernel, by decide +kernel, by decide +kernel⟩
theorem zf_M_named : zs_f zy_M_named zb_M_named 4 (some .int) 1 := ⟨zq_214, zq_21, by decide +kernel, by decide +kernel, by decide +kernel⟩
theorem zf_M_is : zs_f zy_M_is zb_M_is 2 (some .boolean) 1 := ⟨zq_217, zq_21, by decide +kernel, by decide +kernel, by decide +kernel⟩
theorem zf_M_append : zs_f zy_M_append zb_M_append 3 (some .boolean) 2 := ⟨zq_221, zq_21, by decide +kernel, by decide +kernel, by decide +kernel⟩
theorem zf_M_appendRow : zs_f zy_M_appendRow zb_M_appendRow 5 (some .boolean) 3 := ⟨zq_225, zq_21, by decide +kernel, by decide +kernel, by decide +kernel⟩
theorem zf_M_left : zs_f zy_M_left zb_M_left 3 (some .int) 0 := ⟨zq_228, zq_21, by decide +kernel, by decide +kernel, by decide +kernel⟩
theorem zf_M_open : zs_f zy_M_open zb_M_open 3 (some .boolean) 2 := ⟨zq_233, zq_21, by decide +kernel, by decide +kernel, by decide +kernel⟩
theorem zf_M_remove : zs_f zy_M_remove zb_M_remove 2 (some .boolean) 1 := ⟨zq_237, zq_21, by decide +kernel, by decide +kernel, by decide +kernel⟩
theorem zf_M_rename : zs_f zy_M_rename zb_M_rename 3 (some .boolean) 2 := ⟨zq_241, zq_21, by decide +kernel, by decide +kernel, by decide +kernel⟩
theorem zf_M_sync : zs_f zy_M_sync zb_M_sync 2 (some .boolean) 0 := ⟨zq_245, zq_21, by decide +kernel, by decide +kernel, by decide +kernel⟩
theorem zf_M_tear : zs_f zy_M_tear zb_M_tear 1 (some .boolean) 0 := ⟨zq_249, zq_21, by decide +kernel, by decide +kernel, by decide +kernel⟩
theorem zf_M_cut : zs_f zy_M_cut zb_M_cut 2 (some .boolean) 0 := ⟨zq_253, zq_21, by decide +kernel, by decide +kernel, by decide +kernel⟩
theorem zf_M_mount : zs_f zy_M_mount zb_M_mount 2 (some .boolean) 0 := ⟨zq_258, zq_21, by decide +kernel, by decide +kernel, by decide +kernel⟩
theorem zf_M_tidy : zs_f zy_M_tidy zb_M_tidy 1 (some .boolean) 0 := ⟨zq_262, zq_21, by decide +kernel, by decide +kernel, by decide +kernel⟩
theorem zf_M_isUp : zs_f zy_M_isUp zb_M_isUp 1 (some .boolean) 0 := ⟨zq_266, zq_21, by decide +kernel, by decide +kernel, by decide +kernel⟩
theorem zf_M_objects : zs_f zy_M_objects zb_M_objects 3 (some .int) 0 := ⟨zq_270, zq_21, by decide +kernel, by decide +kernel, by decide +kernel⟩
theorem zf_M_room : zs_f zy_M_room zb_M_room 1 (some .int) 0 := ⟨zq_274, zq_21, by decide +kernel, by decide +kernel, by decide +kernel⟩
theorem zf_M_object : zs_f zy_M_object zb_M_object 3 (some .int) 2 := ⟨zq_278, zq_21, by decide +kernel, by decide +kernel, by decide +kernel⟩
theorem zf_M_word : zs_f zy_M_word zb_M_word 3 (some .int) 2 := ⟨zq_282, zq_21, by decide +kernel, by decide +kernel, by decide +kernel⟩
theorem zf_M_find : zs_f zy_M_find zb_M_find 2 (some .int) 1 := ⟨zq_286, zq_21, by decide +kernel, by decide +kernel, by decide +kernel⟩
theorem zf_M_list : zs_f zy_M_list zb_M_list 5 (some .int) 1 := ⟨zq_290, zq_21, by decide +kernel, by decide +kernel, by decide +kernel⟩
end
section
/-! What a state of either side is: the power, the current contents, the contents at the latest sync. Contents: names, hints, lengths, opened, words (24 objects, rows of 64 words). -/
abbrev zs_F : Type := Nat → Int32
abbrev zs_C : Type := zs_F × zs_F × zs_F × zs_F × zs_F
abbrev zs_X : Type := Bool × zs_C × zs_C
def zs_b (b : Bool) : Int32 := if b = true then 1 else 0
theorem zs_b_t : zs_b true = 1 := rfl
theorem zs_b_f : zs_b false = 0 := rfl
theorem zs_b_0 {b : Bool} (h : zs_b b = 0) : b = false := by
  cases b
  · rfl
  · exact absurd h (by decide)
theorem zs_b_1 {b : Bool} (h : ¬ zs_b b = 0) : b = true := by
  cases b
  · exact absurd rfl h
  · rfl
theorem zs_b_n (b : Bool) : narrow .boolean (.int (zs_b b)) = .int (zs_b b) := by
  cases b <;> rfl
theorem zs_b_fit (b : Bool) : fits .boolean (.int (zs_b b)) = true := by
  cases b <;> rfl
theorem zs_inc (i : Nat) : nI i + Int32.ofInt 1 = nI (i + 1) := by
  rw [show Int32.ofInt 1 = 1 from by decide]
  exact nI_1 i
theorem zs_inc1 (x : Int32) : x + Int32.ofInt 1 = x + 1 := by
  rw [show Int32.ofInt 1 = 1 from by decide]
/-! the class's own methods, as functions -/
def zs_t (nm : zs_F) (j : Nat) : Bool := !decide (nm j = -1)
def zs_free (nm : zs_F) : Nat → Nat → Int32
  | 0, _ => -1
  | k + 1, i => if zs_t nm i = true then zs_free nm k (i + 1) else nI i
def zs_num (nm : zs_F) (x : Int32) : Nat → Nat → Int32
  | 0, _ => -1
  | k + 1, i => if nm i = x then nI i else zs_num nm x k (i + 1)
def zs_below (nm : zs_F) (x : Int32) : Nat → Nat → Int32 → Int32
  | 0, _, a => a
  | k + 1, i, a => zs_below nm x k (i + 1) (if zs_t nm i = true ∧ ¬ x ≤ nm i then a + 1 else a)
def zs_rank (nm : zs_F) (x : Int32) : Nat → Nat → Int32
  | 0, _ => -1
  | k + 1, i => if zs_t nm i = true ∧ zs_below nm (nm i) 24 0 0 = x then nI i else zs_rank nm x k (i + 1)
def zs_cnt (nm : zs_F) : Nat → Nat → Int32 → Int32
  | 0, _, a => a
  | k + 1, i, a => zs_cnt nm k (i + 1) (if zs_t nm i = true then a + 1 else a)
def zs_sum (ln : zs_F) : Nat → Nat → Int32 → Int32
  | 0, _, a => a
  | k + 1, i, a => zs_sum ln k (i + 1) (a + ln i)
def zs_row (wd : zs_F) (st : Nat) (fi : Int32) : Nat → zs_F
  | 0 => wd
  | i + 1 => upd (zs_row wd st fi i) (st + i) (fi + nI i)
def zs_cp (f g : zs_F) (i : Nat) : zs_F := fun j => if j < i then f j else g j
def zs_cz (f g : zs_F) (i : Nat) : zs_F := fun j => if j < i then vp_nar .boolean (f j) else g j
def zs_fl (f : zs_F) (x : Int32) (i : Nat) : zs_F := fun j => if j < i then x else f j
theorem zs_cp_0 (f g : zs_F) : zs_cp f g 0 = g := by
  funext j
  simp [zs_cp]
theorem zs_cz_0 (f g : zs_F) : zs_cz f g 0 = g := by
  funext j
  simp [zs_cz]
theorem zs_fl_0 (f : zs_F) (x : Int32) : zs_fl f x 0 = f := by
  funext j
  simp [zs_fl]
theorem zs_cp_s (f g : zs_F) (i : Nat) : upd (zs_cp f g i) i (f i) = zs_cp f g (i + 1) := by
  funext j
  simp only [upd, zs_cp]
  by_cases h : j = i
  · subst h
    simp
  · by_cases h2 : j < i
    · simp [h, h2, Nat.lt_succ_of_lt h2]
    · simp [h, h2, show ¬ j < i + 1 by omega]
theorem zs_cz_s (f g : zs_F) (i : Nat) : upd (zs_cz f g i) i (vp_nar .boolean (f i)) = zs_cz f g (i + 1) := by
  funext j
  simp only [upd, zs_cz]
  by_cases h : j = i
  · subst h
    simp
  · by_cases h2 : j < i
    · simp [h, h2, Nat.lt_succ_of_lt h2]
    · simp [h, h2, show ¬ j < i + 1 by omega]
theorem zs_fl_s (f : zs_F) (x : Int32) (i : Nat) : upd (zs_fl f x i) i x = zs_fl f x (i + 1) := by
  funext j
  simp only [upd, zs_fl]
  by_cases h : j = i
  · subst h
    simp
  · by_cases h2 : j < i
    · simp [h, h2, Nat.lt_succ_of_lt h2]
    · simp [h, h2, show ¬ j < i + 1 by omega]
def zs_is (up : Bool) (nm : zs_F) (n : Int32) : Bool := up && (!decide (n < 0) && (!decide (24 ≤ n) && zs_t nm n.toNatClampNeg))
def zs_nam (n : Int32) : Bool := !decide (n < 0) && !decide (9999 < n)
def zs_hin (n : Int32) : Bool := !decide (n < 0) && !decide (3 < n)
def zs_fr (nm : zs_F) (n : Int32) : Bool := zs_nam n && decide (zs_num nm n 24 0 = -1)
def zs_rm (ln : zs_F) (j : Nat) : Int32 := if 200 - zs_sum ln 24 0 0 < 64 - ln j then 200 - zs_sum ln 24 0 0 else 64 - ln j
def zs_create (u : zs_X) (n h : Int32) : Int32 × zs_X :=
  if (u.1 && (zs_fr u.2.1.1 n && zs_hin h)) = true then
    (if zs_free u.2.1.1 24 0 = -1 then (-1, u) else
      (zs_free u.2.1.1 24 0, u.1, (upd u.2.1.1 (zs_free u.2.1.1 24 0).toNatClampNeg n, upd u.2.1.2.1 (zs_free u.2.1.1 24 0).toNatClampNeg h, u.2.1.2.2.1, upd u.2.1.2.2.2.1 (zs_free u.2.1.1 24 0).toNatClampNeg (vp_nar .boolean 1), u.2.1.2.2.2.2), u.2.2))
  else (-1, u)
def zs_okr (u : zs_X) (o k : Int32) : Bool := zs_is u.1 u.2.1.1 o && (!decide (u.2.1.2.2.2.1 o.toNatClampNeg = 0) && (!decide (k < 1) && decide (k ≤ zs_rm u.2.1.2.2.1 o.toNatClampNeg)))
def zs_appendRow (u : zs_X) (o w k : Int32) : Int32 × zs_X :=
  if zs_okr u o k = true then
    (1, u.1, (u.2.1.1, u.2.1.2.1, upd u.2.1.2.2.1 o.toNatClampNeg (nI ((u.2.1.2.2.1 o.toNatClampNeg).toNatClampNeg + k.toNatClampNeg)), u.2.1.2.2.2.1, zs_row u.2.1.2.2.2.2 (o.toNatClampNeg * 64 + (u.2.1.2.2.1 o.toNatClampNeg).toNatClampNeg) w k.toNatClampNeg), u.2.2)
  else (0, u)
def zs_open (u : zs_X) (o b : Int32) : Int32 × zs_X :=
  if zs_is u.1 u.2.1.1 o = true then (1, u.1, (u.2.1.1, u.2.1.2.1, u.2.1.2.2.1, upd u.2.1.2.2.2.1 o.toNatClampNeg (vp_nar .boolean b), u.2.1.2.2.2.2), u.2.2) else (0, u)
def zs_remove (u : zs_X) (o : Int32) : Int32 × zs_X :=
  if zs_is u.1 u.2.1.1 o = true then (1, u.1, (upd u.2.1.1 o.toNatClampNeg (-1), u.2.1.2.1, upd u.2.1.2.2.1 o.toNatClampNeg 0, u.2.1.2.2.2.1, u.2.1.2.2.2.2), u.2.2) else (0, u)
def zs_rename (u : zs_X) (o n : Int32) : Int32 × zs_X :=
  if (zs_is u.1 u.2.1.1 o && zs_fr u.2.1.1 n) = true then (1, u.1, (upd u.2.1.1 o.toNatClampNeg n, u.2.1.2.1, u.2.1.2.2.1, u.2.1.2.2.2.1, u.2.1.2.2.2.2), u.2.2) else (0, u)
/-- s copied over d: the class copies the words by System.arraycopy -/
def zs_copy (s d : zs_C) : zs_C := (zs_cp s.1 d.1 24, zs_cp s.2.1 d.2.1 24, zs_cp s.2.2.1 d.2.2.1 24, zs_cz s.2.2.2.1 d.2.2.2.1 24, va_cpy s.2.2.2.2 d.2.2.2.2 0 0 1536)
def zs_sync (u : zs_X) : Int32 × zs_X := if u.1 = true then (1, u.1, u.2.1, zs_copy u.2.1 u.2.2) else (0, u)
def zs_cut (u : zs_X) : Int32 × zs_X := if u.1 = true then (1, false, u.2.1, u.2.2) else (0, u)
def zs_mount (u : zs_X) : Int32 × zs_X := if u.1 = true then (0, u) else (1, true, zs_copy u.2.2 u.2.1, u.2.2)
def zs_objects (u : zs_X) : Int32 := if u.1 = true then zs_cnt u.2.1.1 24 0 0 else 0
def zs_room (u : zs_X) : Int32 := if u.1 = true then 200 - zs_sum u.2.1.2.2.1 24 0 0 else 0
def zs_object (u : zs_X) (o w : Int32) : Int32 :=
  if zs_is u.1 u.2.1.1 o = true then (if w = 0 then u.2.1.1 o.toNatClampNeg else if w = 1 then u.2.1.2.1 o.toNatClampNeg else if w = 2 then u.2.1.2.2.1 o.toNatClampNeg else if w = 3 then (if u.2.1.2.2.2.1 o.toNatClampNeg = 0 then 0 else 1) else -1) else -1
def zs_word (u : zs_X) (o i : Int32) : Int32 :=
  if zs_is u.1 u.2.1.1 o = true ∧ ¬ i < 0 ∧ i < u.2.1.2.2.1 o.toNatClampNeg then u.2.1.2.2.2.2 (o.toNatClampNeg * 64 + i.toNatClampNeg) else 0
def zs_find (u : zs_X) (n : Int32) : Int32 := if (u.1 && zs_nam n) = true then zs_num u.2.1.1 n 24 0 else -1
def zs_list (u : zs_X) (k : Int32) : Int32 := if u.1 = true then zs_rank u.2.1.1 k 24 0 else -1
/-! the reference's methods, as functions -/
def zm_is (up : Bool) (nm : zs_F) (n : Int32) : Bool := up && (!decide (n < 0) && (!decide (24 ≤ n) && !decide (nm n.toNatClampNeg ≤ 0)))
def zm_at (up : Bool) (nm : zs_F) (i : Nat) : Bool := up && !decide (nm i ≤ 0)
def zm_num (up : Bool) (nm : zs_F) (x : Int32) : Nat → Nat → Int32 → Int32
  | 0, _, a => a
  | k + 1, i, a => zm_num up nm x k (i + 1) (if zs_nam x = true ∧ zm_at up nm i = true ∧ nm i = x + 1 then nI i else a)
def zm_left (nm ln : zs_F) : Nat → Nat → Int32 → Int32
  | 0, _, a => a
  | k + 1, i, a => zm_left nm ln k (i + 1) (a - (if nm i ≤ 0 then 0 else ln i))
/-- the place of the first free number, 24 if there is none -/
def zm_free (nm : zs_F) : Nat → Nat → Nat
  | 0, i => i
  | k + 1, i => if nm i ≤ 0 then i else zm_free nm k (i + 1)
def zm_cnt (up : Bool) (nm : zs_F) : Nat → Nat → Int32 → Int32
  | 0, _, a => a
  | k + 1, i, a => zm_cnt up nm k (i + 1) (a + (if zm_at up nm i = true then 1 else 0))
def zm_below (up : Bool) (nm : zs_F) (x : Int32) : Nat → Nat → Int32 → Int32
  | 0, _, a => a
  | k + 1, i, a => zm_below up nm x k (i + 1) (a + (if zm_at up nm i = true ∧ ¬ x ≤ nm i then 1 else 0))
def zm_rank (up : Bool) (nm : zs_F) (x : Int32) : Nat → Nat → Int32
  | 0, _ => -1
  | k + 1, i => if zm_at up nm i = true ∧ zm_below up nm (nm i) 24 0 0 = x then nI i else zm_rank up nm x k (i + 1)
def zm_create (u : zs_X) (n h : Int32) : Int32 × zs_X :=
  if u.1 = true ∧ zs_nam n = true ∧ ¬ h < 0 ∧ ¬ 3 < h ∧ zm_num u.1 u.2.1.1 n 24 0 (-1) = -1 then
    (if zm_free u.2.1.1 24 0 = 24 then (-1, u) else
      (nI (zm_free u.2.1.1 24 0), u.1, (upd u.2.1.1 (zm_free u.2.1.1 24 0) (n + 1), upd u.2.1.2.1 (zm_free u.2.1.1 24 0) h, upd u.2.1.2.2.1 (zm_free u.2.1.1 24 0) 0, upd u.2.1.2.2.2.1 (zm_free u.2.1.1 24 0) (vp_nar .boolean 1), u.2.1.2.2.2.2), u.2.2))
  else (-1, u)
def zm_okr (u : zs_X) (o k : Int32) : Bool := zm_is u.1 u.2.1.1 o && (!decide (u.2.1.2.2.2.1 o.toNatClampNeg = 0) && (!decide (k < 1) && (!decide (64 - u.2.1.2.2.1 o.toNatClampNeg < k) && decide (k ≤ zm_left u.2.1.1 u.2.1.2.2.1 24 0 200))))
def zm_appendRow (u : zs_X) (o w k : Int32) : Int32 × zs_X :=
  if zm_okr u o k = true then
    (1, u.1, (u.2.1.1, u.2.1.2.1, upd u.2.1.2.2.1 o.toNatClampNeg (nI ((u.2.1.2.2.1 o.toNatClampNeg).toNatClampNeg + k.toNatClampNeg)), u.2.1.2.2.2.1, zs_row u.2.1.2.2.2.2 (o.toNatClampNeg * 64 + (u.2.1.2.2.1 o.toNatClampNeg).toNatClampNeg) w k.toNatClampNeg), u.2.2)
  else (0, u)
def zm_open (u : zs_X) (o b : Int32) : Int32 × zs_X :=
  if zm_is u.1 u.2.1.1 o = true then (1, u.1, (u.2.1.1, u.2.1.2.1, u.2.1.2.2.1, upd u.2.1.2.2.2.1 o.toNatClampNeg (vp_nar .boolean b), u.2.1.2.2.2.2), u.2.2) else (0, u)
def zm_remove (u : zs_X) (o : Int32) : Int32 × zs_X :=
  if zm_is u.1 u.2.1.1 o = true then (1, u.1, (upd u.2.1.1 o.toNatClampNeg 0, u.2.1.2.1, u.2.1.2.2.1, u.2.1.2.2.2.1, u.2.1.2.2.2.2), u.2.2) else (0, u)
def zm_rename (u : zs_X) (o n : Int32) : Int32 × zs_X :=
  if zm_is u.1 u.2.1.1 o = true ∧ zs_nam n = true ∧ zm_num u.1 u.2.1.1 n 24 0 (-1) = -1 then (1, u.1, (upd u.2.1.1 o.toNatClampNeg (n + 1), u.2.1.2.1, u.2.1.2.2.1, u.2.1.2.2.2.1, u.2.1.2.2.2.2), u.2.2) else (0, u)
def zm_copy (s d : zs_C) : zs_C := (zs_cp s.1 d.1 24, zs_cp s.2.1 d.2.1 24, zs_cp s.2.2.1 d.2.2.1 24, zs_cz s.2.2.2.1 d.2.2.2.1 24, zs_cp s.2.2.2.2 d.2.2.2.2 1536)
def zm_sync (u : zs_X) : Int32 × zs_X := if u.1 = true then (1, u.1, u.2.1, zm_copy u.2.1 u.2.2) else (0, u)
def zm_cut (u : zs_X) : Int32 × zs_X := (zs_b u.1, false, u.2.1, u.2.2)
def zm_mount (u : zs_X) : Int32 × zs_X := if u.1 = true then (0, u) else (1, true, zm_copy u.2.2 u.2.1, u.2.2)
def zm_objects (u : zs_X) : Int32 := zm_cnt u.1 u.2.1.1 24 0 0
def zm_room (u : zs_X) : Int32 := if u.1 = true then zm_left u.2.1.1 u.2.1.2.2.1 24 0 200 else 0
def zm_object (u : zs_X) (o w : Int32) : Int32 :=
  if zm_is u.1 u.2.1.1 o = true then (if w = 0 then u.2.1.1 o.toNatClampNeg - 1 else if w = 1 then u.2.1.2.1 o.toNatClampNeg else if w = 2 then u.2.1.2.2.1 o.toNatClampNeg else if w = 3 then (if u.2.1.2.2.2.1 o.toNatClampNeg = 0 then 0 else 1) else -1) else -1
def zm_word (u : zs_X) (o i : Int32) : Int32 :=
  if zm_is u.1 u.2.1.1 o = true ∧ ¬ i < 0 ∧ i < u.2.1.2.2.1 o.toNatClampNeg then u.2.1.2.2.2.2 (o.toNatClampNeg * 64 + i.toNatClampNeg) else 0
def zm_find (u : zs_X) (n : Int32) : Int32 := zm_num u.1 u.2.1.1 n 24 0 (-1)
def zm_list (u : zs_X) (k : Int32) : Int32 := zm_rank u.1 u.2.1.1 k 24 0
/-- the lengths that a row of words can have, where the object is there -/
def zs_ok (u : zs_X) : Prop := ∀ j, j < 24 → ∃ q : Nat, q ≤ 64 ∧ u.2.1.2.2.1 j = nI q
def zm_ok (u : zs_X) : Prop := ∀ j, j < 24 → ¬ u.2.1.1 j ≤ 0 → ∃ q : Nat, q ≤ 64 ∧ u.2.1.2.2.1 j = nI q
theorem zs_ix {n : Int32} (h1 : ¬ n < 0) (h2 : ¬ 24 ≤ n) : ∃ j : Nat, j < 24 ∧ n = nI j := by
  rcases pk_ix n (n := 24) (by decide) with h | h | h
  · exact absurd h h1
  · exact absurd h h2
  · exact h
theorem zs_inc4 (i : Nat) : nI i + Int32.ofInt 4 = nI (i + 4) := by
  rw [show Int32.ofInt 4 = nI 4 from by decide]
  exact nI_add i 4
theorem zs_is_t {up : Bool} {nm : zs_F} {o : Int32} (h : zs_is up nm o = true) : ∃ j : Nat, j < 24 ∧ o = nI j ∧ up = true ∧ zs_t nm j = true := by
  simp only [zs_is, Bool.and_eq_true, Bool.not_eq_true', decide_eq_false_iff_not] at h
  obtain ⟨h1, h2, h3, h4⟩ := h
  obtain ⟨j, hj, rfl⟩ := zs_ix h2 h3
  rw [nI_clamp (by omega)] at h4
  exact ⟨j, hj, rfl, h1, h4⟩
theorem zm_is_t {up : Bool} {nm : zs_F} {o : Int32} (h : zm_is up nm o = true) : ∃ j : Nat, j < 24 ∧ o = nI j ∧ up = true ∧ ¬ nm j ≤ 0 := by
  simp only [zm_is, Bool.and_eq_true, Bool.not_eq_true', decide_eq_false_iff_not] at h
  obtain ⟨h1, h2, h3, h4⟩ := h
  obtain ⟨j, hj, rfl⟩ := zs_ix h2 h3
  rw [nI_clamp (by omega)] at h4
  exact ⟨j, hj, rfl, h1, h4⟩
theorem zm_is_at {up : Bool} {nm : zs_F} {i : Nat} (hi : i < 24) : zm_is up nm (nI i) = zm_at up nm i := by
  have h1 : ¬ nI i < 0 := nI_pos (by omega)
  have h2 : ¬ (24 : Int32) ≤ nI i := nI_ge (a := i) (b := 24) hi (by decide)
  simp only [zm_is, zm_at]
  rw [nI_clamp (by omega)]
  simp [h1, h2]
theorem zs_is_at {up : Bool} {nm : zs_F} {i : Nat} (hi : i < 24) : zs_is up nm (nI i) = (up && zs_t nm i) := by
  have h1 : ¬ nI i < 0 := nI_pos (by omega)
  have h2 : ¬ (24 : Int32) ≤ nI i := nI_ge (a := i) (b := 24) hi (by decide)
  simp only [zs_is]
  rw [nI_clamp (by omega)]
  simp [h1, h2]
theorem zs_nm1 {n : Nat} (h : n < 2 ^ 31) : ¬ nI n = -1 := by
  intro q
  have h1 := congrArg Int32.toInt q
  rw [nI_toInt h] at h1
  have h2 : (-1 : Int32).toInt = -1 := by decide
  omega
theorem zs_free_g (nm : zs_F) : ∀ k i : Nat, (zs_free nm k i = -1 ∧ ∀ t, i ≤ t → t < i + k → zs_t nm t = true) ∨ ∃ j : Nat, i ≤ j ∧ j < i + k ∧ zs_free nm k i = nI j ∧ zs_t nm j = false := by
  intro k
  induction k with
  | zero => exact fun i => Or.inl ⟨rfl, fun t h1 h2 => by omega⟩
  | succ k ih =>
    intro i
    by_cases h : zs_t nm i = true
    · rcases ih (i + 1) with ⟨h1, h2⟩ | ⟨j, h1, h2, h3, h4⟩
      · refine Or.inl ⟨by simp only [zs_free]; rw [if_pos h]; exact h1, fun t ht1 ht2 => ?_⟩
        by_cases ht : t = i
        · rw [ht]; exact h
        · exact h2 t (by omega) (by omega)
      · exact Or.inr ⟨j, by omega, by omega, by simp only [zs_free]; rw [if_pos h]; exact h3, h4⟩
    · exact Or.inr ⟨i, Nat.le_refl _, by omega, by simp only [zs_free]; rw [if_neg h], by simpa using h⟩
theorem zs_free_in {nm : zs_F} (h : ¬ zs_free nm 24 0 = -1) : ∃ j : Nat, j < 24 ∧ zs_free nm 24 0 = nI j := by
  rcases zs_free_g nm 24 0 with ⟨h1, -⟩ | ⟨j, -, h2, h3, -⟩
  · exact absurd h1 h
  · exact ⟨j, by omega, h3⟩
theorem zs_fit2 {ln : zs_F} {j q : Nat} {k : Int32} (hq : ln j = nI q) (h6 : q ≤ 64) (h1 : ¬ k < 1) (h2 : ¬ 64 - ln j < k) : ∃ t : Nat, q + t ≤ 64 ∧ k = nI t := by
  have h3 : k ≤ 64 - ln j := Int32.not_lt.mp h2
  rw [hq, show (64 : Int32) = nI 64 from rfl, pk_sub h6] at h3
  obtain ⟨t, ht, rfl⟩ := nI_of (x := k) (fun h => h1 (Int32.lt_trans h (by decide)))
  rw [nI_leI ht (by omega)] at h3
  exact ⟨t, by omega, rfl⟩
theorem zs_rm_le (ln : zs_F) (j : Nat) (k : Int32) : k ≤ zs_rm ln j ↔ k ≤ 64 - ln j ∧ k ≤ 200 - zs_sum ln 24 0 0 := by
  unfold zs_rm
  split
  · rename_i h
    exact ⟨fun q => ⟨Int32.le_trans q (Int32.le_of_lt h), q⟩, fun q => q.2⟩
  · rename_i h
    exact ⟨fun q => ⟨q, Int32.le_trans q (Int32.not_lt.mp h)⟩, fun q => q.1⟩
theorem zs_fit {ln : zs_F} {j q : Nat} {k : Int32} (hq : ln j = nI q) (h6 : q ≤ 64) (h1 : ¬ k < 1) (h2 : k ≤ zs_rm ln j) : ∃ t : Nat, q + t ≤ 64 ∧ k = nI t := zs_fit2 hq h6 h1 (Int32.not_lt.mpr ((zs_rm_le ln j k).mp h2).1)
theorem zs_sw4 {w : Int32} (c0 : ¬ w = 0) (c1 : ¬ w = 1) (c2 : ¬ w = 2) (c3 : ¬ w = 3) : w.toInt < 0 ∨ 3 < w.toInt := by
  have e : ∀ n : Int32, ¬ w = n → ¬ w.toInt = n.toInt := fun n h q => h (Int32.toInt_inj.mp q)
  have e0 := e 0 c0
  have e1 := e 1 c1
  have e2 := e 2 c2
  have e3 := e 3 c3
  rw [show (0 : Int32).toInt = 0 from rfl] at e0
  rw [show (1 : Int32).toInt = 1 from rfl] at e1
  rw [show (2 : Int32).toInt = 2 from rfl] at e2
  rw [show (3 : Int32).toInt = 3 from rfl] at e3
  omega
theorem zs_nge {x y : Int32} (h : y ≤ x) (q : x < y) : False := Int32.not_lt.mpr h q
theorem zs_lt {x y : Int32} (h : ¬ y ≤ x) : x < y := Int32.not_le.mp h
theorem zs_wix {i : Int32} {q : Nat} (h1 : ¬ i < 0) (h2 : i < nI q) (h6 : q ≤ 64) : ∃ t : Nat, t < 64 ∧ i = nI t := by
  obtain ⟨t, ht, rfl⟩ := nI_of h1
  rw [nI_ltI ht (by omega)] at h2
  exact ⟨t, by omega, rfl⟩
theorem zs_uu {f : zs_F} {j : Nat} {x y : Int32} : upd (upd f j x) j y = upd f j y := by
  funext t
  simp only [upd]
  by_cases h : t = j <;> simp [h]
theorem zs_us0 {f : zs_F} {j q : Nat} (h : f j = nI q) : upd f j (nI (q + 0)) = f := by
  funext t
  simp only [upd]
  by_cases ht : t = j
  · rw [if_pos ht, ht, h, Nat.add_zero]
  · rw [if_neg ht]
theorem zs_cut_n (u : zs_X) : narrow .boolean (.int (zs_cut u).1) = .int (zs_cut u).1 := by
  simp only [zs_cut]
  by_cases h : u.1 = true
  · rw [if_pos h]; exact narrow_b1
  · rw [if_neg h]; exact narrow_b0
theorem zm_cut_n (u : zs_X) : narrow .boolean (.int (zm_cut u).1) = .int (zm_cut u).1 := zs_b_n u.1
theorem zs_appendRow_n (u : zs_X) (o w k : Int32) : narrow .boolean (.int (zs_appendRow u o w k).1) = .int (zs_appendRow u o w k).1 := by
  simp only [zs_appendRow]
  by_cases h : zs_okr u o k = true
  · rw [if_pos h]; exact narrow_b1
  · rw [if_neg h]; exact narrow_b0
theorem zm_appendRow_n (u : zs_X) (o w k : Int32) : narrow .boolean (.int (zm_appendRow u o w k).1) = .int (zm_appendRow u o w k).1 := by
  simp only [zm_appendRow]
  by_cases h : zm_okr u o k = true
  · rw [if_pos h]; exact narrow_b1
  · rw [if_neg h]; exact narrow_b0
end
section
/-! Rows of this claim: the words that every method has (zs_w), the links between nest mates (zs_n), the worlds, the calls. -/
theorem zs_good : ∀ w ∈ zs_w, (w.onTables && w.keeps) = true ∨ ∃ ty, w = .arrayClass ty := fun w h => good_of_word (List.all_eq_true.mp zs_w_all w h)
theorem zs_gi {b : Cond} (hb : b ∈ zs_w) : GoodIn zs_w (b :: zs_w) := by
  intro w hw
  rcases List.mem_cons.mp hw with rfl | h
  · exact ⟨hb, zs_good _ hb⟩
  · exact ⟨h, zs_good _ h⟩
def zs_isn : Cond → Bool
  | .fieldLinkNest .. => true
  | .methodLinkNest .. => true
  | _ => false
theorem zs_isn_on {w : Cond} (h : zs_isn w = true) : w.onTables = true := by
  cases w <;> first | rfl | (simp [zs_isn] at h)
theorem zs_isn_warm {w : Cond} (h : zs_isn w = true) {s U : State} (hW : s.WarmedH U.vm) (hZ : va_Nw w s) : va_Nw w U := by
  cases w <;> first | exact va_Nw.warmF hW hZ | exact va_Nw.warmM hW hZ | (simp [zs_isn] at h)
theorem zs_n_isn : zs_n.all zs_isn = true := by decide +kernel
def zs_N (U : State) : Prop := ∀ w ∈ zs_n, va_Nw w U
theorem zs_N.warm {s U : State} (hW : s.WarmedH U.vm) (h : zs_N s) : zs_N U := fun w hw => zs_isn_warm (List.all_eq_true.mp zs_n_isn w hw) hW (h w hw)
theorem zs_N.calls {U : State} {g : JFrame} {mk : MethodId} {a : Array Value} (h : zs_N U) : zs_N (U.calling g mk a) := fun w hw => va_Nw.same (zs_isn_on (List.all_eq_true.mp zs_n_isn w hw)) (u := U) (U := U.calling g mk a) rfl (h w hw)
/-- what is known of the tables: where the objects' fields lie, what an int array and a boolean array are, the links -/
def zs_k (dC : Nat → ClassId) (dI : Nat → Nat → Nat) (cI cZ : ClassId) (U : State) : Prop := va_K (dC, dI) zs_cl [(cI, .int), (cZ, .boolean)] U ∧ zs_N U
theorem zs_k.warm {dC : Nat → ClassId} {dI : Nat → Nat → Nat} {cI cZ : ClassId} {s U : State} (hW : s.WarmedH U.vm) (h : zs_k dC dI cI cZ s) : zs_k dC dI cI cZ U := ⟨va_K.moved hW.alike h.1, h.2.warm hW⟩
theorem zs_k.calls {dC : Nat → ClassId} {dI : Nat → Nat → Nat} {cI cZ : ClassId} {U : State} {g : JFrame} {mk : MethodId} {a : Array Value} (h : zs_k dC dI cI cZ U) : zs_k dC dI cI cZ (U.calling g mk a) := ⟨va_K.moved (u := U) (U := U.calling g mk a) (Vm.Alike.refl U.vm) h.1, h.2.calls⟩
/-- a start that only reads, and a start that may write -/
def zs_r (dC : Nat → ClassId) (dI : Nat → Nat → Nat) (cI cZ : ClassId) (ws : va_W) (U : State) : Prop := va_P (dC, dI) zs_cl ws U.heap ∧ zs_k dC dI cI cZ U
def zs_s (dC : Nat → ClassId) (dI : Nat → Nat → Nat) (cI cZ : ClassId) (sz : Nat) (ws : va_W) (U : State) : Prop := U.heap.size = sz ∧ va_P (dC, dI) zs_cl ws U.heap ∧ zs_k dC dI cI cZ U ∧ va_D (fun _ => True) ws
/-- the world behind a method -/
def zs_e {S : Type} (dC : Nat → ClassId) (dI : Nat → Nat → Nat) (wf : S → va_W) (A : Nat → Prop) (u : S) (t : State) : Prop := va_P (dC, dI) zs_cl (wf u) t.heap ∧ va_D A (wf u)
theorem zs_r.blind {dC : Nat → ClassId} {dI : Nat → Nat → Nat} {cI cZ : ClassId} {ws : va_W} {As : List Value} : FrameBlind (va_Pc As (zs_r dC dI cI cZ ws)) := fun _ _ _ _ q => ⟨q.1, q.2.1, q.2.2.calls⟩
theorem zs_s.blind {dC : Nat → ClassId} {dI : Nat → Nat → Nat} {cI cZ : ClassId} {sz : Nat} {ws : va_W} {As : List Value} : FrameBlind (va_Pc As (zs_s dC dI cI cZ sz ws)) := fun _ _ _ _ q => ⟨q.1, q.2.1, q.2.2.1, q.2.2.2.1.calls, q.2.2.2.2⟩
theorem zs_fm {ws wc : va_W} {is : List Nat} (h : is.map (fun i => ws[i]?) = wc.map some) : is.filterMap (fun i => ws[i]?) = wc := by
  have h2 := congrArg (List.filterMap id) h
  simpa [List.filterMap_map, Function.comp_def] using h2
section ZR
variable {p : Program} {l : Launch} {e : Env} {R : Room} {s : State} {m : MethodId} {args : Array Value} {below : List Frame} {meth : Method} {c : Code} {H : Heap} {locs : List Loc} {cells slots : Nat} {Q : State → Prop}
variable {cc : ByteArray} {pc : Nat} {ls : Array Slot} {rest : List Value} {dC : Nat → ClassId} {dI : Nat → Nat → Nat} {cI cZ : ClassId} {A : Nat → Prop} {a : Nat} {ws : va_W} {H0 : Heap}
theorem zi_top {x y : Int32} (h : x = y) (k : W p l e R s m args below meth c H locs cells slots Q (F0 m pc ls (.int y :: rest))) : W p l e R s m args below meth c H locs cells slots Q (F0 m pc ls (.int x :: rest)) := by
  rw [h]
  exact k
theorem zi_ald (hexec : p.tables.exec = Jvm.exec) (hb : c.code = cc) (hk : zs_k dC dI cI cZ s) (hP : va_P (dC, dI) zs_cl ws H) (q0 : Nat) {n j : Nat} {f : zs_F} (ha : ws[q0]? = some (a, .inl (cI, n, .inl f))) (hj : j < n) (hn : n < 2 ^ 31) (hdg : decode cc pc = .ok (.iaload, 1))
    (kk : W p l e R s m args below meth c H locs cells slots Q (F0 m (pc + 1) ls (.int (f j) :: rest))) : W p l e R s m args below meth c H locs cells slots Q (F0 m pc ls (.int (nI j) :: .ref a :: rest)) := by
  refine va_iald hexec hb hk.1 hP q0 0 ha rfl (vp_in_nI hj hn) hdg ?_
  rw [nI_clamp (Nat.lt_trans hj hn)]
  exact kk
theorem zi_zld (hexec : p.tables.exec = Jvm.exec) (hb : c.code = cc) (hk : zs_k dC dI cI cZ s) (hP : va_P (dC, dI) zs_cl ws H) (q0 : Nat) {n j : Nat} {f : zs_F} (ha : ws[q0]? = some (a, .inl (cZ, n, .inl f))) (hj : j < n) (hn : n < 2 ^ 31) (hdg : decode cc pc = .ok (.baload, 1))
    (kk : W p l e R s m args below meth c H locs cells slots Q (F0 m (pc + 1) ls (.int (f j) :: rest))) : W p l e R s m args below meth c H locs cells slots Q (F0 m pc ls (.int (nI j) :: .ref a :: rest)) := by
  refine va_zald hexec hb hk.1 hP q0 1 ha rfl (vp_in_nI hj hn) hdg ?_
  rw [nI_clamp (Nat.lt_trans hj hn)]
  exact kk
theorem zi_ast (hexec : p.tables.exec = Jvm.exec) (hb : c.code = cc) (hk : zs_k dC dI cI cZ s) (hP : va_P (dC, dI) zs_cl ws H) (hD : va_D A ws) (hS : va_S A H0 H locs) (q0 : Nat) {n j : Nat} {f : zs_F} (ha : ws[q0]? = some (a, .inl (cI, n, .inl f))) (hj : j < n) (hn : n < 2 ^ 31) {x : Int32} (hdg : decode cc pc = .ok (.iastore, 1))
    (kk : ∀ (H1 : Heap) (locs1 : List Loc), va_P (dC, dI) zs_cl (ws.set q0 (a, .inl (cI, n, .inl (upd f j x)))) H1 → va_D A (ws.set q0 (a, .inl (cI, n, .inl (upd f j x)))) → va_S A H0 H1 locs1 → W p l e R s m args below meth c H1 locs1 cells slots Q (F0 m (pc + 1) ls rest)) : W p l e R s m args below meth c H locs cells slots Q (F0 m pc ls (.int x :: .int (nI j) :: .ref a :: rest)) := by
  refine va_iast hexec hb hk.1 hP hD hS q0 0 ha rfl (vp_in_nI hj hn) hdg ?_
  rw [nI_clamp (Nat.lt_trans hj hn)]
  exact kk
theorem zi_zst (hexec : p.tables.exec = Jvm.exec) (hb : c.code = cc) (hk : zs_k dC dI cI cZ s) (hP : va_P (dC, dI) zs_cl ws H) (hD : va_D A ws) (hS : va_S A H0 H locs) (q0 : Nat) {n j : Nat} {f : zs_F} (ha : ws[q0]? = some (a, .inl (cZ, n, .inl f))) (hj : j < n) (hn : n < 2 ^ 31) {x : Int32} (hdg : decode cc pc = .ok (.bastore, 1))
    (kk : ∀ (H1 : Heap) (locs1 : List Loc), va_P (dC, dI) zs_cl (ws.set q0 (a, .inl (cZ, n, .inl (upd f j (vp_nar .boolean x))))) H1 → va_D A (ws.set q0 (a, .inl (cZ, n, .inl (upd f j (vp_nar .boolean x))))) → va_S A H0 H1 locs1 → W p l e R s m args below meth c H1 locs1 cells slots Q (F0 m (pc + 1) ls rest)) : W p l e R s m args below meth c H locs cells slots Q (F0 m pc ls (.int x :: .int (nI j) :: .ref a :: rest)) := by
  refine va_zast hexec hb hk.1 hP hD hS q0 1 ha rfl (vp_in_nI hj hn) hdg ?_
  rw [nI_clamp (Nat.lt_trans hj hn)]
  exact kk
theorem zi_eq (hexec : p.tables.exec = Jvm.exec) (hb : c.code = cc) {b : Bool} {off : Int} {tgt : Nat} (hdg : decode cc pc = .ok (.ifCond .eq off, 3)) (ht : (pc : Int) + off = (tgt : Int))
    (kt : b = false → W p l e R s m args below meth c H locs cells slots Q (F0 m tgt ls rest)) (kf : b = true → W p l e R s m args below meth c H locs cells slots Q (F0 m (pc + 3) ls rest)) : W p l e R s m args below meth c H locs cells slots Q (F0 m pc ls (.int (zs_b b) :: rest)) :=
  lv_if_eq hexec hb hdg ht (fun h => kt (zs_b_0 h)) (fun h => kf (zs_b_1 h))
theorem zi_ne (hexec : p.tables.exec = Jvm.exec) (hb : c.code = cc) {b : Bool} {off : Int} {tgt : Nat} (hdg : decode cc pc = .ok (.ifCond .ne off, 3)) (ht : (pc : Int) + off = (tgt : Int))
    (kt : b = true → W p l e R s m args below meth c H locs cells slots Q (F0 m tgt ls rest)) (kf : b = false → W p l e R s m args below meth c H locs cells slots Q (F0 m (pc + 3) ls rest)) : W p l e R s m args below meth c H locs cells slots Q (F0 m pc ls (.int (zs_b b) :: rest)) :=
  lv_if_ne hexec hb hdg ht (fun h => kt (zs_b_1 h)) (fun h => kf (zs_b_0 h))
/-- a loop's test, i against its bound: it goes on, it ends -/
theorem zj_in (hexec : p.tables.exec = Jvm.exec) (hb : c.code = cc) {y : Int32} {off : Int} {tgt i n : Nat} (hdg : decode cc pc = .ok (.if_icmp .ge off, 3)) (ht : (pc : Int) + off = (tgt : Int)) (hy : y = nI n) (hi : i < n) (hn : n < 2 ^ 31)
    (kf : W p l e R s m args below meth c H locs cells slots Q (F0 m (pc + 3) ls rest)) : W p l e R s m args below meth c H locs cells slots Q (F0 m pc ls (.int y :: .int (nI i) :: rest)) :=
  lv_icmp_ge hexec hb hdg ht (fun h => absurd (hy ▸ h) (nI_ge hi hn)) (fun _ => kf)
theorem zj_out (hexec : p.tables.exec = Jvm.exec) (hb : c.code = cc) {y : Int32} {off : Int} {tgt i n : Nat} (hdg : decode cc pc = .ok (.if_icmp .ge off, 3)) (ht : (pc : Int) + off = (tgt : Int)) (hy : y = nI n) (hi : n ≤ i) (hn : i < 2 ^ 31)
    (kt : W p l e R s m args below meth c H locs cells slots Q (F0 m tgt ls rest)) : W p l e R s m args below meth c H locs cells slots Q (F0 m pc ls (.int y :: .int (nI i) :: rest)) :=
  lv_icmp_ge hexec hb hdg ht (fun _ => kt) (fun h => absurd (hy ▸ nI_le hi hn) h)
theorem zr_iret {post : Int32 → Prop} {v : Int32} (hexec : p.tables.exec = Jvm.exec) (hb : c.code = cc) (hr : meth.sig.returnType = some .int) (hlocks : meth.locks = false) (hdg : decode cc pc = .ok (.ireturn, 1)) (hp : post v) :
    W p l e R s m args below meth c s.heap [] 0 0 (MQ below (vp_Si post) args s 0 0 (fun _ => False)) (F0 m pc ls [.int v]) :=
  W.iret (v := v) hexec hb hr (fun t ht _ => ⟨v, rfl, hp, ht⟩) (fun _ h => nomatch h) hdg hlocks
theorem zr_zret {post : Int32 → Prop} {v : Int32} (hexec : p.tables.exec = Jvm.exec) (hb : c.code = cc) (hr : meth.sig.returnType = some .boolean) (hlocks : meth.locks = false) (hdg : decode cc pc = .ok (.ireturn, 1)) (hv : narrow .boolean (.int v) = .int v) (hp : post v) :
    W p l e R s m args below meth c s.heap [] 0 0 (MQ below (vp_Si post) args s 0 0 (fun _ => False)) (F0 m pc ls [.int v]) :=
  W.zret (v := v) hexec hb hr hv (fun t ht _ => ⟨v, rfl, hp, ht⟩) (fun _ h => nomatch h) hdg hlocks
theorem zw_iret {S : Type} {post : Int32 → S → Prop} {wf : S → va_W} {v : Int32} (u : S) (hexec : p.tables.exec = Jvm.exec) (hb : c.code = cc) (hr : meth.sig.returnType = some .int) (hlocks : meth.locks = false) (hdg : decode cc pc = .ok (.ireturn, 1)) (hp : post v u) (hP : va_P (dC, dI) zs_cl (wf u) H) (hD : va_D A (wf u)) (hS : va_S A s.heap H locs) :
    W p l e R s m args below meth c H locs cells slots (MQ below (va_Qi post (zs_e dC dI wf A) A) args s cells slots A) (F0 m pc ls [.int v]) :=
  W.iret (v := v) hexec hb hr (fun t ht _ => ⟨⟨v, u, rfl, hp, by rw [ht]; exact hP, hD⟩, hS.F ht⟩) hS.2.2 hdg hlocks
theorem zw_zret {S : Type} {post : Int32 → S → Prop} {wf : S → va_W} {v : Int32} (u : S) (hexec : p.tables.exec = Jvm.exec) (hb : c.code = cc) (hr : meth.sig.returnType = some .boolean) (hlocks : meth.locks = false) (hdg : decode cc pc = .ok (.ireturn, 1)) (hv : narrow .boolean (.int v) = .int v) (hp : post v u) (hP : va_P (dC, dI) zs_cl (wf u) H) (hD : va_D A (wf u)) (hS : va_S A s.heap H locs) :
    W p l e R s m args below meth c H locs cells slots (MQ below (va_Qi post (zs_e dC dI wf A) A) args s cells slots A) (F0 m pc ls [.int v]) :=
  W.zret (v := v) hexec hb hr hv (fun t ht _ => ⟨⟨v, u, rfl, hp, by rw [ht]; exact hP, hD⟩, hS.F ht⟩) hS.2.2 hdg hlocks
/-- a loop that counts up to N and writes nothing; one that writes -/
theorem zl_r {N : Nat} {α : Type} (Inv : Nat → Nat → α → Array Slot → Prop) (step : ∀ k i x ls, i + (k + 1) = N → Inv (k + 1) i x ls → (∀ x' ls', Inv k (i + 1) x' ls' → W p l e R s m args below meth c H locs cells slots Q (F0 m pc ls' rest)) → W p l e R s m args below meth c H locs cells slots Q (F0 m pc ls rest))
    (stop : ∀ x ls, Inv 0 N x ls → W p l e R s m args below meth c H locs cells slots Q (F0 m pc ls rest)) : ∀ k i x ls, i + k = N → Inv k i x ls → W p l e R s m args below meth c H locs cells slots Q (F0 m pc ls rest) := by
  intro k
  induction k with
  | zero =>
    intro i x ls h hv
    have h2 : i = N := by omega
    subst h2
    exact stop x ls hv
  | succ k ih =>
    intro i x ls h hv
    exact step k i x ls h hv (fun x' ls' hv' => ih (i + 1) x' ls' (by omega) hv')
theorem zl_w {N : Nat} {α : Type} (Inv : Nat → Nat → α → Array Slot → Heap → List Loc → Prop) (step : ∀ k i x ls H locs, i + (k + 1) = N → Inv (k + 1) i x ls H locs → (∀ x' ls' H' locs', Inv k (i + 1) x' ls' H' locs' → W p l e R s m args below meth c H' locs' cells slots Q (F0 m pc ls' rest)) → W p l e R s m args below meth c H locs cells slots Q (F0 m pc ls rest))
    (stop : ∀ x ls H locs, Inv 0 N x ls H locs → W p l e R s m args below meth c H locs cells slots Q (F0 m pc ls rest)) : ∀ k i x ls H locs, i + k = N → Inv k i x ls H locs → W p l e R s m args below meth c H locs cells slots Q (F0 m pc ls rest) := by
  intro k
  induction k with
  | zero =>
    intro i x ls H locs h hv
    have h2 : i = N := by omega
    subst h2
    exact stop x ls H locs hv
  | succ k ih =>
    intro i x ls H locs h hv
    exact step k i x ls H locs h hv (fun x' ls' H' locs' hv' => ih (i + 1) x' ls' H' locs' (by omega) hv')
theorem zw_vret {S : Type} {post : S → Prop} {wf : S → va_W} (u : S) (hexec : p.tables.exec = Jvm.exec) (hb : c.code = cc) (hr : meth.sig.returnType = none) (hlocks : meth.locks = false) (hdg : decode cc pc = .ok (.return_, 1)) (hp : post u) (hP : va_P (dC, dI) zs_cl (wf u) H) (hD : va_D A (wf u)) (hS : va_S A s.heap H locs) :
    W p l e R s m args below meth c H locs cells slots (MQ below (va_Qv post (zs_e dC dI wf A) A) args s cells slots A) (F0 m pc ls []) :=
  W.vret hexec hb hr (fun t ht _ => ⟨⟨u, rfl, hp, by rw [ht]; exact hP, hD⟩, hS.F ht⟩) hS.2.2 hdg hlocks
theorem zc_cr {mc ms : Nat} {g : JFrame} {Qa : State → Outcome → State → Prop} {free : Addr → Prop} (hr : va_Run p l e R s m args below meth c H locs cells slots mc ms g rest Qa free) : CallRun p l e R s m args below meth c H locs cells slots mc ms g rest Qa free := by
  intro T hT X
  obtain ⟨v, st₀, t, T', L, h0, X', hL, e1, -, hq, st⟩ := hr T hT X
  exact ⟨v, st₀, t, T', L, h0, X', hL, e1, hq, st⟩
variable {y : MethodName} {bytes : ByteArray} {maxL nL n index : Nat} {ret : Option FieldType} {rm : Room} {own host C : String} {b : Nat} {wc : va_W} {st0 : List Value} {q : vw_C} {fs : List Value}
/-- a call that only reads: of a method by its own link -/
theorem zc_rV {post : Int32 → Prop} (As : List Value) (hexec : p.tables.exec = Jvm.exec) (hb : c.code = cc) (hml : c.maxLocals = nL) (hown : s.vm.findClass own = some m.cls) (hz : ∀ w ∈ zs_w, w.before args s = true)
    (hM : Met l y (Cond.code y bytes maxL ret :: zs_w) rm (va_Pc (.ref b :: As) (zs_r dC dI cI cZ wc)) (vp_Si post) 0 0 (fun _ => False)) (hF : zs_f y bytes maxL ret n) (hrc : rm.cells = 0) (hrs : rm.slots = 0)
    (hl : Cond.methodLink own index y ∈ zs_w) (hin : Cond.instanceMethod y ∈ zs_w) (hse : Cond.selects C y y ∈ zs_w) (hR : rm.frames + 1 ≤ R.frames ∧ 8 + (maxL + 11) + rm.locals ≤ R.locals)
    (hk : zs_k dC dI cI cZ s) (hP : va_P (dC, dI) zs_cl wc H) (q0 ci : Nat) (hc : zs_cl[ci]? = some q) (hC : q.1 = C) (he : wc[q0]? = some (b, .inr (ci, fs)))
    (hn : As.length = n) (hsize : ls.size = nL) (hst : st0 = As.reverse ++ .ref b :: rest) (hW : (rest.map fun v => v.category).sum ≤ 8) (hdg : decode cc pc = .ok (.invokevirtual index, 3)) (hf : cells ≤ R.cells ∧ slots ≤ R.slots)
    (kk : ∀ r : Int32, post r → W p l e R s m args below meth c H locs cells slots Q (F0 m (pc + 3) ls (.int r :: rest))) : W p l e R s m args below meth c H locs cells slots Q (F0 m pc ls st0) := by
  subst hC
  exact vp_callSi (W.runV ⟨hexec, hb, hml, hown, hz⟩ hM ⟨callB_of n hz (zs_gi hF.1) rfl hrc hrs (hz _ hF.2.1) (hz _ hl) hF.2.2 hR, hz _ hin, hz _ hse⟩ ⟨zs_r.blind, va_recv hk.1 hP hc he, fun U hU hw => ⟨rfl, by rw [hU]; exact hP, hk.warm hw⟩⟩ rfl hn hsize hst (lv_room hW) hdg hf) kk
/-- the same, of a nest mate's method -/
theorem zc_rN {post : Int32 → Prop} (As : List Value) (hexec : p.tables.exec = Jvm.exec) (hb : c.code = cc) (hml : c.maxLocals = nL) (hown : s.vm.findClass own = some m.cls) (hz : ∀ w ∈ zs_w, w.before args s = true)
    (hM : Met l y (Cond.code y bytes maxL ret :: zs_w) rm (va_Pc (.ref b :: As) (zs_r dC dI cI cZ wc)) (vp_Si post) 0 0 (fun _ => False)) (hF : zs_f y bytes maxL ret n) (hrc : rm.cells = 0) (hrs : rm.slots = 0)
    (hl : Cond.methodLinkNest own index y host ∈ zs_n) (hin : Cond.instanceMethod y ∈ zs_w) (hse : Cond.selects C y y ∈ zs_w) (hR : rm.frames + 1 ≤ R.frames ∧ 8 + (maxL + 11) + rm.locals ≤ R.locals)
    (hk : zs_k dC dI cI cZ s) (hP : va_P (dC, dI) zs_cl wc H) (q0 ci : Nat) (hc : zs_cl[ci]? = some q) (hC : q.1 = C) (he : wc[q0]? = some (b, .inr (ci, fs)))
    (hn : As.length = n) (hsize : ls.size = nL) (hst : st0 = As.reverse ++ .ref b :: rest) (hW : (rest.map fun v => v.category).sum ≤ 8) (hdg : decode cc pc = .ok (.invokevirtual index, 3)) (hf : cells ≤ R.cells ∧ slots ≤ R.slots)
    (kk : ∀ r : Int32, post r → W p l e R s m args below meth c H locs cells slots Q (F0 m (pc + 3) ls (.int r :: rest))) : W p l e R s m args below meth c H locs cells slots Q (F0 m pc ls st0) := by
  subst hC
  exact vp_callSi (zc_cr (va_runVN ⟨hexec, hb, hml, hown, hz⟩ hM ⟨va_cnB n hz (zs_gi hF.1) rfl hrc hrs (hk.2 _ hl) (hz _ hF.2.1) hF.2.2 hR, hz _ hin, hz _ hse⟩ ⟨zs_r.blind, va_recv hk.1 hP hc he, fun U hU hw => ⟨rfl, by rw [hU]; exact hP, hk.warm hw⟩⟩ rfl hn hsize hst (lv_room hW) hdg hf)) kk
/-- a static method of ints alone -/
theorem zc_rS {post : Int32 → Prop} (As : List Value) (hexec : p.tables.exec = Jvm.exec) (hb : c.code = cc) (hml : c.maxLocals = nL) (hown : s.vm.findClass own = some m.cls) (hz : ∀ w ∈ zs_w, w.before args s = true)
    (hM : Met l y (Cond.code y bytes maxL ret :: zs_w) rm (va_Pc As (fun _ => True)) (vp_Si post) 0 0 (fun _ => False)) (hF : zs_f y bytes maxL ret n) (hrc : rm.cells = 0) (hrs : rm.slots = 0)
    (hl : Cond.methodLink own index y ∈ zs_w) (hin : Cond.static y ∈ zs_w) (hR : rm.frames + 1 ≤ R.frames ∧ 8 + (maxL + 11) + rm.locals ≤ R.locals)
    (hn : As.length = n) (hsize : ls.size = nL) (hst : st0 = As.reverse ++ rest) (hW : (rest.map fun v => v.category).sum ≤ 8) (hdg : decode cc pc = .ok (.invokestatic index, 3)) (hf : cells ≤ R.cells ∧ slots ≤ R.slots)
    (kk : ∀ r : Int32, post r → W p l e R s m args below meth c H locs cells slots Q (F0 m (pc + 3) ls (.int r :: rest))) : W p l e R s m args below meth c H locs cells slots Q (F0 m pc ls st0) :=
  vp_callSi (W.runS ⟨hexec, hb, hml, hown, hz⟩ hM ⟨callB_of n hz (zs_gi hF.1) rfl hrc hrs (hz _ hF.2.1) (hz _ hl) hF.2.2 hR, hz _ hin⟩ ⟨fun _ _ _ _ q => q, fun _ _ _ => ⟨rfl, trivial⟩⟩ rfl hn hsize hst (lv_room hW) hdg hf) kk
/-- a call that may write its own cells (the places isC of the caller's world), by its own link -/
theorem zc_wV {S : Type} {post : Int32 → S → Prop} {w1 : S → va_W} {wr : va_W} (As : List Value) (hexec : p.tables.exec = Jvm.exec) (hb : c.code = cc) (hml : c.maxLocals = nL) (hown : s.vm.findClass own = some m.cls) (hz : ∀ w ∈ zs_w, w.before args s = true)
    (hM : Met l y (Cond.code y bytes maxL ret :: zs_w) rm (va_Pc (.ref b :: As) (zs_s dC dI cI cZ H.size wc)) (va_Qi post (zs_e dC dI w1 (va_A wc H.size)) (va_A wc H.size)) 0 0 (va_A wc H.size)) (hF : zs_f y bytes maxL ret n) (hrc : rm.cells = 0) (hrs : rm.slots = 0)
    (hl : Cond.methodLink own index y ∈ zs_w) (hin : Cond.instanceMethod y ∈ zs_w) (hse : Cond.selects C y y ∈ zs_w) (hR : rm.frames + 1 ≤ R.frames ∧ 8 + (maxL + 11) + rm.locals ≤ R.locals)
    (hk : zs_k dC dI cI cZ s) (hP : va_P (dC, dI) zs_cl ws H) (hD : va_D A ws) (hS : va_S A H0 H locs) (hA : ∀ q : Nat, H0.size ≤ q → A q) (isC isR : List Nat) (hic : isC.map (fun i => ws[i]?) = wc.map some) (hir : isR.map (fun i => ws[i]?) = wr.map some) (hnc : va_nd isC = true) (hnr : va_nd isR = true) (hdis : ∀ i ∈ isR, i ∉ isC)
    (q0 ci : Nat) (hc : zs_cl[ci]? = some q) (hC : q.1 = C) (he : wc[q0]? = some (b, .inr (ci, fs)))
    (hn : As.length = n) (hsize : ls.size = nL) (hst : st0 = As.reverse ++ .ref b :: rest) (hW : (rest.map fun v => v.category).sum ≤ 8) (hdg : decode cc pc = .ok (.invokevirtual index, 3)) (hf : cells ≤ R.cells ∧ slots ≤ R.slots)
    (kk : ∀ (r : Int32) (u : S) (H1 : Heap) (locs1 : List Loc), post r u → va_P (dC, dI) zs_cl (wr ++ w1 u) H1 → va_D A (wr ++ w1 u) → va_S A H0 H1 locs1 → W p l e R s m args below meth c H1 locs1 cells slots Q (F0 m (pc + 3) ls (.int r :: rest))) : W p l e R s m args below meth c H locs cells slots Q (F0 m pc ls st0) := by
  subst hC
  have hPc : va_P (dC, dI) zs_cl wc H := hP.sub isC (zs_fm hic)
  have hDc : va_D A wc := hD.sub isC hnc hic
  have hFc := va_free (wc := wc) hD hS hA isC hic
  refine va_calli (va_runV ⟨hexec, hb, hml, hown, hz⟩ hM ⟨callB_of n hz (zs_gi hF.1) rfl hrc hrs (hz _ hF.2.1) (hz _ hl) hF.2.2 hR, hz _ hin, hz _ hse⟩ ⟨zs_s.blind, va_recv hk.1 hPc hc he, fun U hU hw => ⟨rfl, by rw [hU], by rw [hU]; exact hPc, hk.warm hw, hDc.weaken (fun _ _ _ _ => trivial)⟩⟩ rfl hn hsize hst (lv_room hW) hdg hf) hS (fun q _ h => hFc q h) hFc (fun r u t H1 locs1 ht _ hp hB _ hk1 hS1 => ?_)
  obtain ⟨hP1, hD1⟩ := hB
  rw [ht] at hP1
  obtain ⟨hP2, hD2⟩ := va_join (wr := wr) (w1 := w1 u) hP hD isC isR hic hir hnr hdis hk1 hFc hP1 hD1
  exact kk r u H1 locs1 hp hP2 hD2 hS1
/-- a nest mate's method without an answer -/
theorem zc_wN {S : Type} {post : S → Prop} {w1 : S → va_W} {wr : va_W} (As : List Value) (hexec : p.tables.exec = Jvm.exec) (hb : c.code = cc) (hml : c.maxLocals = nL) (hown : s.vm.findClass own = some m.cls) (hz : ∀ w ∈ zs_w, w.before args s = true)
    (hM : Met l y (Cond.code y bytes maxL ret :: zs_w) rm (va_Pc (.ref b :: As) (zs_s dC dI cI cZ H.size wc)) (va_Qv post (zs_e dC dI w1 (va_A wc H.size)) (va_A wc H.size)) 0 0 (va_A wc H.size)) (hF : zs_f y bytes maxL ret n) (hrc : rm.cells = 0) (hrs : rm.slots = 0)
    (hl : Cond.methodLinkNest own index y host ∈ zs_n) (hin : Cond.instanceMethod y ∈ zs_w) (hse : Cond.selects C y y ∈ zs_w) (hR : rm.frames + 1 ≤ R.frames ∧ 8 + (maxL + 11) + rm.locals ≤ R.locals)
    (hk : zs_k dC dI cI cZ s) (hP : va_P (dC, dI) zs_cl ws H) (hD : va_D A ws) (hS : va_S A H0 H locs) (hA : ∀ q : Nat, H0.size ≤ q → A q) (isC isR : List Nat) (hic : isC.map (fun i => ws[i]?) = wc.map some) (hir : isR.map (fun i => ws[i]?) = wr.map some) (hnc : va_nd isC = true) (hnr : va_nd isR = true) (hdis : ∀ i ∈ isR, i ∉ isC)
    (q0 ci : Nat) (hc : zs_cl[ci]? = some q) (hC : q.1 = C) (he : wc[q0]? = some (b, .inr (ci, fs)))
    (hn : As.length = n) (hsize : ls.size = nL) (hst : st0 = As.reverse ++ .ref b :: rest) (hW : (rest.map fun v => v.category).sum ≤ 8) (hdg : decode cc pc = .ok (.invokevirtual index, 3)) (hf : cells ≤ R.cells ∧ slots ≤ R.slots)
    (kk : ∀ (u : S) (H1 : Heap) (locs1 : List Loc), post u → va_P (dC, dI) zs_cl (wr ++ w1 u) H1 → va_D A (wr ++ w1 u) → va_S A H0 H1 locs1 → W p l e R s m args below meth c H1 locs1 cells slots Q (F0 m (pc + 3) ls rest)) : W p l e R s m args below meth c H locs cells slots Q (F0 m pc ls st0) := by
  subst hC
  have hPc : va_P (dC, dI) zs_cl wc H := hP.sub isC (zs_fm hic)
  have hDc : va_D A wc := hD.sub isC hnc hic
  have hFc := va_free (wc := wc) hD hS hA isC hic
  refine va_callv (va_runVN ⟨hexec, hb, hml, hown, hz⟩ hM ⟨va_cnB n hz (zs_gi hF.1) rfl hrc hrs (hk.2 _ hl) (hz _ hF.2.1) hF.2.2 hR, hz _ hin, hz _ hse⟩ ⟨zs_s.blind, va_recv hk.1 hPc hc he, fun U hU hw => ⟨rfl, by rw [hU], by rw [hU]; exact hPc, hk.warm hw, hDc.weaken (fun _ _ _ _ => trivial)⟩⟩ rfl hn hsize hst (lv_room hW) hdg hf) hS (fun q _ h => hFc q h) hFc (fun u t H1 locs1 ht _ hp hB _ hk1 hS1 => ?_)
  obtain ⟨hP1, hD1⟩ := hB
  rw [ht] at hP1
  obtain ⟨hP2, hD2⟩ := va_join (wr := wr) (w1 := w1 u) hP hD isC isR hic hir hnr hdis hk1 hFc hP1 hD1
  exact kk u H1 locs1 hp hP2 hD2 hS1
end ZR
/-! the worlds: the contents at q0 .., the shelf at a 0 .., the reference at a 0 .. -/
abbrev zs_wC (cI cZ : ClassId) (q0 q1 q2 q3 q4 q5 : Nat) (u : zs_C) : va_W := [(q0, .inr (1, [.ref q1, .ref q2, .ref q3, .ref q4, .ref q5])), (q1, .inl (cI, 24, .inl u.1)), (q2, .inl (cI, 24, .inl u.2.1)), (q3, .inl (cI, 24, .inl u.2.2.1)), (q4, .inl (cZ, 24, .inl u.2.2.2.1)), (q5, .inl (cI, 1536, .inl u.2.2.2.2))]
abbrev zs_wX (cI cZ : ClassId) (a : Nat → Nat) (u : zs_X) : va_W := [(a 0, .inr (0, [.ref (a 1), .ref (a 7), .int (zs_b u.1)])), (a 1, .inr (1, [.ref (a 2), .ref (a 3), .ref (a 4), .ref (a 5), .ref (a 6)])), (a 2, .inl (cI, 24, .inl u.2.1.1)), (a 3, .inl (cI, 24, .inl u.2.1.2.1)), (a 4, .inl (cI, 24, .inl u.2.1.2.2.1)), (a 5, .inl (cZ, 24, .inl u.2.1.2.2.2.1)), (a 6, .inl (cI, 1536, .inl u.2.1.2.2.2.2)), (a 7, .inr (1, [.ref (a 8), .ref (a 9), .ref (a 10), .ref (a 11), .ref (a 12)])), (a 8, .inl (cI, 24, .inl u.2.2.1)), (a 9, .inl (cI, 24, .inl u.2.2.2.1)), (a 10, .inl (cI, 24, .inl u.2.2.2.2.1)), (a 11, .inl (cZ, 24, .inl u.2.2.2.2.2.1)), (a 12, .inl (cI, 1536, .inl u.2.2.2.2.2.2))]
abbrev zs_wM (cI cZ : ClassId) (a : Nat → Nat) (u : zs_X) : va_W := [(a 0, .inr (2, [.int (zs_b u.1), .ref (a 1), .ref (a 2), .ref (a 3), .ref (a 4), .ref (a 5), .ref (a 6), .ref (a 7), .ref (a 8), .ref (a 9), .ref (a 10)])), (a 1, .inl (cI, 24, .inl u.2.1.1)), (a 2, .inl (cI, 24, .inl u.2.1.2.1)), (a 3, .inl (cI, 24, .inl u.2.1.2.2.1)), (a 4, .inl (cZ, 24, .inl u.2.1.2.2.2.1)), (a 5, .inl (cI, 1536, .inl u.2.1.2.2.2.2)), (a 6, .inl (cI, 24, .inl u.2.2.1)), (a 7, .inl (cI, 24, .inl u.2.2.2.1)), (a 8, .inl (cI, 24, .inl u.2.2.2.2.1)), (a 9, .inl (cZ, 24, .inl u.2.2.2.2.2.1)), (a 10, .inl (cI, 1536, .inl u.2.2.2.2.2.2))]
section ZI
variable {p : Program} {l : Launch} {e : Env} {R : Room} {s : State} {m : MethodId} {args : Array Value} {below : List Frame} {meth : Method} {c : Code} {H : Heap} {locs : List Loc} {cells slots : Nat} {Q : State → Prop}
variable {cc : ByteArray} {pc : Nat} {ls : Array Slot} {rest : List Value} {dC : Nat → ClassId} {dI : Nat → Nat → Nat} {cI cZ : ClassId} {A : Nat → Prop} {ws : va_W} {H0 : Heap}
variable {y : MethodName} {bytes : ByteArray} {maxL nL n index mc ms : Nat} {rm : Room} {own host : String} {b : Nat} {wc : va_W} {st0 : List Value}
/-- an array is made: its kind is the one that is known -/
theorem zi_newi (hexec : p.tables.exec = Jvm.exec) (hb : c.code = cc) (hz : ∀ w ∈ zs_w, w.before args s = true) (ha : Cond.arrayClass .int ∈ zs_w) (hk : zs_k dC dI cI cZ s) (hP : va_P (dC, dI) zs_cl ws H) (hD : va_D A ws) (hS : va_S A H0 H locs) (hA : ∀ q : Nat, H0.size ≤ q → A q) {k : Int32} {N : Nat} (h0 : ¬ k < 0) (hN : k.toNatClampNeg = N) (hbytes : N * componentBytes .int ≤ 536870912) (hcells : cells + 1 ≤ R.cells) (hslots : slots + N ≤ R.slots) (hdg : decode cc pc = .ok (.newarray .int, 2))
    (kk : ∀ (q : Nat) (H1 : Heap), va_P (dC, dI) zs_cl (ws ++ [(q, .inl (cI, N, .inl (fun _ => 0)))]) H1 → va_D A (ws ++ [(q, .inl (cI, N, .inl (fun _ => 0)))]) → va_S A H0 H1 locs → W p l e R s m args below meth c H1 locs (cells + 1) (slots + N) Q (F0 m (pc + 2) ls (.ref q :: rest))) : W p l e R s m args below meth c H locs cells slots Q (F0 m pc ls (.int k :: rest)) := by
  refine va_newa (atype := .int) (ty := .int) (N' := N) (a0 := (N, .inl (fun _ => 0))) hexec hb (hz _ ha) rfl hk.1 hP hD hS hA (fun _ => rfl) h0 hN hbytes hcells hslots hdg (fun q cA H1 hK1 hP1 hD1 hS1 => ?_)
  have e1 : s.vm.findClass ("[" ++ FieldType.int.toString) = some cA := (hK1.2 2 (cA, .int) rfl).2
  have e2 : s.vm.findClass ("[" ++ FieldType.int.toString) = some cI := (hk.1.2 0 (cI, .int) rfl).2
  have e3 : cA = cI := Option.some.inj (e1.symm.trans e2)
  subst e3
  exact kk q H1 hP1 hD1 hS1
theorem zi_newz (hexec : p.tables.exec = Jvm.exec) (hb : c.code = cc) (hz : ∀ w ∈ zs_w, w.before args s = true) (ha : Cond.arrayClass .boolean ∈ zs_w) (hk : zs_k dC dI cI cZ s) (hP : va_P (dC, dI) zs_cl ws H) (hD : va_D A ws) (hS : va_S A H0 H locs) (hA : ∀ q : Nat, H0.size ≤ q → A q) {k : Int32} {N : Nat} (h0 : ¬ k < 0) (hN : k.toNatClampNeg = N) (hbytes : N * componentBytes .boolean ≤ 536870912) (hcells : cells + 1 ≤ R.cells) (hslots : slots + N ≤ R.slots) (hdg : decode cc pc = .ok (.newarray .boolean, 2))
    (kk : ∀ (q : Nat) (H1 : Heap), va_P (dC, dI) zs_cl (ws ++ [(q, .inl (cZ, N, .inl (fun _ => 0)))]) H1 → va_D A (ws ++ [(q, .inl (cZ, N, .inl (fun _ => 0)))]) → va_S A H0 H1 locs → W p l e R s m args below meth c H1 locs (cells + 1) (slots + N) Q (F0 m (pc + 2) ls (.ref q :: rest))) : W p l e R s m args below meth c H locs cells slots Q (F0 m pc ls (.int k :: rest)) := by
  refine va_newa (atype := .boolean) (ty := .boolean) (N' := N) (a0 := (N, .inl (fun _ => 0))) hexec hb (hz _ ha) rfl hk.1 hP hD hS hA (fun _ => rfl) h0 hN hbytes hcells hslots hdg (fun q cA H1 hK1 hP1 hD1 hS1 => ?_)
  have e1 : s.vm.findClass ("[" ++ FieldType.boolean.toString) = some cA := (hK1.2 2 (cA, .boolean) rfl).2
  have e2 : s.vm.findClass ("[" ++ FieldType.boolean.toString) = some cZ := (hk.1.2 1 (cZ, .boolean) rfl).2
  have e3 : cA = cZ := Option.some.inj (e1.symm.trans e2)
  subst e3
  exact kk q H1 hP1 hD1 hS1
/-- a constructor without arguments: of a nest mate, of another -/
theorem zc_iN {S : Type} {post : S → Prop} {w1 : S → va_W} {wr : va_W} (hexec : p.tables.exec = Jvm.exec) (hb : c.code = cc) (hml : c.maxLocals = nL) (hown : s.vm.findClass own = some m.cls) (hz : ∀ w ∈ zs_w, w.before args s = true)
    (hM : Met l y (Cond.code y bytes maxL none :: zs_w) rm (va_Pc [.ref b] (zs_s dC dI cI cZ H.size wc)) (va_Qv post (zs_e dC dI w1 (va_A wc H.size)) (va_A wc H.size)) mc ms (va_A wc H.size)) (hF : zs_f y bytes maxL none 0) (hrc : rm.cells = mc) (hrs : rm.slots = ms)
    (hl : Cond.methodLinkNest own index y host ∈ zs_n) (hin : Cond.instanceMethod y ∈ zs_w) (hy : y.name = "<init>") (hR : rm.frames + 1 ≤ R.frames ∧ 8 + (maxL + 11) + rm.locals ≤ R.locals)
    (hk : zs_k dC dI cI cZ s) (hP : va_P (dC, dI) zs_cl ws H) (hD : va_D A ws) (hS : va_S A H0 H locs) (hA : ∀ q : Nat, H0.size ≤ q → A q) (isC isR : List Nat) (hic : isC.map (fun i => ws[i]?) = wc.map some) (hir : isR.map (fun i => ws[i]?) = wr.map some) (hnc : va_nd isC = true) (hnr : va_nd isR = true) (hdis : ∀ i ∈ isR, i ∉ isC)
    (hsize : ls.size = nL) (hst : st0 = .ref b :: rest) (hW : (rest.map fun v => v.category).sum ≤ 8) (hdg : decode cc pc = .ok (.invokespecial index, 3)) (hf : cells + mc ≤ R.cells ∧ slots + ms ≤ R.slots)
    (kk : ∀ (u : S) (H1 : Heap) (locs1 : List Loc), post u → va_P (dC, dI) zs_cl (wr ++ w1 u) H1 → va_D A (wr ++ w1 u) → va_S A H0 H1 locs1 → W p l e R s m args below meth c H1 locs1 (cells + mc) (slots + ms) Q (F0 m (pc + 3) ls rest)) : W p l e R s m args below meth c H locs cells slots Q (F0 m pc ls st0) := by
  have hPc : va_P (dC, dI) zs_cl wc H := hP.sub isC (zs_fm hic)
  have hDc : va_D A wc := hD.sub isC hnc hic
  have hFc := va_free (wc := wc) hD hS hA isC hic
  refine va_callv (va_runIN (As := []) ⟨hexec, hb, hml, hown, hz⟩ hM ⟨va_cnB 0 hz (zs_gi hF.1) rfl hrc hrs (hk.2 _ hl) (hz _ hF.2.1) hF.2.2 hR, hy, hz _ hin⟩ ⟨zs_s.blind, fun U hU hw => ⟨rfl, by rw [hU], by rw [hU]; exact hPc, hk.warm hw, hDc.weaken (fun _ _ _ _ => trivial)⟩⟩ rfl rfl hsize hst (lv_room hW) hdg hf) hS (fun q _ h => hFc q h) hFc (fun u t H1 locs1 ht _ hp hB _ hk1 hS1 => ?_)
  obtain ⟨hP1, hD1⟩ := hB
  rw [ht] at hP1
  obtain ⟨hP2, hD2⟩ := va_join (wr := wr) (w1 := w1 u) hP hD isC isR hic hir hnr hdis hk1 hFc hP1 hD1
  exact kk u H1 locs1 hp hP2 hD2 hS1
theorem zc_iV {S : Type} {post : S → Prop} {w1 : S → va_W} {wr : va_W} (hexec : p.tables.exec = Jvm.exec) (hb : c.code = cc) (hml : c.maxLocals = nL) (hown : s.vm.findClass own = some m.cls) (hz : ∀ w ∈ zs_w, w.before args s = true)
    (hM : Met l y (Cond.code y bytes maxL none :: zs_w) rm (va_Pc [.ref b] (zs_s dC dI cI cZ H.size wc)) (va_Qv post (zs_e dC dI w1 (va_A wc H.size)) (va_A wc H.size)) mc ms (va_A wc H.size)) (hF : zs_f y bytes maxL none 0) (hrc : rm.cells = mc) (hrs : rm.slots = ms)
    (hl : Cond.methodLink own index y ∈ zs_w) (hin : Cond.instanceMethod y ∈ zs_w) (hy : y.name = "<init>") (hR : rm.frames + 1 ≤ R.frames ∧ 8 + (maxL + 11) + rm.locals ≤ R.locals)
    (hk : zs_k dC dI cI cZ s) (hP : va_P (dC, dI) zs_cl ws H) (hD : va_D A ws) (hS : va_S A H0 H locs) (hA : ∀ q : Nat, H0.size ≤ q → A q) (isC isR : List Nat) (hic : isC.map (fun i => ws[i]?) = wc.map some) (hir : isR.map (fun i => ws[i]?) = wr.map some) (hnc : va_nd isC = true) (hnr : va_nd isR = true) (hdis : ∀ i ∈ isR, i ∉ isC)
    (hsize : ls.size = nL) (hst : st0 = .ref b :: rest) (hW : (rest.map fun v => v.category).sum ≤ 8) (hdg : decode cc pc = .ok (.invokespecial index, 3)) (hf : cells + mc ≤ R.cells ∧ slots + ms ≤ R.slots)
    (kk : ∀ (u : S) (H1 : Heap) (locs1 : List Loc), post u → va_P (dC, dI) zs_cl (wr ++ w1 u) H1 → va_D A (wr ++ w1 u) → va_S A H0 H1 locs1 → W p l e R s m args below meth c H1 locs1 (cells + mc) (slots + ms) Q (F0 m (pc + 3) ls rest)) : W p l e R s m args below meth c H locs cells slots Q (F0 m pc ls st0) := by
  have hPc : va_P (dC, dI) zs_cl wc H := hP.sub isC (zs_fm hic)
  have hDc : va_D A wc := hD.sub isC hnc hic
  have hFc := va_free (wc := wc) hD hS hA isC hic
  refine va_callv (va_runI (As := []) ⟨hexec, hb, hml, hown, hz⟩ hM ⟨callB_of 0 hz (zs_gi hF.1) rfl hrc hrs (hz _ hF.2.1) (hz _ hl) hF.2.2 hR, hy, hz _ hin⟩ ⟨zs_s.blind, fun U hU hw => ⟨rfl, by rw [hU], by rw [hU]; exact hPc, hk.warm hw, hDc.weaken (fun _ _ _ _ => trivial)⟩⟩ rfl rfl hsize hst (lv_room hW) hdg hf) hS (fun q _ h => hFc q h) hFc (fun u t H1 locs1 ht _ hp hB _ hk1 hS1 => ?_)
  obtain ⟨hP1, hD1⟩ := hB
  rw [ht] at hP1
  obtain ⟨hP2, hD2⟩ := va_join (wr := wr) (w1 := w1 u) hP hD isC isR hic hir hnr hdis hk1 hFc hP1 hD1
  exact kk u H1 locs1 hp hP2 hD2 hS1
/-- a static method without an answer that writes -/
theorem zc_wS {S : Type} {post : S → Prop} {w1 : S → va_W} {wr : va_W} (As : List Value) (hexec : p.tables.exec = Jvm.exec) (hb : c.code = cc) (hml : c.maxLocals = nL) (hown : s.vm.findClass own = some m.cls) (hz : ∀ w ∈ zs_w, w.before args s = true)
    (hM : Met l y (Cond.code y bytes maxL none :: zs_w) rm (va_Pc As (zs_s dC dI cI cZ H.size wc)) (va_Qv post (zs_e dC dI w1 (va_A wc H.size)) (va_A wc H.size)) 0 0 (va_A wc H.size)) (hF : zs_f y bytes maxL none n) (hrc : rm.cells = 0) (hrs : rm.slots = 0)
    (hl : Cond.methodLink own index y ∈ zs_w) (hin : Cond.static y ∈ zs_w) (hR : rm.frames + 1 ≤ R.frames ∧ 8 + (maxL + 11) + rm.locals ≤ R.locals)
    (hk : zs_k dC dI cI cZ s) (hP : va_P (dC, dI) zs_cl ws H) (hD : va_D A ws) (hS : va_S A H0 H locs) (hA : ∀ q : Nat, H0.size ≤ q → A q) (isC isR : List Nat) (hic : isC.map (fun i => ws[i]?) = wc.map some) (hir : isR.map (fun i => ws[i]?) = wr.map some) (hnc : va_nd isC = true) (hnr : va_nd isR = true) (hdis : ∀ i ∈ isR, i ∉ isC)
    (hn : As.length = n) (hsize : ls.size = nL) (hst : st0 = As.reverse ++ rest) (hW : (rest.map fun v => v.category).sum ≤ 8) (hdg : decode cc pc = .ok (.invokestatic index, 3)) (hf : cells ≤ R.cells ∧ slots ≤ R.slots)
    (kk : ∀ (u : S) (H1 : Heap) (locs1 : List Loc), post u → va_P (dC, dI) zs_cl (wr ++ w1 u) H1 → va_D A (wr ++ w1 u) → va_S A H0 H1 locs1 → W p l e R s m args below meth c H1 locs1 cells slots Q (F0 m (pc + 3) ls rest)) : W p l e R s m args below meth c H locs cells slots Q (F0 m pc ls st0) := by
  have hPc : va_P (dC, dI) zs_cl wc H := hP.sub isC (zs_fm hic)
  have hDc : va_D A wc := hD.sub isC hnc hic
  have hFc := va_free (wc := wc) hD hS hA isC hic
  refine va_callv (va_runS ⟨hexec, hb, hml, hown, hz⟩ hM ⟨callB_of n hz (zs_gi hF.1) rfl hrc hrs (hz _ hF.2.1) (hz _ hl) hF.2.2 hR, hz _ hin⟩ ⟨zs_s.blind, fun U hU hw => ⟨rfl, by rw [hU], by rw [hU]; exact hPc, hk.warm hw, hDc.weaken (fun _ _ _ _ => trivial)⟩⟩ rfl hn hsize hst (lv_room hW) hdg hf) hS (fun q _ h => hFc q h) hFc (fun u t H1 locs1 ht _ hp hB _ hk1 hS1 => ?_)
  obtain ⟨hP1, hD1⟩ := hB
  rw [ht] at hP1
  obtain ⟨hP2, hD2⟩ := va_join (wr := wr) (w1 := w1 u) hP hD isC isR hic hir hnr hdis hk1 hFc hP1 hD1
  exact kk u H1 locs1 hp hP2 hD2 hS1
/-- the script's places -/
theorem zi_sld {L i : Nat} {xs : Nat → Int32} (hexec : p.tables.exec = Jvm.exec) (hb : c.code = cc) (hX : va_X b L xs s H0) (hbl : b < H0.size) (hbA : ¬ A b) (hS : va_S A H0 H locs) (hi : i < L) (hL : L ≤ 2048) (hdg : decode cc pc = .ok (.iaload, 1))
    (kk : W p l e R s m args below meth c H locs cells slots Q (F0 m (pc + 1) ls (.int (xs i) :: rest))) : W p l e R s m args below meth c H locs cells slots Q (F0 m pc ls (.int (nI i) :: .ref b :: rest)) := by
  refine va_sld hexec hb hX hbl hbA hS (vp_in_nI hi (by omega)) hdg ?_
  rw [nI_clamp (by omega)]
  exact kk
end ZI
end
