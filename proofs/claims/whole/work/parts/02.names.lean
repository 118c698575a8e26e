def zs_T_X : u_T := fun k => match k with
  | 0 => ("ZoneShelf", "current", "LZoneShelf$Contents;", true)
  | 1 => ("ZoneShelf", "synced", "LZoneShelf$Contents;", true)
  | _ => ("ZoneShelf", "up", "Z", false)
def zs_t_X : Nat → FieldType := fun k => match k with
  | 0 => .object "ZoneShelf$Contents"
  | 1 => .object "ZoneShelf$Contents"
  | _ => .boolean
def zs_T_C : u_T := fun k => match k with
  | 0 => ("ZoneShelf$Contents", "names", "[I", true)
  | 1 => ("ZoneShelf$Contents", "hints", "[I", true)
  | 2 => ("ZoneShelf$Contents", "lengths", "[I", true)
  | 3 => ("ZoneShelf$Contents", "opened", "[Z", true)
  | _ => ("ZoneShelf$Contents", "words", "[I", true)
def zs_t_C : Nat → FieldType := fun k => match k with
  | 0 => .array .int
  | 1 => .array .int
  | 2 => .array .int
  | 3 => .array .boolean
  | _ => .array .int
def zs_T_M : u_T := fun k => match k with
  | 0 => ("ZoneShelfModel", "up", "Z", false)
  | 1 => ("ZoneShelfModel", "names", "[I", true)
  | 2 => ("ZoneShelfModel", "hints", "[I", true)
  | 3 => ("ZoneShelfModel", "sizes", "[I", true)
  | 4 => ("ZoneShelfModel", "opens", "[Z", true)
  | 5 => ("ZoneShelfModel", "words", "[I", true)
  | 6 => ("ZoneShelfModel", "oldNames", "[I", true)
  | 7 => ("ZoneShelfModel", "oldHints", "[I", true)
  | 8 => ("ZoneShelfModel", "oldSizes", "[I", true)
  | 9 => ("ZoneShelfModel", "oldOpens", "[Z", true)
  | _ => ("ZoneShelfModel", "oldWords", "[I", true)
def zs_t_M : Nat → FieldType := fun k => match k with
  | 0 => .boolean
  | 1 => .array .int
  | 2 => .array .int
  | 3 => .array .int
  | 4 => .array .boolean
  | 5 => .array .int
  | 6 => .array .int
  | 7 => .array .int
  | 8 => .array .int
  | 9 => .array .boolean
  | _ => .array .int
abbrev zs_cl : List vw_C := [("ZoneShelf", zs_T_X, 3), ("ZoneShelf$Contents", zs_T_C, 5), ("ZoneShelfModel", zs_T_M, 11)]
abbrev zb_X_init : ByteArray := prog_1_method_1_code
def zy_X_init : MethodName := ⟨"ZoneShelf", "<init>", "()V"⟩
abbrev zb_C_init : ByteArray := prog_2_method_1_code
def zy_C_init : MethodName := ⟨"ZoneShelf$Contents", "<init>", "()V"⟩
abbrev zb_J_fill : ByteArray := prog_7_method_103_code
def zy_J_fill : MethodName := ⟨"java/util/Arrays", "fill", "([II)V"⟩
abbrev zb_X_create : ByteArray := prog_1_method_2_code
def zy_X_create : MethodName := ⟨"ZoneShelf", "create", "(II)I"⟩
abbrev zb_X_isFreeName : ByteArray := prog_1_method_21_code
def zy_X_isFreeName : MethodName := ⟨"ZoneShelf", "isFreeName", "(I)Z"⟩
abbrev zb_X_isName : ByteArray := prog_1_method_23_code
def zy_X_isName : MethodName := ⟨"ZoneShelf", "isName", "(I)Z"⟩
abbrev zb_C_numberOf : ByteArray := prog_2_method_4_code
def zy_C_numberOf : MethodName := ⟨"ZoneShelf$Contents", "numberOf", "(I)I"⟩
abbrev zb_X_isHint : ByteArray := prog_1_method_24_code
def zy_X_isHint : MethodName := ⟨"ZoneShelf", "isHint", "(I)Z"⟩
abbrev zb_C_leastFreeNumber : ByteArray := prog_2_method_3_code
def zy_C_leastFreeNumber : MethodName := ⟨"ZoneShelf$Contents", "leastFreeNumber", "()I"⟩
abbrev zb_C_isTaken : ByteArray := prog_2_method_2_code
def zy_C_isTaken : MethodName := ⟨"ZoneShelf$Contents", "isTaken", "(I)Z"⟩
abbrev zb_C_place : ByteArray := prog_2_method_9_code
def zy_C_place : MethodName := ⟨"ZoneShelf$Contents", "place", "(III)V"⟩
abbrev zb_X_append : ByteArray := prog_1_method_3_code
def zy_X_append : MethodName := ⟨"ZoneShelf", "append", "(II)Z"⟩
abbrev zb_X_appendRow : ByteArray := prog_1_method_4_code
def zy_X_appendRow : MethodName := ⟨"ZoneShelf", "appendRow", "(III)Z"⟩
abbrev zb_X_isThere : ByteArray := prog_1_method_20_code
def zy_X_isThere : MethodName := ⟨"ZoneShelf", "isThere", "(I)Z"⟩
abbrev zb_X_roomIn : ByteArray := prog_1_method_22_code
def zy_X_roomIn : MethodName := ⟨"ZoneShelf", "roomIn", "(I)I"⟩
abbrev zb_C_countWords : ByteArray := prog_2_method_8_code
def zy_C_countWords : MethodName := ⟨"ZoneShelf$Contents", "countWords", "()I"⟩
abbrev zb_C_addRow : ByteArray := prog_2_method_11_code
def zy_C_addRow : MethodName := ⟨"ZoneShelf$Contents", "addRow", "(III)V"⟩
abbrev zb_X_open : ByteArray := prog_1_method_5_code
def zy_X_open : MethodName := ⟨"ZoneShelf", "open", "(IZ)Z"⟩
abbrev zb_X_remove : ByteArray := prog_1_method_6_code
def zy_X_remove : MethodName := ⟨"ZoneShelf", "remove", "(I)Z"⟩
abbrev zb_C_takeAway : ByteArray := prog_2_method_10_code
def zy_C_takeAway : MethodName := ⟨"ZoneShelf$Contents", "takeAway", "(I)V"⟩
abbrev zb_X_rename : ByteArray := prog_1_method_7_code
def zy_X_rename : MethodName := ⟨"ZoneShelf", "rename", "(II)Z"⟩
abbrev zb_X_sync : ByteArray := prog_1_method_8_code
def zy_X_sync : MethodName := ⟨"ZoneShelf", "sync", "()Z"⟩
abbrev zb_C_copyFrom : ByteArray := prog_2_method_12_code
def zy_C_copyFrom : MethodName := ⟨"ZoneShelf$Contents", "copyFrom", "(LZoneShelf$Contents;)V"⟩
abbrev zb_X_tear : ByteArray := prog_1_method_9_code
def zy_X_tear : MethodName := ⟨"ZoneShelf", "tear", "()Z"⟩
abbrev zb_X_cut : ByteArray := prog_1_method_10_code
def zy_X_cut : MethodName := ⟨"ZoneShelf", "cut", "()Z"⟩
abbrev zb_X_mount : ByteArray := prog_1_method_11_code
def zy_X_mount : MethodName := ⟨"ZoneShelf", "mount", "()Z"⟩
abbrev zb_X_tidy : ByteArray := prog_1_method_12_code
def zy_X_tidy : MethodName := ⟨"ZoneShelf", "tidy", "()Z"⟩
abbrev zb_X_isUp : ByteArray := prog_1_method_13_code
def zy_X_isUp : MethodName := ⟨"ZoneShelf", "isUp", "()Z"⟩
abbrev zb_X_objects : ByteArray := prog_1_method_14_code
def zy_X_objects : MethodName := ⟨"ZoneShelf", "objects", "()I"⟩
abbrev zb_C_countObjects : ByteArray := prog_2_method_7_code
def zy_C_countObjects : MethodName := ⟨"ZoneShelf$Contents", "countObjects", "()I"⟩
abbrev zb_X_room : ByteArray := prog_1_method_15_code
def zy_X_room : MethodName := ⟨"ZoneShelf", "room", "()I"⟩
abbrev zb_X_object : ByteArray := prog_1_method_16_code
def zy_X_object : MethodName := ⟨"ZoneShelf", "object", "(II)I"⟩
abbrev zb_X_word : ByteArray := prog_1_method_17_code
def zy_X_word : MethodName := ⟨"ZoneShelf", "word", "(II)I"⟩
abbrev zb_X_find : ByteArray := prog_1_method_18_code
def zy_X_find : MethodName := ⟨"ZoneShelf", "find", "(I)I"⟩
abbrev zb_X_list : ByteArray := prog_1_method_19_code
def zy_X_list : MethodName := ⟨"ZoneShelf", "list", "(I)I"⟩
abbrev zb_C_numberAtRank : ByteArray := prog_2_method_5_code
def zy_C_numberAtRank : MethodName := ⟨"ZoneShelf$Contents", "numberAtRank", "(I)I"⟩
abbrev zb_C_countNamesBelow : ByteArray := prog_2_method_6_code
def zy_C_countNamesBelow : MethodName := ⟨"ZoneShelf$Contents", "countNamesBelow", "(I)I"⟩
abbrev zb_M_init : ByteArray := prog_4_method_1_code
def zy_M_init : MethodName := ⟨"ZoneShelfModel", "<init>", "()V"⟩
abbrev zb_M_create : ByteArray := prog_4_method_6_code
def zy_M_create : MethodName := ⟨"ZoneShelfModel", "create", "(II)I"⟩
abbrev zb_M_isName : ByteArray := prog_4_method_3_code
def zy_M_isName : MethodName := ⟨"ZoneShelfModel", "isName", "(I)Z"⟩
abbrev zb_M_named : ByteArray := prog_4_method_4_code
def zy_M_named : MethodName := ⟨"ZoneShelfModel", "named", "(I)I"⟩
abbrev zb_M_is : ByteArray := prog_4_method_2_code
def zy_M_is : MethodName := ⟨"ZoneShelfModel", "is", "(I)Z"⟩
abbrev zb_M_append : ByteArray := prog_4_method_7_code
def zy_M_append : MethodName := ⟨"ZoneShelfModel", "append", "(II)Z"⟩
abbrev zb_M_appendRow : ByteArray := prog_4_method_8_code
def zy_M_appendRow : MethodName := ⟨"ZoneShelfModel", "appendRow", "(III)Z"⟩
abbrev zb_M_left : ByteArray := prog_4_method_5_code
def zy_M_left : MethodName := ⟨"ZoneShelfModel", "left", "()I"⟩
abbrev zb_M_open : ByteArray := prog_4_method_9_code
def zy_M_open : MethodName := ⟨"ZoneShelfModel", "open", "(IZ)Z"⟩
abbrev zb_M_remove : ByteArray := prog_4_method_10_code
def zy_M_remove : MethodName := ⟨"ZoneShelfModel", "remove", "(I)Z"⟩
abbrev zb_M_rename : ByteArray := prog_4_method_11_code
def zy_M_rename : MethodName := ⟨"ZoneShelfModel", "rename", "(II)Z"⟩
abbrev zb_M_sync : ByteArray := prog_4_method_12_code
def zy_M_sync : MethodName := ⟨"ZoneShelfModel", "sync", "()Z"⟩
abbrev zb_M_tear : ByteArray := prog_4_method_13_code
def zy_M_tear : MethodName := ⟨"ZoneShelfModel", "tear", "()Z"⟩
abbrev zb_M_cut : ByteArray := prog_4_method_14_code
def zy_M_cut : MethodName := ⟨"ZoneShelfModel", "cut", "()Z"⟩
abbrev zb_M_mount : ByteArray := prog_4_method_15_code
def zy_M_mount : MethodName := ⟨"ZoneShelfModel", "mount", "()Z"⟩
abbrev zb_M_tidy : ByteArray := prog_4_method_16_code
def zy_M_tidy : MethodName := ⟨"ZoneShelfModel", "tidy", "()Z"⟩
abbrev zb_M_isUp : ByteArray := prog_4_method_17_code
def zy_M_isUp : MethodName := ⟨"ZoneShelfModel", "isUp", "()Z"⟩
abbrev zb_M_objects : ByteArray := prog_4_method_18_code
def zy_M_objects : MethodName := ⟨"ZoneShelfModel", "objects", "()I"⟩
abbrev zb_M_room : ByteArray := prog_4_method_19_code
def zy_M_room : MethodName := ⟨"ZoneShelfModel", "room", "()I"⟩
abbrev zb_M_object : ByteArray := prog_4_method_20_code
def zy_M_object : MethodName := ⟨"ZoneShelfModel", "object", "(II)I"⟩
abbrev zb_M_word : ByteArray := prog_4_method_21_code
def zy_M_word : MethodName := ⟨"ZoneShelfModel", "word", "(II)I"⟩
abbrev zb_M_find : ByteArray := prog_4_method_22_code
def zy_M_find : MethodName := ⟨"ZoneShelfModel", "find", "(I)I"⟩
abbrev zb_M_list : ByteArray := prog_4_method_23_code
def zy_M_list : MethodName := ⟨"ZoneShelfModel", "list", "(I)I"⟩
/-- the words that every method of this claim is given -/
def zs_w : List Cond := [(Jvm.Cond.selects "ZoneShelf" ({ cls := "ZoneShelf", name := "isFreeName", desc := "(I)Z" } : Jvm.MethodName) ({ cls := "ZoneShelf", name := "isFreeName", desc := "(I)Z" } : Jvm.MethodName)),
  (Jvm.Cond.selects "ZoneShelf$Contents" ({ cls := "ZoneShelf$Contents", name := "numberOf", desc := "(I)I" } : Jvm.MethodName) ({ cls := "ZoneShelf$Contents", name := "numberOf", desc := "(I)I" } : Jvm.MethodName)),
  (Jvm.Cond.selects "ZoneShelf$Contents" ({ cls := "ZoneShelf$Contents", name := "leastFreeNumber", desc := "()I" } : Jvm.MethodName) ({ cls := "ZoneShelf$Contents", name := "leastFreeNumber", desc := "()I" } : Jvm.MethodName)),
  (Jvm.Cond.selects "ZoneShelf$Contents" ({ cls := "ZoneShelf$Contents", name := "isTaken", desc := "(I)Z" } : Jvm.MethodName) ({ cls := "ZoneShelf$Contents", name := "isTaken", desc := "(I)Z" } : Jvm.MethodName)),
  (Jvm.Cond.selects "ZoneShelf$Contents" ({ cls := "ZoneShelf$Contents", name := "place", desc := "(III)V" } : Jvm.MethodName) ({ cls := "ZoneShelf$Contents", name := "place", desc := "(III)V" } : Jvm.MethodName)),
  (Jvm.Cond.selects "ZoneShelf" ({ cls := "ZoneShelf", name := "isThere", desc := "(I)Z" } : Jvm.MethodName) ({ cls := "ZoneShelf", name := "isThere", desc := "(I)Z" } : Jvm.MethodName)),
  (Jvm.Cond.selects "ZoneShelf" ({ cls := "ZoneShelf", name := "roomIn", desc := "(I)I" } : Jvm.MethodName) ({ cls := "ZoneShelf", name := "roomIn", desc := "(I)I" } : Jvm.MethodName)),
  (Jvm.Cond.selects "ZoneShelf$Contents" ({ cls := "ZoneShelf$Contents", name := "countWords", desc := "()I" } : Jvm.MethodName) ({ cls := "ZoneShelf$Contents", name := "countWords", desc := "()I" } : Jvm.MethodName)),
  (Jvm.Cond.selects "ZoneShelf$Contents" ({ cls := "ZoneShelf$Contents", name := "addRow", desc := "(III)V" } : Jvm.MethodName) ({ cls := "ZoneShelf$Contents", name := "addRow", desc := "(III)V" } : Jvm.MethodName)),
  (Jvm.Cond.selects "ZoneShelf$Contents" ({ cls := "ZoneShelf$Contents", name := "takeAway", desc := "(I)V" } : Jvm.MethodName) ({ cls := "ZoneShelf$Contents", name := "takeAway", desc := "(I)V" } : Jvm.MethodName)),
  (Jvm.Cond.selects "ZoneShelf$Contents" ({ cls := "ZoneShelf$Contents", name := "copyFrom", desc := "(LZoneShelf$Contents;)V" } : Jvm.MethodName) ({ cls := "ZoneShelf$Contents", name := "copyFrom", desc := "(LZoneShelf$Contents;)V" } : Jvm.MethodName)),
  (Jvm.Cond.selects "ZoneShelf$Contents" ({ cls := "ZoneShelf$Contents", name := "countObjects", desc := "()I" } : Jvm.MethodName) ({ cls := "ZoneShelf$Contents", name := "countObjects", desc := "()I" } : Jvm.MethodName)),
  (Jvm.Cond.selects "ZoneShelf$Contents" ({ cls := "ZoneShelf$Contents", name := "numberAtRank", desc := "(I)I" } : Jvm.MethodName) ({ cls := "ZoneShelf$Contents", name := "numberAtRank", desc := "(I)I" } : Jvm.MethodName)),
  (Jvm.Cond.selects "ZoneShelf$Contents" ({ cls := "ZoneShelf$Contents", name := "countNamesBelow", desc := "(I)I" } : Jvm.MethodName) ({ cls := "ZoneShelf$Contents", name := "countNamesBelow", desc := "(I)I" } : Jvm.MethodName)),
  (Jvm.Cond.selects "ZoneShelfModel" ({ cls := "ZoneShelfModel", name := "named", desc := "(I)I" } : Jvm.MethodName) ({ cls := "ZoneShelfModel", name := "named", desc := "(I)I" } : Jvm.MethodName)),
  (Jvm.Cond.selects "ZoneShelfModel" ({ cls := "ZoneShelfModel", name := "is", desc := "(I)Z" } : Jvm.MethodName) ({ cls := "ZoneShelfModel", name := "is", desc := "(I)Z" } : Jvm.MethodName)),
  (Jvm.Cond.selects "ZoneShelfModel" ({ cls := "ZoneShelfModel", name := "left", desc := "()I" } : Jvm.MethodName) ({ cls := "ZoneShelfModel", name := "left", desc := "()I" } : Jvm.MethodName)),
  (Jvm.Cond.initialized "ZoneShelfLaw"),
  (Jvm.Cond.initialized "ZoneShelf"),
  (Jvm.Cond.initialized "ZoneShelf$Contents"),
  (Jvm.Cond.initialized "java/util/Arrays"),
  (Jvm.Cond.initialized "ZoneShelfModel"),
  (Jvm.Cond.initialized "java/lang/Math"),
  (Jvm.Cond.initialized "java/lang/System"),
  (Jvm.Cond.classLink "ZoneShelfLaw" (7 : Nat) "ZoneShelf"),
  (Jvm.Cond.instantiable "ZoneShelf" (3 : Nat)),
  (Jvm.Cond.methodLink "ZoneShelfLaw" (9 : Nat) ({ cls := "ZoneShelf", name := "<init>", desc := "()V" } : Jvm.MethodName)),
  (Jvm.Cond.instanceMethod ({ cls := "ZoneShelf", name := "<init>", desc := "()V" } : Jvm.MethodName)),
  (Jvm.Cond.code ({ cls := "ZoneShelf", name := "<init>", desc := "()V" } : Jvm.MethodName) prog_1_method_1_code (1 : Nat) (Option.none : Option Jvm.ClassFile.FieldType)),
  (Jvm.Cond.methodLink "ZoneShelf" (1 : Nat) ({ cls := "java/lang/Object", name := "<init>", desc := "()V" } : Jvm.MethodName)),
  (Jvm.Cond.instanceMethod ({ cls := "java/lang/Object", name := "<init>", desc := "()V" } : Jvm.MethodName)),
  (Jvm.Cond.code ({ cls := "java/lang/Object", name := "<init>", desc := "()V" } : Jvm.MethodName) object_method_1_code (1 : Nat) (Option.none : Option Jvm.ClassFile.FieldType)),
  (Jvm.Cond.classLink "ZoneShelf" (7 : Nat) "ZoneShelf$Contents"),
  (Jvm.Cond.instantiable "ZoneShelf$Contents" (5 : Nat)),
  (Jvm.Cond.instanceMethod ({ cls := "ZoneShelf$Contents", name := "<init>", desc := "()V" } : Jvm.MethodName)),
  (Jvm.Cond.code ({ cls := "ZoneShelf$Contents", name := "<init>", desc := "()V" } : Jvm.MethodName) prog_2_method_1_code (1 : Nat) (Option.none : Option Jvm.ClassFile.FieldType)),
  (Jvm.Cond.methodLink "ZoneShelf$Contents" (3 : Nat) ({ cls := "java/lang/Object", name := "<init>", desc := "()V" } : Jvm.MethodName)),
  (Jvm.Cond.methodLink "ZoneShelf$Contents" (28 : Nat) ({ cls := "java/util/Arrays", name := "fill", desc := "([II)V" } : Jvm.MethodName)),
  (Jvm.Cond.static ({ cls := "java/util/Arrays", name := "fill", desc := "([II)V" } : Jvm.MethodName)),
  (Jvm.Cond.code ({ cls := "java/util/Arrays", name := "fill", desc := "([II)V" } : Jvm.MethodName) prog_7_method_103_code (4 : Nat) (Option.none : Option Jvm.ClassFile.FieldType)),
  (Jvm.Cond.fieldLink "ZoneShelf$Contents" (9 : Nat) "ZoneShelf$Contents" "names" "[I"),
  (Jvm.Cond.fieldLink "ZoneShelf$Contents" (15 : Nat) "ZoneShelf$Contents" "hints" "[I"),
  (Jvm.Cond.fieldLink "ZoneShelf$Contents" (18 : Nat) "ZoneShelf$Contents" "lengths" "[I"),
  (Jvm.Cond.fieldLink "ZoneShelf$Contents" (21 : Nat) "ZoneShelf$Contents" "opened" "[Z"),
  (Jvm.Cond.fieldLink "ZoneShelf$Contents" (25 : Nat) "ZoneShelf$Contents" "words" "[I"),
  (Jvm.Cond.laysFinal "ZoneShelf$Contents" "ZoneShelf$Contents" "names" "[I"),
  (Jvm.Cond.laysFinal "ZoneShelf$Contents" "ZoneShelf$Contents" "hints" "[I"),
  (Jvm.Cond.laysFinal "ZoneShelf$Contents" "ZoneShelf$Contents" "lengths" "[I"),
  (Jvm.Cond.laysFinal "ZoneShelf$Contents" "ZoneShelf$Contents" "opened" "[Z"),
  (Jvm.Cond.laysFinal "ZoneShelf$Contents" "ZoneShelf$Contents" "words" "[I"),
  (Jvm.Cond.arrayClass Jvm.ClassFile.FieldType.int),
  (Jvm.Cond.arrayClass Jvm.ClassFile.FieldType.boolean),
  (Jvm.Cond.fieldLink "ZoneShelf" (10 : Nat) "ZoneShelf" "current" "LZoneShelf$Contents;"),
  (Jvm.Cond.fieldLink "ZoneShelf" (16 : Nat) "ZoneShelf" "synced" "LZoneShelf$Contents;"),
  (Jvm.Cond.fieldLink "ZoneShelf" (19 : Nat) "ZoneShelf" "up" "Z"),
  (Jvm.Cond.laysFinal "ZoneShelf" "ZoneShelf" "current" "LZoneShelf$Contents;"),
  (Jvm.Cond.laysFinal "ZoneShelf" "ZoneShelf" "synced" "LZoneShelf$Contents;"),
  (Jvm.Cond.lays "ZoneShelf" "ZoneShelf" "up" "Z"),
  (Jvm.Cond.methodLink "ZoneShelfLaw" (13 : Nat) ({ cls := "ZoneShelf", name := "create", desc := "(II)I" } : Jvm.MethodName)),
  (Jvm.Cond.instanceMethod ({ cls := "ZoneShelf", name := "create", desc := "(II)I" } : Jvm.MethodName)),
  (Jvm.Cond.selects "ZoneShelf" ({ cls := "ZoneShelf", name := "create", desc := "(II)I" } : Jvm.MethodName) ({ cls := "ZoneShelf", name := "create", desc := "(II)I" } : Jvm.MethodName)),
  (Jvm.Cond.code ({ cls := "ZoneShelf", name := "create", desc := "(II)I" } : Jvm.MethodName) prog_1_method_2_code (4 : Nat) (Option.some Jvm.ClassFile.FieldType.int)),
  (Jvm.Cond.methodLink "ZoneShelf" (23 : Nat) ({ cls := "ZoneShelf", name := "isFreeName", desc := "(I)Z" } : Jvm.MethodName)),
  (Jvm.Cond.instanceMethod ({ cls := "ZoneShelf", name := "isFreeName", desc := "(I)Z" } : Jvm.MethodName)),
  (Jvm.Cond.code ({ cls := "ZoneShelf", name := "isFreeName", desc := "(I)Z" } : Jvm.MethodName) prog_1_method_21_code (2 : Nat) (Option.some Jvm.ClassFile.FieldType.boolean)),
  (Jvm.Cond.methodLink "ZoneShelf" (87 : Nat) ({ cls := "ZoneShelf", name := "isName", desc := "(I)Z" } : Jvm.MethodName)),
  (Jvm.Cond.static ({ cls := "ZoneShelf", name := "isName", desc := "(I)Z" } : Jvm.MethodName)),
  (Jvm.Cond.code ({ cls := "ZoneShelf", name := "isName", desc := "(I)Z" } : Jvm.MethodName) prog_1_method_23_code (1 : Nat) (Option.some Jvm.ClassFile.FieldType.boolean)),
  (Jvm.Cond.instanceMethod ({ cls := "ZoneShelf$Contents", name := "numberOf", desc := "(I)I" } : Jvm.MethodName)),
  (Jvm.Cond.code ({ cls := "ZoneShelf$Contents", name := "numberOf", desc := "(I)I" } : Jvm.MethodName) prog_2_method_4_code (3 : Nat) (Option.some Jvm.ClassFile.FieldType.int)),
  (Jvm.Cond.methodLink "ZoneShelf" (27 : Nat) ({ cls := "ZoneShelf", name := "isHint", desc := "(I)Z" } : Jvm.MethodName)),
  (Jvm.Cond.static ({ cls := "ZoneShelf", name := "isHint", desc := "(I)Z" } : Jvm.MethodName)),
  (Jvm.Cond.code ({ cls := "ZoneShelf", name := "isHint", desc := "(I)Z" } : Jvm.MethodName) prog_1_method_24_code (1 : Nat) (Option.some Jvm.ClassFile.FieldType.boolean)),
  (Jvm.Cond.instanceMethod ({ cls := "ZoneShelf$Contents", name := "leastFreeNumber", desc := "()I" } : Jvm.MethodName)),
  (Jvm.Cond.code ({ cls := "ZoneShelf$Contents", name := "leastFreeNumber", desc := "()I" } : Jvm.MethodName) prog_2_method_3_code (2 : Nat) (Option.some Jvm.ClassFile.FieldType.int)),
  (Jvm.Cond.methodLink "ZoneShelf$Contents" (34 : Nat) ({ cls := "ZoneShelf$Contents", name := "isTaken", desc := "(I)Z" } : Jvm.MethodName)),
  (Jvm.Cond.instanceMethod ({ cls := "ZoneShelf$Contents", name := "isTaken", desc := "(I)Z" } : Jvm.MethodName)),
  (Jvm.Cond.code ({ cls := "ZoneShelf$Contents", name := "isTaken", desc := "(I)Z" } : Jvm.MethodName) prog_2_method_2_code (2 : Nat) (Option.some Jvm.ClassFile.FieldType.boolean)),
  (Jvm.Cond.instanceMethod ({ cls := "ZoneShelf$Contents", name := "place", desc := "(III)V" } : Jvm.MethodName)),
  (Jvm.Cond.code ({ cls := "ZoneShelf$Contents", name := "place", desc := "(III)V" } : Jvm.MethodName) prog_2_method_9_code (4 : Nat) (Option.none : Option Jvm.ClassFile.FieldType)),
  (Jvm.Cond.methodLink "ZoneShelfLaw" (18 : Nat) ({ cls := "ZoneShelf", name := "append", desc := "(II)Z" } : Jvm.MethodName)),
  (Jvm.Cond.instanceMethod ({ cls := "ZoneShelf", name := "append", desc := "(II)Z" } : Jvm.MethodName)),
  (Jvm.Cond.selects "ZoneShelf" ({ cls := "ZoneShelf", name := "append", desc := "(II)Z" } : Jvm.MethodName) ({ cls := "ZoneShelf", name := "append", desc := "(II)Z" } : Jvm.MethodName)),
  (Jvm.Cond.code ({ cls := "ZoneShelf", name := "append", desc := "(II)Z" } : Jvm.MethodName) prog_1_method_3_code (3 : Nat) (Option.some Jvm.ClassFile.FieldType.boolean)),
  (Jvm.Cond.methodLink "ZoneShelf" (38 : Nat) ({ cls := "ZoneShelf", name := "appendRow", desc := "(III)Z" } : Jvm.MethodName)),
  (Jvm.Cond.instanceMethod ({ cls := "ZoneShelf", name := "appendRow", desc := "(III)Z" } : Jvm.MethodName)),
  (Jvm.Cond.selects "ZoneShelf" ({ cls := "ZoneShelf", name := "appendRow", desc := "(III)Z" } : Jvm.MethodName) ({ cls := "ZoneShelf", name := "appendRow", desc := "(III)Z" } : Jvm.MethodName)),
  (Jvm.Cond.code ({ cls := "ZoneShelf", name := "appendRow", desc := "(III)Z" } : Jvm.MethodName) prog_1_method_4_code (4 : Nat) (Option.some Jvm.ClassFile.FieldType.boolean)),
  (Jvm.Cond.methodLink "ZoneShelf" (42 : Nat) ({ cls := "ZoneShelf", name := "isThere", desc := "(I)Z" } : Jvm.MethodName)),
  (Jvm.Cond.instanceMethod ({ cls := "ZoneShelf", name := "isThere", desc := "(I)Z" } : Jvm.MethodName)),
  (Jvm.Cond.code ({ cls := "ZoneShelf", name := "isThere", desc := "(I)Z" } : Jvm.MethodName) prog_1_method_20_code (2 : Nat) (Option.some Jvm.ClassFile.FieldType.boolean)),
  (Jvm.Cond.methodLink "ZoneShelf" (49 : Nat) ({ cls := "ZoneShelf", name := "roomIn", desc := "(I)I" } : Jvm.MethodName)),
  (Jvm.Cond.instanceMethod ({ cls := "ZoneShelf", name := "roomIn", desc := "(I)I" } : Jvm.MethodName)),
  (Jvm.Cond.code ({ cls := "ZoneShelf", name := "roomIn", desc := "(I)I" } : Jvm.MethodName) prog_1_method_22_code (2 : Nat) (Option.some Jvm.ClassFile.FieldType.int)),
  (Jvm.Cond.instanceMethod ({ cls := "ZoneShelf$Contents", name := "countWords", desc := "()I" } : Jvm.MethodName)),
  (Jvm.Cond.code ({ cls := "ZoneShelf$Contents", name := "countWords", desc := "()I" } : Jvm.MethodName) prog_2_method_8_code (3 : Nat) (Option.some Jvm.ClassFile.FieldType.int)),
  (Jvm.Cond.methodLink "ZoneShelf" (99 : Nat) ({ cls := "java/lang/Math", name := "min", desc := "(II)I" } : Jvm.MethodName)),
  (Jvm.Cond.static ({ cls := "java/lang/Math", name := "min", desc := "(II)I" } : Jvm.MethodName)),
  (Jvm.Cond.code ({ cls := "java/lang/Math", name := "min", desc := "(II)I" } : Jvm.MethodName) prog_5_method_69_code (2 : Nat) (Option.some Jvm.ClassFile.FieldType.int)),
  (Jvm.Cond.instanceMethod ({ cls := "ZoneShelf$Contents", name := "addRow", desc := "(III)V" } : Jvm.MethodName)),
  (Jvm.Cond.code ({ cls := "ZoneShelf$Contents", name := "addRow", desc := "(III)V" } : Jvm.MethodName) prog_2_method_11_code (6 : Nat) (Option.none : Option Jvm.ClassFile.FieldType)),
  (Jvm.Cond.methodLink "ZoneShelfLaw" (23 : Nat) ({ cls := "ZoneShelf", name := "appendRow", desc := "(III)Z" } : Jvm.MethodName)),
  (Jvm.Cond.methodLink "ZoneShelfLaw" (28 : Nat) ({ cls := "ZoneShelf", name := "open", desc := "(IZ)Z" } : Jvm.MethodName)),
  (Jvm.Cond.instanceMethod ({ cls := "ZoneShelf", name := "open", desc := "(IZ)Z" } : Jvm.MethodName)),
  (Jvm.Cond.selects "ZoneShelf" ({ cls := "ZoneShelf", name := "open", desc := "(IZ)Z" } : Jvm.MethodName) ({ cls := "ZoneShelf", name := "open", desc := "(IZ)Z" } : Jvm.MethodName)),
  (Jvm.Cond.code ({ cls := "ZoneShelf", name := "open", desc := "(IZ)Z" } : Jvm.MethodName) prog_1_method_5_code (3 : Nat) (Option.some Jvm.ClassFile.FieldType.boolean)),
  (Jvm.Cond.methodLink "ZoneShelfLaw" (33 : Nat) ({ cls := "ZoneShelf", name := "remove", desc := "(I)Z" } : Jvm.MethodName)),
  (Jvm.Cond.instanceMethod ({ cls := "ZoneShelf", name := "remove", desc := "(I)Z" } : Jvm.MethodName)),
  (Jvm.Cond.selects "ZoneShelf" ({ cls := "ZoneShelf", name := "remove", desc := "(I)Z" } : Jvm.MethodName) ({ cls := "ZoneShelf", name := "remove", desc := "(I)Z" } : Jvm.MethodName)),
  (Jvm.Cond.code ({ cls := "ZoneShelf", name := "remove", desc := "(I)Z" } : Jvm.MethodName) prog_1_method_6_code (2 : Nat) (Option.some Jvm.ClassFile.FieldType.boolean)),
  (Jvm.Cond.instanceMethod ({ cls := "ZoneShelf$Contents", name := "takeAway", desc := "(I)V" } : Jvm.MethodName)),
  (Jvm.Cond.code ({ cls := "ZoneShelf$Contents", name := "takeAway", desc := "(I)V" } : Jvm.MethodName) prog_2_method_10_code (2 : Nat) (Option.none : Option Jvm.ClassFile.FieldType)),
  (Jvm.Cond.methodLink "ZoneShelfLaw" (38 : Nat) ({ cls := "ZoneShelf", name := "rename", desc := "(II)Z" } : Jvm.MethodName)),
  (Jvm.Cond.instanceMethod ({ cls := "ZoneShelf", name := "rename", desc := "(II)Z" } : Jvm.MethodName)),
  (Jvm.Cond.selects "ZoneShelf" ({ cls := "ZoneShelf", name := "rename", desc := "(II)Z" } : Jvm.MethodName) ({ cls := "ZoneShelf", name := "rename", desc := "(II)Z" } : Jvm.MethodName)),
  (Jvm.Cond.code ({ cls := "ZoneShelf", name := "rename", desc := "(II)Z" } : Jvm.MethodName) prog_1_method_7_code (3 : Nat) (Option.some Jvm.ClassFile.FieldType.boolean)),
  (Jvm.Cond.methodLink "ZoneShelfLaw" (42 : Nat) ({ cls := "ZoneShelf", name := "sync", desc := "()Z" } : Jvm.MethodName)),
  (Jvm.Cond.instanceMethod ({ cls := "ZoneShelf", name := "sync", desc := "()Z" } : Jvm.MethodName)),
  (Jvm.Cond.selects "ZoneShelf" ({ cls := "ZoneShelf", name := "sync", desc := "()Z" } : Jvm.MethodName) ({ cls := "ZoneShelf", name := "sync", desc := "()Z" } : Jvm.MethodName)),
  (Jvm.Cond.code ({ cls := "ZoneShelf", name := "sync", desc := "()Z" } : Jvm.MethodName) prog_1_method_8_code (1 : Nat) (Option.some Jvm.ClassFile.FieldType.boolean)),
  (Jvm.Cond.instanceMethod ({ cls := "ZoneShelf$Contents", name := "copyFrom", desc := "(LZoneShelf$Contents;)V" } : Jvm.MethodName)),
  (Jvm.Cond.code ({ cls := "ZoneShelf$Contents", name := "copyFrom", desc := "(LZoneShelf$Contents;)V" } : Jvm.MethodName) prog_2_method_12_code (3 : Nat) (Option.none : Option Jvm.ClassFile.FieldType)),
  (Jvm.Cond.methodLink "ZoneShelf$Contents" (42 : Nat) ({ cls := "java/lang/System", name := "arraycopy", desc := "(Ljava/lang/Object;ILjava/lang/Object;II)V" } : Jvm.MethodName)),
  (Jvm.Cond.static ({ cls := "java/lang/System", name := "arraycopy", desc := "(Ljava/lang/Object;ILjava/lang/Object;II)V" } : Jvm.MethodName)),
  (Jvm.Cond.native ({ cls := "java/lang/System", name := "arraycopy", desc := "(Ljava/lang/Object;ILjava/lang/Object;II)V" } : Jvm.MethodName)),
  (Jvm.Cond.methodLink "ZoneShelfLaw" (47 : Nat) ({ cls := "ZoneShelf", name := "tear", desc := "()Z" } : Jvm.MethodName)),
  (Jvm.Cond.instanceMethod ({ cls := "ZoneShelf", name := "tear", desc := "()Z" } : Jvm.MethodName)),
  (Jvm.Cond.selects "ZoneShelf" ({ cls := "ZoneShelf", name := "tear", desc := "()Z" } : Jvm.MethodName) ({ cls := "ZoneShelf", name := "tear", desc := "()Z" } : Jvm.MethodName)),
  (Jvm.Cond.code ({ cls := "ZoneShelf", name := "tear", desc := "()Z" } : Jvm.MethodName) prog_1_method_9_code (1 : Nat) (Option.some Jvm.ClassFile.FieldType.boolean)),
  (Jvm.Cond.methodLink "ZoneShelf" (68 : Nat) ({ cls := "ZoneShelf", name := "cut", desc := "()Z" } : Jvm.MethodName)),
  (Jvm.Cond.instanceMethod ({ cls := "ZoneShelf", name := "cut", desc := "()Z" } : Jvm.MethodName)),
  (Jvm.Cond.selects "ZoneShelf" ({ cls := "ZoneShelf", name := "cut", desc := "()Z" } : Jvm.MethodName) ({ cls := "ZoneShelf", name := "cut", desc := "()Z" } : Jvm.MethodName)),
  (Jvm.Cond.code ({ cls := "ZoneShelf", name := "cut", desc := "()Z" } : Jvm.MethodName) prog_1_method_10_code (1 : Nat) (Option.some Jvm.ClassFile.FieldType.boolean)),
  (Jvm.Cond.methodLink "ZoneShelfLaw" (51 : Nat) ({ cls := "ZoneShelf", name := "cut", desc := "()Z" } : Jvm.MethodName)),
  (Jvm.Cond.methodLink "ZoneShelfLaw" (55 : Nat) ({ cls := "ZoneShelf", name := "mount", desc := "()Z" } : Jvm.MethodName)),
  (Jvm.Cond.instanceMethod ({ cls := "ZoneShelf", name := "mount", desc := "()Z" } : Jvm.MethodName)),
  (Jvm.Cond.selects "ZoneShelf" ({ cls := "ZoneShelf", name := "mount", desc := "()Z" } : Jvm.MethodName) ({ cls := "ZoneShelf", name := "mount", desc := "()Z" } : Jvm.MethodName)),
  (Jvm.Cond.code ({ cls := "ZoneShelf", name := "mount", desc := "()Z" } : Jvm.MethodName) prog_1_method_11_code (1 : Nat) (Option.some Jvm.ClassFile.FieldType.boolean)),
  (Jvm.Cond.methodLink "ZoneShelfLaw" (59 : Nat) ({ cls := "ZoneShelf", name := "tidy", desc := "()Z" } : Jvm.MethodName)),
  (Jvm.Cond.instanceMethod ({ cls := "ZoneShelf", name := "tidy", desc := "()Z" } : Jvm.MethodName)),
  (Jvm.Cond.selects "ZoneShelf" ({ cls := "ZoneShelf", name := "tidy", desc := "()Z" } : Jvm.MethodName) ({ cls := "ZoneShelf", name := "tidy", desc := "()Z" } : Jvm.MethodName)),
  (Jvm.Cond.code ({ cls := "ZoneShelf", name := "tidy", desc := "()Z" } : Jvm.MethodName) prog_1_method_12_code (1 : Nat) (Option.some Jvm.ClassFile.FieldType.boolean)),
  (Jvm.Cond.methodLink "ZoneShelfLaw" (63 : Nat) ({ cls := "ZoneShelf", name := "isUp", desc := "()Z" } : Jvm.MethodName)),
  (Jvm.Cond.instanceMethod ({ cls := "ZoneShelf", name := "isUp", desc := "()Z" } : Jvm.MethodName)),
  (Jvm.Cond.selects "ZoneShelf" ({ cls := "ZoneShelf", name := "isUp", desc := "()Z" } : Jvm.MethodName) ({ cls := "ZoneShelf", name := "isUp", desc := "()Z" } : Jvm.MethodName)),
  (Jvm.Cond.code ({ cls := "ZoneShelf", name := "isUp", desc := "()Z" } : Jvm.MethodName) prog_1_method_13_code (1 : Nat) (Option.some Jvm.ClassFile.FieldType.boolean)),
  (Jvm.Cond.methodLink "ZoneShelfLaw" (67 : Nat) ({ cls := "ZoneShelf", name := "objects", desc := "()I" } : Jvm.MethodName)),
  (Jvm.Cond.instanceMethod ({ cls := "ZoneShelf", name := "objects", desc := "()I" } : Jvm.MethodName)),
  (Jvm.Cond.selects "ZoneShelf" ({ cls := "ZoneShelf", name := "objects", desc := "()I" } : Jvm.MethodName) ({ cls := "ZoneShelf", name := "objects", desc := "()I" } : Jvm.MethodName)),
  (Jvm.Cond.code ({ cls := "ZoneShelf", name := "objects", desc := "()I" } : Jvm.MethodName) prog_1_method_14_code (1 : Nat) (Option.some Jvm.ClassFile.FieldType.int)),
  (Jvm.Cond.instanceMethod ({ cls := "ZoneShelf$Contents", name := "countObjects", desc := "()I" } : Jvm.MethodName)),
  (Jvm.Cond.code ({ cls := "ZoneShelf$Contents", name := "countObjects", desc := "()I" } : Jvm.MethodName) prog_2_method_7_code (3 : Nat) (Option.some Jvm.ClassFile.FieldType.int)),
  (Jvm.Cond.methodLink "ZoneShelfLaw" (72 : Nat) ({ cls := "ZoneShelf", name := "room", desc := "()I" } : Jvm.MethodName)),
  (Jvm.Cond.instanceMethod ({ cls := "ZoneShelf", name := "room", desc := "()I" } : Jvm.MethodName)),
  (Jvm.Cond.selects "ZoneShelf" ({ cls := "ZoneShelf", name := "room", desc := "()I" } : Jvm.MethodName) ({ cls := "ZoneShelf", name := "room", desc := "()I" } : Jvm.MethodName)),
  (Jvm.Cond.code ({ cls := "ZoneShelf", name := "room", desc := "()I" } : Jvm.MethodName) prog_1_method_15_code (1 : Nat) (Option.some Jvm.ClassFile.FieldType.int)),
  (Jvm.Cond.methodLink "ZoneShelfLaw" (76 : Nat) ({ cls := "ZoneShelf", name := "object", desc := "(II)I" } : Jvm.MethodName)),
  (Jvm.Cond.instanceMethod ({ cls := "ZoneShelf", name := "object", desc := "(II)I" } : Jvm.MethodName)),
  (Jvm.Cond.selects "ZoneShelf" ({ cls := "ZoneShelf", name := "object", desc := "(II)I" } : Jvm.MethodName) ({ cls := "ZoneShelf", name := "object", desc := "(II)I" } : Jvm.MethodName)),
  (Jvm.Cond.code ({ cls := "ZoneShelf", name := "object", desc := "(II)I" } : Jvm.MethodName) prog_1_method_16_code (3 : Nat) (Option.some Jvm.ClassFile.FieldType.int)),
  (Jvm.Cond.methodLink "ZoneShelfLaw" (80 : Nat) ({ cls := "ZoneShelf", name := "word", desc := "(II)I" } : Jvm.MethodName)),
  (Jvm.Cond.instanceMethod ({ cls := "ZoneShelf", name := "word", desc := "(II)I" } : Jvm.MethodName)),
  (Jvm.Cond.selects "ZoneShelf" ({ cls := "ZoneShelf", name := "word", desc := "(II)I" } : Jvm.MethodName) ({ cls := "ZoneShelf", name := "word", desc := "(II)I" } : Jvm.MethodName)),
  (Jvm.Cond.code ({ cls := "ZoneShelf", name := "word", desc := "(II)I" } : Jvm.MethodName) prog_1_method_17_code (3 : Nat) (Option.some Jvm.ClassFile.FieldType.int)),
  (Jvm.Cond.methodLink "ZoneShelfLaw" (84 : Nat) ({ cls := "ZoneShelf", name := "find", desc := "(I)I" } : Jvm.MethodName)),
  (Jvm.Cond.instanceMethod ({ cls := "ZoneShelf", name := "find", desc := "(I)I" } : Jvm.MethodName)),
  (Jvm.Cond.selects "ZoneShelf" ({ cls := "ZoneShelf", name := "find", desc := "(I)I" } : Jvm.MethodName) ({ cls := "ZoneShelf", name := "find", desc := "(I)I" } : Jvm.MethodName)),
  (Jvm.Cond.code ({ cls := "ZoneShelf", name := "find", desc := "(I)I" } : Jvm.MethodName) prog_1_method_18_code (2 : Nat) (Option.some Jvm.ClassFile.FieldType.int)),
  (Jvm.Cond.methodLink "ZoneShelfLaw" (89 : Nat) ({ cls := "ZoneShelf", name := "list", desc := "(I)I" } : Jvm.MethodName)),
  (Jvm.Cond.instanceMethod ({ cls := "ZoneShelf", name := "list", desc := "(I)I" } : Jvm.MethodName)),
  (Jvm.Cond.selects "ZoneShelf" ({ cls := "ZoneShelf", name := "list", desc := "(I)I" } : Jvm.MethodName) ({ cls := "ZoneShelf", name := "list", desc := "(I)I" } : Jvm.MethodName)),
  (Jvm.Cond.code ({ cls := "ZoneShelf", name := "list", desc := "(I)I" } : Jvm.MethodName) prog_1_method_19_code (2 : Nat) (Option.some Jvm.ClassFile.FieldType.int)),
  (Jvm.Cond.instanceMethod ({ cls := "ZoneShelf$Contents", name := "numberAtRank", desc := "(I)I" } : Jvm.MethodName)),
  (Jvm.Cond.code ({ cls := "ZoneShelf$Contents", name := "numberAtRank", desc := "(I)I" } : Jvm.MethodName) prog_2_method_5_code (3 : Nat) (Option.some Jvm.ClassFile.FieldType.int)),
  (Jvm.Cond.methodLink "ZoneShelf$Contents" (38 : Nat) ({ cls := "ZoneShelf$Contents", name := "countNamesBelow", desc := "(I)I" } : Jvm.MethodName)),
  (Jvm.Cond.instanceMethod ({ cls := "ZoneShelf$Contents", name := "countNamesBelow", desc := "(I)I" } : Jvm.MethodName)),
  (Jvm.Cond.code ({ cls := "ZoneShelf$Contents", name := "countNamesBelow", desc := "(I)I" } : Jvm.MethodName) prog_2_method_6_code (4 : Nat) (Option.some Jvm.ClassFile.FieldType.int)),
  (Jvm.Cond.classLink "ZoneShelfLaw" (10 : Nat) "ZoneShelfModel"),
  (Jvm.Cond.instantiable "ZoneShelfModel" (11 : Nat)),
  (Jvm.Cond.methodLink "ZoneShelfLaw" (12 : Nat) ({ cls := "ZoneShelfModel", name := "<init>", desc := "()V" } : Jvm.MethodName)),
  (Jvm.Cond.instanceMethod ({ cls := "ZoneShelfModel", name := "<init>", desc := "()V" } : Jvm.MethodName)),
  (Jvm.Cond.code ({ cls := "ZoneShelfModel", name := "<init>", desc := "()V" } : Jvm.MethodName) prog_4_method_1_code (1 : Nat) (Option.none : Option Jvm.ClassFile.FieldType)),
  (Jvm.Cond.methodLink "ZoneShelfModel" (1 : Nat) ({ cls := "java/lang/Object", name := "<init>", desc := "()V" } : Jvm.MethodName)),
  (Jvm.Cond.fieldLink "ZoneShelfModel" (7 : Nat) "ZoneShelfModel" "up" "Z"),
  (Jvm.Cond.fieldLink "ZoneShelfModel" (13 : Nat) "ZoneShelfModel" "names" "[I"),
  (Jvm.Cond.fieldLink "ZoneShelfModel" (17 : Nat) "ZoneShelfModel" "hints" "[I"),
  (Jvm.Cond.fieldLink "ZoneShelfModel" (20 : Nat) "ZoneShelfModel" "sizes" "[I"),
  (Jvm.Cond.fieldLink "ZoneShelfModel" (23 : Nat) "ZoneShelfModel" "opens" "[Z"),
  (Jvm.Cond.fieldLink "ZoneShelfModel" (27 : Nat) "ZoneShelfModel" "words" "[I"),
  (Jvm.Cond.fieldLink "ZoneShelfModel" (30 : Nat) "ZoneShelfModel" "oldNames" "[I"),
  (Jvm.Cond.fieldLink "ZoneShelfModel" (33 : Nat) "ZoneShelfModel" "oldHints" "[I"),
  (Jvm.Cond.fieldLink "ZoneShelfModel" (36 : Nat) "ZoneShelfModel" "oldSizes" "[I"),
  (Jvm.Cond.fieldLink "ZoneShelfModel" (39 : Nat) "ZoneShelfModel" "oldOpens" "[Z"),
  (Jvm.Cond.fieldLink "ZoneShelfModel" (42 : Nat) "ZoneShelfModel" "oldWords" "[I"),
  (Jvm.Cond.lays "ZoneShelfModel" "ZoneShelfModel" "up" "Z"),
  (Jvm.Cond.laysFinal "ZoneShelfModel" "ZoneShelfModel" "names" "[I"),
  (Jvm.Cond.laysFinal "ZoneShelfModel" "ZoneShelfModel" "hints" "[I"),
  (Jvm.Cond.laysFinal "ZoneShelfModel" "ZoneShelfModel" "sizes" "[I"),
  (Jvm.Cond.laysFinal "ZoneShelfModel" "ZoneShelfModel" "opens" "[Z"),
  (Jvm.Cond.laysFinal "ZoneShelfModel" "ZoneShelfModel" "words" "[I"),
  (Jvm.Cond.laysFinal "ZoneShelfModel" "ZoneShelfModel" "oldNames" "[I"),
  (Jvm.Cond.laysFinal "ZoneShelfModel" "ZoneShelfModel" "oldHints" "[I"),
  (Jvm.Cond.laysFinal "ZoneShelfModel" "ZoneShelfModel" "oldSizes" "[I"),
  (Jvm.Cond.laysFinal "ZoneShelfModel" "ZoneShelfModel" "oldOpens" "[Z"),
  (Jvm.Cond.laysFinal "ZoneShelfModel" "ZoneShelfModel" "oldWords" "[I"),
  (Jvm.Cond.methodLink "ZoneShelfLaw" (17 : Nat) ({ cls := "ZoneShelfModel", name := "create", desc := "(II)I" } : Jvm.MethodName)),
  (Jvm.Cond.instanceMethod ({ cls := "ZoneShelfModel", name := "create", desc := "(II)I" } : Jvm.MethodName)),
  (Jvm.Cond.selects "ZoneShelfModel" ({ cls := "ZoneShelfModel", name := "create", desc := "(II)I" } : Jvm.MethodName) ({ cls := "ZoneShelfModel", name := "create", desc := "(II)I" } : Jvm.MethodName)),
  (Jvm.Cond.code ({ cls := "ZoneShelfModel", name := "create", desc := "(II)I" } : Jvm.MethodName) prog_4_method_6_code (4 : Nat) (Option.some Jvm.ClassFile.FieldType.int)),
  (Jvm.Cond.methodLink "ZoneShelfModel" (45 : Nat) ({ cls := "ZoneShelfModel", name := "isName", desc := "(I)Z" } : Jvm.MethodName)),
  (Jvm.Cond.static ({ cls := "ZoneShelfModel", name := "isName", desc := "(I)Z" } : Jvm.MethodName)),
  (Jvm.Cond.code ({ cls := "ZoneShelfModel", name := "isName", desc := "(I)Z" } : Jvm.MethodName) prog_4_method_3_code (1 : Nat) (Option.some Jvm.ClassFile.FieldType.boolean)),
  (Jvm.Cond.methodLink "ZoneShelfModel" (52 : Nat) ({ cls := "ZoneShelfModel", name := "named", desc := "(I)I" } : Jvm.MethodName)),
  (Jvm.Cond.instanceMethod ({ cls := "ZoneShelfModel", name := "named", desc := "(I)I" } : Jvm.MethodName)),
  (Jvm.Cond.code ({ cls := "ZoneShelfModel", name := "named", desc := "(I)I" } : Jvm.MethodName) prog_4_method_4_code (4 : Nat) (Option.some Jvm.ClassFile.FieldType.int)),
  (Jvm.Cond.methodLink "ZoneShelfModel" (49 : Nat) ({ cls := "ZoneShelfModel", name := "is", desc := "(I)Z" } : Jvm.MethodName)),
  (Jvm.Cond.instanceMethod ({ cls := "ZoneShelfModel", name := "is", desc := "(I)Z" } : Jvm.MethodName)),
  (Jvm.Cond.code ({ cls := "ZoneShelfModel", name := "is", desc := "(I)Z" } : Jvm.MethodName) prog_4_method_2_code (2 : Nat) (Option.some Jvm.ClassFile.FieldType.boolean)),
  (Jvm.Cond.methodLink "ZoneShelfLaw" (22 : Nat) ({ cls := "ZoneShelfModel", name := "append", desc := "(II)Z" } : Jvm.MethodName)),
  (Jvm.Cond.instanceMethod ({ cls := "ZoneShelfModel", name := "append", desc := "(II)Z" } : Jvm.MethodName)),
  (Jvm.Cond.selects "ZoneShelfModel" ({ cls := "ZoneShelfModel", name := "append", desc := "(II)Z" } : Jvm.MethodName) ({ cls := "ZoneShelfModel", name := "append", desc := "(II)Z" } : Jvm.MethodName)),
  (Jvm.Cond.code ({ cls := "ZoneShelfModel", name := "append", desc := "(II)Z" } : Jvm.MethodName) prog_4_method_7_code (3 : Nat) (Option.some Jvm.ClassFile.FieldType.boolean)),
  (Jvm.Cond.methodLink "ZoneShelfModel" (56 : Nat) ({ cls := "ZoneShelfModel", name := "appendRow", desc := "(III)Z" } : Jvm.MethodName)),
  (Jvm.Cond.instanceMethod ({ cls := "ZoneShelfModel", name := "appendRow", desc := "(III)Z" } : Jvm.MethodName)),
  (Jvm.Cond.selects "ZoneShelfModel" ({ cls := "ZoneShelfModel", name := "appendRow", desc := "(III)Z" } : Jvm.MethodName) ({ cls := "ZoneShelfModel", name := "appendRow", desc := "(III)Z" } : Jvm.MethodName)),
  (Jvm.Cond.code ({ cls := "ZoneShelfModel", name := "appendRow", desc := "(III)Z" } : Jvm.MethodName) prog_4_method_8_code (5 : Nat) (Option.some Jvm.ClassFile.FieldType.boolean)),
  (Jvm.Cond.methodLink "ZoneShelfModel" (60 : Nat) ({ cls := "ZoneShelfModel", name := "left", desc := "()I" } : Jvm.MethodName)),
  (Jvm.Cond.instanceMethod ({ cls := "ZoneShelfModel", name := "left", desc := "()I" } : Jvm.MethodName)),
  (Jvm.Cond.code ({ cls := "ZoneShelfModel", name := "left", desc := "()I" } : Jvm.MethodName) prog_4_method_5_code (3 : Nat) (Option.some Jvm.ClassFile.FieldType.int)),
  (Jvm.Cond.methodLink "ZoneShelfLaw" (27 : Nat) ({ cls := "ZoneShelfModel", name := "appendRow", desc := "(III)Z" } : Jvm.MethodName)),
  (Jvm.Cond.methodLink "ZoneShelfLaw" (32 : Nat) ({ cls := "ZoneShelfModel", name := "open", desc := "(IZ)Z" } : Jvm.MethodName)),
  (Jvm.Cond.instanceMethod ({ cls := "ZoneShelfModel", name := "open", desc := "(IZ)Z" } : Jvm.MethodName)),
  (Jvm.Cond.selects "ZoneShelfModel" ({ cls := "ZoneShelfModel", name := "open", desc := "(IZ)Z" } : Jvm.MethodName) ({ cls := "ZoneShelfModel", name := "open", desc := "(IZ)Z" } : Jvm.MethodName)),
  (Jvm.Cond.code ({ cls := "ZoneShelfModel", name := "open", desc := "(IZ)Z" } : Jvm.MethodName) prog_4_method_9_code (3 : Nat) (Option.some Jvm.ClassFile.FieldType.boolean)),
  (Jvm.Cond.methodLink "ZoneShelfLaw" (37 : Nat) ({ cls := "ZoneShelfModel", name := "remove", desc := "(I)Z" } : Jvm.MethodName)),
  (Jvm.Cond.instanceMethod ({ cls := "ZoneShelfModel", name := "remove", desc := "(I)Z" } : Jvm.MethodName)),
  (Jvm.Cond.selects "ZoneShelfModel" ({ cls := "ZoneShelfModel", name := "remove", desc := "(I)Z" } : Jvm.MethodName) ({ cls := "ZoneShelfModel", name := "remove", desc := "(I)Z" } : Jvm.MethodName)),
  (Jvm.Cond.code ({ cls := "ZoneShelfModel", name := "remove", desc := "(I)Z" } : Jvm.MethodName) prog_4_method_10_code (2 : Nat) (Option.some Jvm.ClassFile.FieldType.boolean)),
  (Jvm.Cond.methodLink "ZoneShelfLaw" (41 : Nat) ({ cls := "ZoneShelfModel", name := "rename", desc := "(II)Z" } : Jvm.MethodName)),
  (Jvm.Cond.instanceMethod ({ cls := "ZoneShelfModel", name := "rename", desc := "(II)Z" } : Jvm.MethodName)),
  (Jvm.Cond.selects "ZoneShelfModel" ({ cls := "ZoneShelfModel", name := "rename", desc := "(II)Z" } : Jvm.MethodName) ({ cls := "ZoneShelfModel", name := "rename", desc := "(II)Z" } : Jvm.MethodName)),
  (Jvm.Cond.code ({ cls := "ZoneShelfModel", name := "rename", desc := "(II)Z" } : Jvm.MethodName) prog_4_method_11_code (3 : Nat) (Option.some Jvm.ClassFile.FieldType.boolean)),
  (Jvm.Cond.methodLink "ZoneShelfLaw" (46 : Nat) ({ cls := "ZoneShelfModel", name := "sync", desc := "()Z" } : Jvm.MethodName)),
  (Jvm.Cond.instanceMethod ({ cls := "ZoneShelfModel", name := "sync", desc := "()Z" } : Jvm.MethodName)),
  (Jvm.Cond.selects "ZoneShelfModel" ({ cls := "ZoneShelfModel", name := "sync", desc := "()Z" } : Jvm.MethodName) ({ cls := "ZoneShelfModel", name := "sync", desc := "()Z" } : Jvm.MethodName)),
  (Jvm.Cond.code ({ cls := "ZoneShelfModel", name := "sync", desc := "()Z" } : Jvm.MethodName) prog_4_method_12_code (2 : Nat) (Option.some Jvm.ClassFile.FieldType.boolean)),
  (Jvm.Cond.methodLink "ZoneShelfLaw" (50 : Nat) ({ cls := "ZoneShelfModel", name := "tear", desc := "()Z" } : Jvm.MethodName)),
  (Jvm.Cond.instanceMethod ({ cls := "ZoneShelfModel", name := "tear", desc := "()Z" } : Jvm.MethodName)),
  (Jvm.Cond.selects "ZoneShelfModel" ({ cls := "ZoneShelfModel", name := "tear", desc := "()Z" } : Jvm.MethodName) ({ cls := "ZoneShelfModel", name := "tear", desc := "()Z" } : Jvm.MethodName)),
  (Jvm.Cond.code ({ cls := "ZoneShelfModel", name := "tear", desc := "()Z" } : Jvm.MethodName) prog_4_method_13_code (1 : Nat) (Option.some Jvm.ClassFile.FieldType.boolean)),
  (Jvm.Cond.methodLink "ZoneShelfModel" (64 : Nat) ({ cls := "ZoneShelfModel", name := "cut", desc := "()Z" } : Jvm.MethodName)),
  (Jvm.Cond.instanceMethod ({ cls := "ZoneShelfModel", name := "cut", desc := "()Z" } : Jvm.MethodName)),
  (Jvm.Cond.selects "ZoneShelfModel" ({ cls := "ZoneShelfModel", name := "cut", desc := "()Z" } : Jvm.MethodName) ({ cls := "ZoneShelfModel", name := "cut", desc := "()Z" } : Jvm.MethodName)),
  (Jvm.Cond.code ({ cls := "ZoneShelfModel", name := "cut", desc := "()Z" } : Jvm.MethodName) prog_4_method_14_code (2 : Nat) (Option.some Jvm.ClassFile.FieldType.boolean)),
  (Jvm.Cond.methodLink "ZoneShelfLaw" (54 : Nat) ({ cls := "ZoneShelfModel", name := "cut", desc := "()Z" } : Jvm.MethodName)),
  (Jvm.Cond.methodLink "ZoneShelfLaw" (58 : Nat) ({ cls := "ZoneShelfModel", name := "mount", desc := "()Z" } : Jvm.MethodName)),
  (Jvm.Cond.instanceMethod ({ cls := "ZoneShelfModel", name := "mount", desc := "()Z" } : Jvm.MethodName)),
  (Jvm.Cond.selects "ZoneShelfModel" ({ cls := "ZoneShelfModel", name := "mount", desc := "()Z" } : Jvm.MethodName) ({ cls := "ZoneShelfModel", name := "mount", desc := "()Z" } : Jvm.MethodName)),
  (Jvm.Cond.code ({ cls := "ZoneShelfModel", name := "mount", desc := "()Z" } : Jvm.MethodName) prog_4_method_15_code (2 : Nat) (Option.some Jvm.ClassFile.FieldType.boolean)),
  (Jvm.Cond.methodLink "ZoneShelfLaw" (62 : Nat) ({ cls := "ZoneShelfModel", name := "tidy", desc := "()Z" } : Jvm.MethodName)),
  (Jvm.Cond.instanceMethod ({ cls := "ZoneShelfModel", name := "tidy", desc := "()Z" } : Jvm.MethodName)),
  (Jvm.Cond.selects "ZoneShelfModel" ({ cls := "ZoneShelfModel", name := "tidy", desc := "()Z" } : Jvm.MethodName) ({ cls := "ZoneShelfModel", name := "tidy", desc := "()Z" } : Jvm.MethodName)),
  (Jvm.Cond.code ({ cls := "ZoneShelfModel", name := "tidy", desc := "()Z" } : Jvm.MethodName) prog_4_method_16_code (1 : Nat) (Option.some Jvm.ClassFile.FieldType.boolean)),
  (Jvm.Cond.methodLink "ZoneShelfLaw" (66 : Nat) ({ cls := "ZoneShelfModel", name := "isUp", desc := "()Z" } : Jvm.MethodName)),
  (Jvm.Cond.instanceMethod ({ cls := "ZoneShelfModel", name := "isUp", desc := "()Z" } : Jvm.MethodName)),
  (Jvm.Cond.selects "ZoneShelfModel" ({ cls := "ZoneShelfModel", name := "isUp", desc := "()Z" } : Jvm.MethodName) ({ cls := "ZoneShelfModel", name := "isUp", desc := "()Z" } : Jvm.MethodName)),
  (Jvm.Cond.code ({ cls := "ZoneShelfModel", name := "isUp", desc := "()Z" } : Jvm.MethodName) prog_4_method_17_code (1 : Nat) (Option.some Jvm.ClassFile.FieldType.boolean)),
  (Jvm.Cond.methodLink "ZoneShelfLaw" (71 : Nat) ({ cls := "ZoneShelfModel", name := "objects", desc := "()I" } : Jvm.MethodName)),
  (Jvm.Cond.instanceMethod ({ cls := "ZoneShelfModel", name := "objects", desc := "()I" } : Jvm.MethodName)),
  (Jvm.Cond.selects "ZoneShelfModel" ({ cls := "ZoneShelfModel", name := "objects", desc := "()I" } : Jvm.MethodName) ({ cls := "ZoneShelfModel", name := "objects", desc := "()I" } : Jvm.MethodName)),
  (Jvm.Cond.code ({ cls := "ZoneShelfModel", name := "objects", desc := "()I" } : Jvm.MethodName) prog_4_method_18_code (3 : Nat) (Option.some Jvm.ClassFile.FieldType.int)),
  (Jvm.Cond.methodLink "ZoneShelfLaw" (75 : Nat) ({ cls := "ZoneShelfModel", name := "room", desc := "()I" } : Jvm.MethodName)),
  (Jvm.Cond.instanceMethod ({ cls := "ZoneShelfModel", name := "room", desc := "()I" } : Jvm.MethodName)),
  (Jvm.Cond.selects "ZoneShelfModel" ({ cls := "ZoneShelfModel", name := "room", desc := "()I" } : Jvm.MethodName) ({ cls := "ZoneShelfModel", name := "room", desc := "()I" } : Jvm.MethodName)),
  (Jvm.Cond.code ({ cls := "ZoneShelfModel", name := "room", desc := "()I" } : Jvm.MethodName) prog_4_method_19_code (1 : Nat) (Option.some Jvm.ClassFile.FieldType.int)),
  (Jvm.Cond.methodLink "ZoneShelfLaw" (79 : Nat) ({ cls := "ZoneShelfModel", name := "object", desc := "(II)I" } : Jvm.MethodName)),
  (Jvm.Cond.instanceMethod ({ cls := "ZoneShelfModel", name := "object", desc := "(II)I" } : Jvm.MethodName)),
  (Jvm.Cond.selects "ZoneShelfModel" ({ cls := "ZoneShelfModel", name := "object", desc := "(II)I" } : Jvm.MethodName) ({ cls := "ZoneShelfModel", name := "object", desc := "(II)I" } : Jvm.MethodName)),
  (Jvm.Cond.code ({ cls := "ZoneShelfModel", name := "object", desc := "(II)I" } : Jvm.MethodName) prog_4_method_20_code (3 : Nat) (Option.some Jvm.ClassFile.FieldType.int)),
  (Jvm.Cond.methodLink "ZoneShelfLaw" (83 : Nat) ({ cls := "ZoneShelfModel", name := "word", desc := "(II)I" } : Jvm.MethodName)),
  (Jvm.Cond.instanceMethod ({ cls := "ZoneShelfModel", name := "word", desc := "(II)I" } : Jvm.MethodName)),
  (Jvm.Cond.selects "ZoneShelfModel" ({ cls := "ZoneShelfModel", name := "word", desc := "(II)I" } : Jvm.MethodName) ({ cls := "ZoneShelfModel", name := "word", desc := "(II)I" } : Jvm.MethodName)),
  (Jvm.Cond.code ({ cls := "ZoneShelfModel", name := "word", desc := "(II)I" } : Jvm.MethodName) prog_4_method_21_code (3 : Nat) (Option.some Jvm.ClassFile.FieldType.int)),
  (Jvm.Cond.methodLink "ZoneShelfLaw" (88 : Nat) ({ cls := "ZoneShelfModel", name := "find", desc := "(I)I" } : Jvm.MethodName)),
  (Jvm.Cond.instanceMethod ({ cls := "ZoneShelfModel", name := "find", desc := "(I)I" } : Jvm.MethodName)),
  (Jvm.Cond.selects "ZoneShelfModel" ({ cls := "ZoneShelfModel", name := "find", desc := "(I)I" } : Jvm.MethodName) ({ cls := "ZoneShelfModel", name := "find", desc := "(I)I" } : Jvm.MethodName)),
  (Jvm.Cond.code ({ cls := "ZoneShelfModel", name := "find", desc := "(I)I" } : Jvm.MethodName) prog_4_method_22_code (2 : Nat) (Option.some Jvm.ClassFile.FieldType.int)),
  (Jvm.Cond.methodLink "ZoneShelfLaw" (92 : Nat) ({ cls := "ZoneShelfModel", name := "list", desc := "(I)I" } : Jvm.MethodName)),
  (Jvm.Cond.instanceMethod ({ cls := "ZoneShelfModel", name := "list", desc := "(I)I" } : Jvm.MethodName)),
  (Jvm.Cond.selects "ZoneShelfModel" ({ cls := "ZoneShelfModel", name := "list", desc := "(I)I" } : Jvm.MethodName) ({ cls := "ZoneShelfModel", name := "list", desc := "(I)I" } : Jvm.MethodName)),
  (Jvm.Cond.code ({ cls := "ZoneShelfModel", name := "list", desc := "(I)I" } : Jvm.MethodName) prog_4_method_23_code (5 : Nat) (Option.some Jvm.ClassFile.FieldType.int))]
/-- the links between nest mates -/
def zs_n : List Cond := [(Jvm.Cond.methodLinkNest "ZoneShelf" (9 : Nat) ({ cls := "ZoneShelf$Contents", name := "<init>", desc := "()V" } : Jvm.MethodName) "ZoneShelf"),
  (Jvm.Cond.fieldLinkNest "ZoneShelf" (60 : Nat) "ZoneShelf$Contents" "names" "[I" "ZoneShelf"),
  (Jvm.Cond.fieldLinkNest "ZoneShelf" (78 : Nat) "ZoneShelf$Contents" "hints" "[I" "ZoneShelf"),
  (Jvm.Cond.fieldLinkNest "ZoneShelf" (81 : Nat) "ZoneShelf$Contents" "lengths" "[I" "ZoneShelf"),
  (Jvm.Cond.fieldLinkNest "ZoneShelf" (45 : Nat) "ZoneShelf$Contents" "opened" "[Z" "ZoneShelf"),
  (Jvm.Cond.fieldLinkNest "ZoneShelf" (84 : Nat) "ZoneShelf$Contents" "words" "[I" "ZoneShelf"),
  (Jvm.Cond.methodLinkNest "ZoneShelf" (90 : Nat) ({ cls := "ZoneShelf$Contents", name := "numberOf", desc := "(I)I" } : Jvm.MethodName) "ZoneShelf"),
  (Jvm.Cond.methodLinkNest "ZoneShelf" (30 : Nat) ({ cls := "ZoneShelf$Contents", name := "leastFreeNumber", desc := "()I" } : Jvm.MethodName) "ZoneShelf"),
  (Jvm.Cond.methodLinkNest "ZoneShelf" (34 : Nat) ({ cls := "ZoneShelf$Contents", name := "place", desc := "(III)V" } : Jvm.MethodName) "ZoneShelf"),
  (Jvm.Cond.methodLinkNest "ZoneShelf" (96 : Nat) ({ cls := "ZoneShelf$Contents", name := "isTaken", desc := "(I)Z" } : Jvm.MethodName) "ZoneShelf"),
  (Jvm.Cond.methodLinkNest "ZoneShelf" (75 : Nat) ({ cls := "ZoneShelf$Contents", name := "countWords", desc := "()I" } : Jvm.MethodName) "ZoneShelf"),
  (Jvm.Cond.methodLinkNest "ZoneShelf" (53 : Nat) ({ cls := "ZoneShelf$Contents", name := "addRow", desc := "(III)V" } : Jvm.MethodName) "ZoneShelf"),
  (Jvm.Cond.methodLinkNest "ZoneShelf" (56 : Nat) ({ cls := "ZoneShelf$Contents", name := "takeAway", desc := "(I)V" } : Jvm.MethodName) "ZoneShelf"),
  (Jvm.Cond.methodLinkNest "ZoneShelf" (64 : Nat) ({ cls := "ZoneShelf$Contents", name := "copyFrom", desc := "(LZoneShelf$Contents;)V" } : Jvm.MethodName) "ZoneShelf"),
  (Jvm.Cond.methodLinkNest "ZoneShelf" (72 : Nat) ({ cls := "ZoneShelf$Contents", name := "countObjects", desc := "()I" } : Jvm.MethodName) "ZoneShelf"),
  (Jvm.Cond.methodLinkNest "ZoneShelf" (93 : Nat) ({ cls := "ZoneShelf$Contents", name := "numberAtRank", desc := "(I)I" } : Jvm.MethodName) "ZoneShelf")]
theorem zs_w_all : zs_w.all goodWord = true := by decide +kernel
theorem zq_0 : (Jvm.Cond.selects "ZoneShelf" ({ cls := "ZoneShelf", name := "isFreeName", desc := "(I)Z" } : Jvm.MethodName) ({ cls := "ZoneShelf", name := "isFreeName", desc := "(I)Z" } : Jvm.MethodName)) ∈ zs_w := List.mem_of_getElem? (i := 0) rfl
theorem zq_1 : (Jvm.Cond.selects "ZoneShelf$Contents" ({ cls := "ZoneShelf$Contents", name := "numberOf", desc := "(I)I" } : Jvm.MethodName) ({ cls := "ZoneShelf$Contents", name := "numberOf", desc := "(I)I" } : Jvm.MethodName)) ∈ zs_w := List.mem_of_getElem? (i := 1) rfl
theorem zq_2 : (Jvm.Cond.selects "ZoneShelf$Contents" ({ cls := "ZoneShelf$Contents", name := "leastFreeNumber", desc := "()I" } : Jvm.MethodName) ({ cls := "ZoneShelf$Contents", name := "leastFreeNumber", desc := "()I" } : Jvm.MethodName)) ∈ zs_w := List.mem_of_getElem? (i := 2) rfl
theorem zq_3 : (Jvm.Cond.selects "ZoneShelf$Contents" ({ cls := "ZoneShelf$Contents", name := "isTaken", desc := "(I)Z" } : Jvm.MethodName) ({ cls := "ZoneShelf$Contents", name := "isTaken", desc := "(I)Z" } : Jvm.MethodName)) ∈ zs_w := List.mem_of_getElem? (i := 3) rfl
theorem zq_4 : (Jvm.Cond.selects "ZoneShelf$Contents" ({ cls := "ZoneShelf$Contents", name := "place", desc := "(III)V" } : Jvm.MethodName) ({ cls := "ZoneShelf$Contents", name := "place", desc := "(III)V" } : Jvm.MethodName)) ∈ zs_w := List.mem_of_getElem? (i := 4) rfl
theorem zq_5 : (Jvm.Cond.selects "ZoneShelf" ({ cls := "ZoneShelf", name := "isThere", desc := "(I)Z" } : Jvm.MethodName) ({ cls := "ZoneShelf", name := "isThere", desc := "(I)Z" } : Jvm.MethodName)) ∈ zs_w := List.mem_of_getElem? (i := 5) rfl
theorem zq_6 : (Jvm.Cond.selects "ZoneShelf" ({ cls := "ZoneShelf", name := "roomIn", desc := "(I)I" } : Jvm.MethodName) ({ cls := "ZoneShelf", name := "roomIn", desc := "(I)I" } : Jvm.MethodName)) ∈ zs_w := List.mem_of_getElem? (i := 6) rfl
theorem zq_7 : (Jvm.Cond.selects "ZoneShelf$Contents" ({ cls := "ZoneShelf$Contents", name := "countWords", desc := "()I" } : Jvm.MethodName) ({ cls := "ZoneShelf$Contents", name := "countWords", desc := "()I" } : Jvm.MethodName)) ∈ zs_w := List.mem_of_getElem? (i := 7) rfl
theorem zq_8 : (Jvm.Cond.selects "ZoneShelf$Contents" ({ cls := "ZoneShelf$Contents", name := "addRow", desc := "(III)V" } : Jvm.MethodName) ({ cls := "ZoneShelf$Contents", name := "addRow", desc := "(III)V" } : Jvm.MethodName)) ∈ zs_w := List.mem_of_getElem? (i := 8) rfl
theorem zq_9 : (Jvm.Cond.selects "ZoneShelf$Contents" ({ cls := "ZoneShelf$Contents", name := "takeAway", desc := "(I)V" } : Jvm.MethodName) ({ cls := "ZoneShelf$Contents", name := "takeAway", desc := "(I)V" } : Jvm.MethodName)) ∈ zs_w := List.mem_of_getElem? (i := 9) rfl
theorem zq_10 : (Jvm.Cond.selects "ZoneShelf$Contents" ({ cls := "ZoneShelf$Contents", name := "copyFrom", desc := "(LZoneShelf$Contents;)V" } : Jvm.MethodName) ({ cls := "ZoneShelf$Contents", name := "copyFrom", desc := "(LZoneShelf$Contents;)V" } : Jvm.MethodName)) ∈ zs_w := List.mem_of_getElem? (i := 10) rfl
theorem zq_11 : (Jvm.Cond.selects "ZoneShelf$Contents" ({ cls := "ZoneShelf$Contents", name := "countObjects", desc := "()I" } : Jvm.MethodName) ({ cls := "ZoneShelf$Contents", name := "countObjects", desc := "()I" } : Jvm.MethodName)) ∈ zs_w := List.mem_of_getElem? (i := 11) rfl
theorem zq_12 : (Jvm.Cond.selects "ZoneShelf$Contents" ({ cls := "ZoneShelf$Contents", name := "numberAtRank", desc := "(I)I" } : Jvm.MethodName) ({ cls := "ZoneShelf$Contents", name := "numberAtRank", desc := "(I)I" } : Jvm.MethodName)) ∈ zs_w := List.mem_of_getElem? (i := 12) rfl
theorem zq_13 : (Jvm.Cond.selects "ZoneShelf$Contents" ({ cls := "ZoneShelf$Contents", name := "countNamesBelow", desc := "(I)I" } : Jvm.MethodName) ({ cls := "ZoneShelf$Contents", name := "countNamesBelow", desc := "(I)I" } : Jvm.MethodName)) ∈ zs_w := List.mem_of_getElem? (i := 13) rfl
theorem zq_14 : (Jvm.Cond.selects "ZoneShelfModel" ({ cls := "ZoneShelfModel", name := "named", desc := "(I)I" } : Jvm.MethodName) ({ cls := "ZoneShelfModel", name := "named", desc := "(I)I" } : Jvm.MethodName)) ∈ zs_w := List.mem_of_getElem? (i := 14) rfl
theorem zq_15 : (Jvm.Cond.selects "ZoneShelfModel" ({ cls := "ZoneShelfModel", name := "is", desc := "(I)Z" } : Jvm.MethodName) ({ cls := "ZoneShelfModel", name := "is", desc := "(I)Z" } : Jvm.MethodName)) ∈ zs_w := List.mem_of_getElem? (i := 15) rfl
theorem zq_16 : (Jvm.Cond.selects "ZoneShelfModel" ({ cls := "ZoneShelfModel", name := "left", desc := "()I" } : Jvm.MethodName) ({ cls := "ZoneShelfModel", name := "left", desc := "()I" } : Jvm.MethodName)) ∈ zs_w := List.mem_of_getElem? (i := 16) rfl
theorem zq_17 : (Jvm.Cond.initialized "ZoneShelfLaw") ∈ zs_w := List.mem_of_getElem? (i := 17) rfl
theorem zq_18 : (Jvm.Cond.initialized "ZoneShelf") ∈ zs_w := List.mem_of_getElem? (i := 18) rfl
theorem zq_19 : (Jvm.Cond.initialized "ZoneShelf$Contents") ∈ zs_w := List.mem_of_getElem? (i := 19) rfl
theorem zq_20 : (Jvm.Cond.initialized "java/util/Arrays") ∈ zs_w := List.mem_of_getElem? (i := 20) rfl
theorem zq_21 : (Jvm.Cond.initialized "ZoneShelfModel") ∈ zs_w := List.mem_of_getElem? (i := 21) rfl
theorem zq_22 : (Jvm.Cond.initialized "java/lang/Math") ∈ zs_w := List.mem_of_getElem? (i := 22) rfl
theorem zq_23 : (Jvm.Cond.initialized "java/lang/System") ∈ zs_w := List.mem_of_getElem? (i := 23) rfl
theorem zq_24 : (Jvm.Cond.classLink "ZoneShelfLaw" (7 : Nat) "ZoneShelf") ∈ zs_w := List.mem_of_getElem? (i := 24) rfl
theorem zq_25 : (Jvm.Cond.instantiable "ZoneShelf" (3 : Nat)) ∈ zs_w := List.mem_of_getElem? (i := 25) rfl
theorem zq_26 : (Jvm.Cond.methodLink "ZoneShelfLaw" (9 : Nat) ({ cls := "ZoneShelf", name := "<init>", desc := "()V" } : Jvm.MethodName)) ∈ zs_w := List.mem_of_getElem? (i := 26) rfl
theorem zq_27 : (Jvm.Cond.instanceMethod ({ cls := "ZoneShelf", name := "<init>", desc := "()V" } : Jvm.MethodName)) ∈ zs_w := List.mem_of_getElem? (i := 27) rfl
theorem zq_28 : (Jvm.Cond.code ({ cls := "ZoneShelf", name := "<init>", desc := "()V" } : Jvm.MethodName) prog_1_method_1_code (1 : Nat) (Option.none : Option Jvm.ClassFile.FieldType)) ∈ zs_w := List.mem_of_getElem? (i := 28) rfl
theorem zq_29 : (Jvm.Cond.methodLink "ZoneShelf" (1 : Nat) ({ cls := "java/lang/Object", name := "<init>", desc := "()V" } : Jvm.MethodName)) ∈ zs_w := List.mem_of_getElem? (i := 29) rfl
theorem zq_30 : (Jvm.Cond.instanceMethod ({ cls := "java/lang/Object", name := "<init>", desc := "()V" } : Jvm.MethodName)) ∈ zs_w := List.mem_of_getElem? (i := 30) rfl
theorem zq_31 : (Jvm.Cond.code ({ cls := "java/lang/Object", name := "<init>", desc := "()V" } : Jvm.MethodName) object_method_1_code (1 : Nat) (Option.none : Option Jvm.ClassFile.FieldType)) ∈ zs_w := List.mem_of_getElem? (i := 31) rfl
theorem zq_32 : (Jvm.Cond.classLink "ZoneShelf" (7 : Nat) "ZoneShelf$Contents") ∈ zs_w := List.mem_of_getElem? (i := 32) rfl
theorem zq_33 : (Jvm.Cond.instantiable "ZoneShelf$Contents" (5 : Nat)) ∈ zs_w := List.mem_of_getElem? (i := 33) rfl
theorem zq_34 : (Jvm.Cond.instanceMethod ({ cls := "ZoneShelf$Contents", name := "<init>", desc := "()V" } : Jvm.MethodName)) ∈ zs_w := List.mem_of_getElem? (i := 34) rfl
theorem zq_35 : (Jvm.Cond.code ({ cls := "ZoneShelf$Contents", name := "<init>", desc := "()V" } : Jvm.MethodName) prog_2_method_1_code (1 : Nat) (Option.none : Option Jvm.ClassFile.FieldType)) ∈ zs_w := List.mem_of_getElem? (i := 35) rfl
theorem zq_36 : (Jvm.Cond.methodLink "ZoneShelf$Contents" (3 : Nat) ({ cls := "java/lang/Object", name := "<init>", desc := "()V" } : Jvm.MethodName)) ∈ zs_w := List.mem_of_getElem? (i := 36) rfl
theorem zq_37 : (Jvm.Cond.methodLink "ZoneShelf$Contents" (28 : Nat) ({ cls := "java/util/Arrays", name := "fill", desc := "([II)V" } : Jvm.MethodName)) ∈ zs_w := List.mem_of_getElem? (i := 37) rfl
theorem zq_38 : (Jvm.Cond.static ({ cls := "java/util/Arrays", name := "fill", desc := "([II)V" } : Jvm.MethodName)) ∈ zs_w := List.mem_of_getElem? (i := 38) rfl
theorem zq_39 : (Jvm.Cond.code ({ cls := "java/util/Arrays", name := "fill", desc := "([II)V" } : Jvm.MethodName) prog_7_method_103_code (4 : Nat) (Option.none : Option Jvm.ClassFile.FieldType)) ∈ zs_w := List.mem_of_getElem? (i := 39) rfl
theorem zq_40 : (Jvm.Cond.fieldLink "ZoneShelf$Contents" (9 : Nat) "ZoneShelf$Contents" "names" "[I") ∈ zs_w := List.mem_of_getElem? (i := 40) rfl
theorem zq_41 : (Jvm.Cond.fieldLink "ZoneShelf$Contents" (15 : Nat) "ZoneShelf$Contents" "hints" "[I") ∈ zs_w := List.mem_of_getElem? (i := 41) rfl
theorem zq_42 : (Jvm.Cond.fieldLink "ZoneShelf$Contents" (18 : Nat) "ZoneShelf$Contents" "lengths" "[I") ∈ zs_w := List.mem_of_getElem? (i := 42) rfl
theorem zq_43 : (Jvm.Cond.fieldLink "ZoneShelf$Contents" (21 : Nat) "ZoneShelf$Contents" "opened" "[Z") ∈ zs_w := List.mem_of_getElem? (i := 43) rfl
theorem zq_44 : (Jvm.Cond.fieldLink "ZoneShelf$Contents" (25 : Nat) "ZoneShelf$Contents" "words" "[I") ∈ zs_w := List.mem_of_getElem? (i := 44) rfl
theorem zq_45 : (Jvm.Cond.laysFinal "ZoneShelf$Contents" "ZoneShelf$Contents" "names" "[I") ∈ zs_w := List.mem_of_getElem? (i := 45) rfl
theorem zq_46 : (Jvm.Cond.laysFinal "ZoneShelf$Contents" "ZoneShelf$Contents" "hints" "[I") ∈ zs_w := List.mem_of_getElem? (i := 46) rfl
theorem zq_47 : (Jvm.Cond.laysFinal "ZoneShelf$Contents" "ZoneShelf$Contents" "lengths" "[I") ∈ zs_w := List.mem_of_getElem? (i := 47) rfl
theorem zq_48 : (Jvm.Cond.laysFinal "ZoneShelf$Contents" "ZoneShelf$Contents" "opened" "[Z") ∈ zs_w := List.mem_of_getElem? (i := 48) rfl
theorem zq_49 : (Jvm.Cond.laysFinal "ZoneShelf$Contents" "ZoneShelf$Contents" "words" "[I") ∈ zs_w := List.mem_of_getElem? (i := 49) rfl
theorem zq_50 : (Jvm.Cond.arrayClass Jvm.ClassFile.FieldType.int) ∈ zs_w := List.mem_of_getElem? (i := 50) rfl
theorem zq_51 : (Jvm.Cond.arrayClass Jvm.ClassFile.FieldType.boolean) ∈ zs_w := List.mem_of_getElem? (i := 51) rfl
theorem zq_52 : (Jvm.Cond.fieldLink "ZoneShelf" (10 : Nat) "ZoneShelf" "current" "LZoneShelf$Contents;") ∈ zs_w := List.mem_of_getElem? (i := 52) rfl
theorem zq_53 : (Jvm.Cond.fieldLink "ZoneShelf" (16 : Nat) "ZoneShelf" "synced" "LZoneShelf$Contents;") ∈ zs_w := List.mem_of_getElem? (i := 53) rfl
theorem zq_54 : (Jvm.Cond.fieldLink "ZoneShelf" (19 : Nat) "ZoneShelf" "up" "Z") ∈ zs_w := List.mem_of_getElem? (i := 54) rfl
theorem zq_55 : (Jvm.Cond.laysFinal "ZoneShelf" "ZoneShelf" "current" "LZoneShelf$Contents;") ∈ zs_w := List.mem_of_getElem? (i := 55) rfl
theorem zq_56 : (Jvm.Cond.laysFinal "ZoneShelf" "ZoneShelf" "synced" "LZoneShelf$Contents;") ∈ zs_w := List.mem_of_getElem? (i := 56) rfl
theorem zq_57 : (Jvm.Cond.lays "ZoneShelf" "ZoneShelf" "up" "Z") ∈ zs_w := List.mem_of_getElem? (i := 57) rfl
theorem zq_58 : (Jvm.Cond.methodLink "ZoneShelfLaw" (13 : Nat) ({ cls := "ZoneShelf", name := "create", desc := "(II)I" } : Jvm.MethodName)) ∈ zs_w := List.mem_of_getElem? (i := 58) rfl
theorem zq_59 : (Jvm.Cond.instanceMethod ({ cls := "ZoneShelf", name := "create", desc := "(II)I" } : Jvm.MethodName)) ∈ zs_w := List.mem_of_getElem? (i := 59) rfl
theorem zq_60 : (Jvm.Cond.selects "ZoneShelf" ({ cls := "ZoneShelf", name := "create", desc := "(II)I" } : Jvm.MethodName) ({ cls := "ZoneShelf", name := "create", desc := "(II)I" } : Jvm.MethodName)) ∈ zs_w := List.mem_of_getElem? (i := 60) rfl
theorem zq_61 : (Jvm.Cond.code ({ cls := "ZoneShelf", name := "create", desc := "(II)I" } : Jvm.MethodName) prog_1_method_2_code (4 : Nat) (Option.some Jvm.ClassFile.FieldType.int)) ∈ zs_w := List.mem_of_getElem? (i := 61) rfl
theorem zq_62 : (Jvm.Cond.methodLink "ZoneShelf" (23 : Nat) ({ cls := "ZoneShelf", name := "isFreeName", desc := "(I)Z" } : Jvm.MethodName)) ∈ zs_w := List.mem_of_getElem? (i := 62) rfl
theorem zq_63 : (Jvm.Cond.instanceMethod ({ cls := "ZoneShelf", name := "isFreeName", desc := "(I)Z" } : Jvm.MethodName)) ∈ zs_w := List.mem_of_getElem? (i := 63) rfl
theorem zq_64 : (Jvm.Cond.code ({ cls := "ZoneShelf", name := "isFreeName", desc := "(I)Z" } : Jvm.MethodName) prog_1_method_21_code (2 : Nat) (Option.some Jvm.ClassFile.FieldType.boolean)) ∈ zs_w := List.mem_of_getElem? (i := 64) rfl
theorem zq_65 : (Jvm.Cond.methodLink "ZoneShelf" (87 : Nat) ({ cls := "ZoneShelf", name := "isName", desc := "(I)Z" } : Jvm.MethodName)) ∈ zs_w := List.mem_of_getElem? (i := 65) rfl
theorem zq_66 : (Jvm.Cond.static ({ cls := "ZoneShelf", name := "isName", desc := "(I)Z" } : Jvm.MethodName)) ∈ zs_w := List.mem_of_getElem? (i := 66) rfl
theorem zq_67 : (Jvm.Cond.code ({ cls := "ZoneShelf", name := "isName", desc := "(I)Z" } : Jvm.MethodName) prog_1_method_23_code (1 : Nat) (Option.some Jvm.ClassFile.FieldType.boolean)) ∈ zs_w := List.mem_of_getElem? (i := 67) rfl
theorem zq_68 : (Jvm.Cond.instanceMethod ({ cls := "ZoneShelf$Contents", name := "numberOf", desc := "(I)I" } : Jvm.MethodName)) ∈ zs_w := List.mem_of_getElem? (i := 68) rfl
theorem zq_69 : (Jvm.Cond.code ({ cls := "ZoneShelf$Contents", name := "numberOf", desc := "(I)I" } : Jvm.MethodName) prog_2_method_4_code (3 : Nat) (Option.some Jvm.ClassFile.FieldType.int)) ∈ zs_w := List.mem_of_getElem? (i := 69) rfl
theorem zq_70 : (Jvm.Cond.methodLink "ZoneShelf" (27 : Nat) ({ cls := "ZoneShelf", name := "isHint", desc := "(I)Z" } : Jvm.MethodName)) ∈ zs_w := List.mem_of_getElem? (i := 70) rfl
theorem zq_71 : (Jvm.Cond.static ({ cls := "ZoneShelf", name := "isHint", desc := "(I)Z" } : Jvm.MethodName)) ∈ zs_w := List.mem_of_getElem? (i := 71) rfl
theorem zq_72 : (Jvm.Cond.code ({ cls := "ZoneShelf", name := "isHint", desc := "(I)Z" } : Jvm.MethodName) prog_1_method_24_code (1 : Nat) (Option.some Jvm.ClassFile.FieldType.boolean)) ∈ zs_w := List.mem_of_getElem? (i := 72) rfl
theorem zq_73 : (Jvm.Cond.instanceMethod ({ cls := "ZoneShelf$Contents", name := "leastFreeNumber", desc := "()I" } : Jvm.MethodName)) ∈ zs_w := List.mem_of_getElem? (i := 73) rfl
theorem zq_74 : (Jvm.Cond.code ({ cls := "ZoneShelf$Contents", name := "leastFreeNumber", desc := "()I" } : Jvm.MethodName) prog_2_method_3_code (2 : Nat) (Option.some Jvm.ClassFile.FieldType.int)) ∈ zs_w := List.mem_of_getElem? (i := 74) rfl
theorem zq_75 : (Jvm.Cond.methodLink "ZoneShelf$Contents" (34 : Nat) ({ cls := "ZoneShelf$Contents", name := "isTaken", desc := "(I)Z" } : Jvm.MethodName)) ∈ zs_w := List.mem_of_getElem? (i := 75) rfl
theorem zq_76 : (Jvm.Cond.instanceMethod ({ cls := "ZoneShelf$Contents", name := "isTaken", desc := "(I)Z" } : Jvm.MethodName)) ∈ zs_w := List.mem_of_getElem? (i := 76) rfl
theorem zq_77 : (Jvm.Cond.code ({ cls := "ZoneShelf$Contents", name := "isTaken", desc := "(I)Z" } : Jvm.MethodName) prog_2_method_2_code (2 : Nat) (Option.some Jvm.ClassFile.FieldType.boolean)) ∈ zs_w := List.mem_of_getElem? (i := 77) rfl
theorem zq_78 : (Jvm.Cond.instanceMethod ({ cls := "ZoneShelf$Contents", name := "place", desc := "(III)V" } : Jvm.MethodName)) ∈ zs_w := List.mem_of_getElem? (i := 78) rfl
theorem zq_79 : (Jvm.Cond.code ({ cls := "ZoneShelf$Contents", name := "place", desc := "(III)V" } : Jvm.MethodName) prog_2_method_9_code (4 : Nat) (Option.none : Option Jvm.ClassFile.FieldType)) ∈ zs_w := List.mem_of_getElem? (i := 79) rfl
theorem zq_80 : (Jvm.Cond.methodLink "ZoneShelfLaw" (18 : Nat) ({ cls := "ZoneShelf", name := "append", desc := "(II)Z" } : Jvm.MethodName)) ∈ zs_w := List.mem_of_getElem? (i := 80) rfl
theorem zq_81 : (Jvm.Cond.instanceMethod ({ cls := "ZoneShelf", name := "append", desc := "(II)Z" } : Jvm.MethodName)) ∈ zs_w := List.mem_of_getElem? (i := 81) rfl
theorem zq_82 : (Jvm.Cond.selects "ZoneShelf" ({ cls := "ZoneShelf", name := "append", desc := "(II)Z" } : Jvm.MethodName) ({ cls := "ZoneShelf", name := "append", desc := "(II)Z" } : Jvm.MethodName)) ∈ zs_w := List.mem_of_getElem? (i := 82) rfl
theorem zq_83 : (Jvm.Cond.code ({ cls := "ZoneShelf", name := "append", desc := "(II)Z" } : Jvm.MethodName) prog_1_method_3_code (3 : Nat) (Option.some Jvm.ClassFile.FieldType.boolean)) ∈ zs_w := List.mem_of_getElem? (i := 83) rfl
theorem zq_84 : (Jvm.Cond.methodLink "ZoneShelf" (38 : Nat) ({ cls := "ZoneShelf", name := "appendRow", desc := "(III)Z" } : Jvm.MethodName)) ∈ zs_w := List.mem_of_getElem? (i := 84) rfl
theorem zq_85 : (Jvm.Cond.instanceMethod ({ cls := "ZoneShelf", name := "appendRow", desc := "(III)Z" } : Jvm.MethodName)) ∈ zs_w := List.mem_of_getElem? (i := 85) rfl
theorem zq_86 : (Jvm.Cond.selects "ZoneShelf" ({ cls := "ZoneShelf", name := "appendRow", desc := "(III)Z" } : Jvm.MethodName) ({ cls := "ZoneShelf", name := "appendRow", desc := "(III)Z" } : Jvm.MethodName)) ∈ zs_w := List.mem_of_getElem? (i := 86) rfl
theorem zq_87 : (Jvm.Cond.code ({ cls := "ZoneShelf", name := "appendRow", desc := "(III)Z" } : Jvm.MethodName) prog_1_method_4_code (4 : Nat) (Option.some Jvm.ClassFile.FieldType.boolean)) ∈ zs_w := List.mem_of_getElem? (i := 87) rfl
theorem zq_88 : (Jvm.Cond.methodLink "ZoneShelf" (42 : Nat) ({ cls := "ZoneShelf", name := "isThere", desc := "(I)Z" } : Jvm.MethodName)) ∈ zs_w := List.mem_of_getElem? (i := 88) rfl
theorem zq_89 : (Jvm.Cond.instanceMethod ({ cls := "ZoneShelf", name := "isThere", desc := "(I)Z" } : Jvm.MethodName)) ∈ zs_w := List.mem_of_getElem? (i := 89) rfl
theorem zq_90 : (Jvm.Cond.code ({ cls := "ZoneShelf", name := "isThere", desc := "(I)Z" } : Jvm.MethodName) prog_1_method_20_code (2 : Nat) (Option.some Jvm.ClassFile.FieldType.boolean)) ∈ zs_w := List.mem_of_getElem? (i := 90) rfl
theorem zq_91 : (Jvm.Cond.methodLink "ZoneShelf" (49 : Nat) ({ cls := "ZoneShelf", name := "roomIn", desc := "(I)I" } : Jvm.MethodName)) ∈ zs_w := List.mem_of_getElem? (i := 91) rfl
theorem zq_92 : (Jvm.Cond.instanceMethod ({ cls := "ZoneShelf", name := "roomIn", desc := "(I)I" } : Jvm.MethodName)) ∈ zs_w := List.mem_of_getElem? (i := 92) rfl
theorem zq_93 : (Jvm.Cond.code ({ cls := "ZoneShelf", name := "roomIn", desc := "(I)I" } : Jvm.MethodName) prog_1_method_22_code (2 : Nat) (Option.some Jvm.ClassFile.FieldType.int)) ∈ zs_w := List.mem_of_getElem? (i := 93) rfl
theorem zq_94 : (Jvm.Cond.instanceMethod ({ cls := "ZoneShelf$Contents", name := "countWords", desc := "()I" } : Jvm.MethodName)) ∈ zs_w := List.mem_of_getElem? (i := 94) rfl
theorem zq_95 : (Jvm.Cond.code ({ cls := "ZoneShelf$Contents", name := "countWords", desc := "()I" } : Jvm.MethodName) prog_2_method_8_code (3 : Nat) (Option.some Jvm.ClassFile.FieldType.int)) ∈ zs_w := List.mem_of_getElem? (i := 95) rfl
theorem zq_96 : (Jvm.Cond.methodLink "ZoneShelf" (99 : Nat) ({ cls := "java/lang/Math", name := "min", desc := "(II)I" } : Jvm.MethodName)) ∈ zs_w := List.mem_of_getElem? (i := 96) rfl
theorem zq_97 : (Jvm.Cond.static ({ cls := "java/lang/Math", name := "min", desc := "(II)I" } : Jvm.MethodName)) ∈ zs_w := List.mem_of_getElem? (i := 97) rfl
theorem zq_98 : (Jvm.Cond.code ({ cls := "java/lang/Math", name := "min", desc := "(II)I" } : Jvm.MethodName) prog_5_method_69_code (2 : Nat) (Option.some Jvm.ClassFile.FieldType.int)) ∈ zs_w := List.mem_of_getElem? (i := 98) rfl
theorem zq_99 : (Jvm.Cond.instanceMethod ({ cls := "ZoneShelf$Contents", name := "addRow", desc := "(III)V" } : Jvm.MethodName)) ∈ zs_w := List.mem_of_getElem? (i := 99) rfl
theorem zq_100 : (Jvm.Cond.code ({ cls := "ZoneShelf$Contents", name := "addRow", desc := "(III)V" } : Jvm.MethodName) prog_2_method_11_code (6 : Nat) (Option.none : Option Jvm.ClassFile.FieldType)) ∈ zs_w := List.mem_of_getElem? (i := 100) rfl
theorem zq_101 : (Jvm.Cond.methodLink "ZoneShelfLaw" (23 : Nat) ({ cls := "ZoneShelf", name := "appendRow", desc := "(III)Z" } : Jvm.MethodName)) ∈ zs_w := List.mem_of_getElem? (i := 101) rfl
theorem zq_102 : (Jvm.Cond.methodLink "ZoneShelfLaw" (28 : Nat) ({ cls := "ZoneShelf", name := "open", desc := "(IZ)Z" } : Jvm.MethodName)) ∈ zs_w := List.mem_of_getElem? (i := 102) rfl
theorem zq_103 : (Jvm.Cond.instanceMethod ({ cls := "ZoneShelf", name := "open", desc := "(IZ)Z" } : Jvm.MethodName)) ∈ zs_w := List.mem_of_getElem? (i := 103) rfl
theorem zq_104 : (Jvm.Cond.selects "ZoneShelf" ({ cls := "ZoneShelf", name := "open", desc := "(IZ)Z" } : Jvm.MethodName) ({ cls := "ZoneShelf", name := "open", desc := "(IZ)Z" } : Jvm.MethodName)) ∈ zs_w := List.mem_of_getElem? (i := 104) rfl
theorem zq_105 : (Jvm.Cond.code ({ cls := "ZoneShelf", name := "open", desc := "(IZ)Z" } : Jvm.MethodName) prog_1_method_5_code (3 : Nat) (Option.some Jvm.ClassFile.FieldType.boolean)) ∈ zs_w := List.mem_of_getElem? (i := 105) rfl
theorem zq_106 : (Jvm.Cond.methodLink "ZoneShelfLaw" (33 : Nat) ({ cls := "ZoneShelf", name := "remove", desc := "(I)Z" } : Jvm.MethodName)) ∈ zs_w := List.mem_of_getElem? (i := 106) rfl
theorem zq_107 : (Jvm.Cond.instanceMethod ({ cls := "ZoneShelf", name := "remove", desc := "(I)Z" } : Jvm.MethodName)) ∈ zs_w := List.mem_of_getElem? (i := 107) rfl
theorem zq_108 : (Jvm.Cond.selects "ZoneShelf" ({ cls := "ZoneShelf", name := "remove", desc := "(I)Z" } : Jvm.MethodName) ({ cls := "ZoneShelf", name := "remove", desc := "(I)Z" } : Jvm.MethodName)) ∈ zs_w := List.mem_of_getElem? (i := 108) rfl
theorem zq_109 : (Jvm.Cond.code ({ cls := "ZoneShelf", name := "remove", desc := "(I)Z" } : Jvm.MethodName) prog_1_method_6_code (2 : Nat) (Option.some Jvm.ClassFile.FieldType.boolean)) ∈ zs_w := List.mem_of_getElem? (i := 109) rfl
theorem zq_110 : (Jvm.Cond.instanceMethod ({ cls := "ZoneShelf$Contents", name := "takeAway", desc := "(I)V" } : Jvm.MethodName)) ∈ zs_w := List.mem_of_getElem? (i := 110) rfl
theorem zq_111 : (Jvm.Cond.code ({ cls := "ZoneShelf$Contents", name := "takeAway", desc := "(I)V" } : Jvm.MethodName) prog_2_method_10_code (2 : Nat) (Option.none : Option Jvm.ClassFile.FieldType)) ∈ zs_w := List.mem_of_getElem? (i := 111) rfl
theorem zq_112 : (Jvm.Cond.methodLink "ZoneShelfLaw" (38 : Nat) ({ cls := "ZoneShelf", name := "rename", desc := "(II)Z" } : Jvm.MethodName)) ∈ zs_w := List.mem_of_getElem? (i := 112) rfl
theorem zq_113 : (Jvm.Cond.instanceMethod ({ cls := "ZoneShelf", name := "rename", desc := "(II)Z" } : Jvm.MethodName)) ∈ zs_w := List.mem_of_getElem? (i := 113) rfl
theorem zq_114 : (Jvm.Cond.selects "ZoneShelf" ({ cls := "ZoneShelf", name := "rename", desc := "(II)Z" } : Jvm.MethodName) ({ cls := "ZoneShelf", name := "rename", desc := "(II)Z" } : Jvm.MethodName)) ∈ zs_w := List.mem_of_getElem? (i := 114) rfl
theorem zq_115 : (Jvm.Cond.code ({ cls := "ZoneShelf", name := "rename", desc := "(II)Z" } : Jvm.MethodName) prog_1_method_7_code (3 : Nat) (Option.some Jvm.ClassFile.FieldType.boolean)) ∈ zs_w := List.mem_of_getElem? (i := 115) rfl
theorem zq_116 : (Jvm.Cond.methodLink "ZoneShelfLaw" (42 : Nat) ({ cls := "ZoneShelf", name := "sync", desc := "()Z" } : Jvm.MethodName)) ∈ zs_w := List.mem_of_getElem? (i := 116) rfl
theorem zq_117 : (Jvm.Cond.instanceMethod ({ cls := "ZoneShelf", name := "sync", desc := "()Z" } : Jvm.MethodName)) ∈ zs_w := List.mem_of_getElem? (i := 117) rfl
theorem zq_118 : (Jvm.Cond.selects "ZoneShelf" ({ cls := "ZoneShelf", name := "sync", desc := "()Z" } : Jvm.MethodName) ({ cls := "ZoneShelf", name := "sync", desc := "()Z" } : Jvm.MethodName)) ∈ zs_w := List.mem_of_getElem? (i := 118) rfl
theorem zq_119 : (Jvm.Cond.code ({ cls := "ZoneShelf", name := "sync", desc := "()Z" } : Jvm.MethodName) prog_1_method_8_code (1 : Nat) (Option.some Jvm.ClassFile.FieldType.boolean)) ∈ zs_w := List.mem_of_getElem? (i := 119) rfl
theorem zq_120 : (Jvm.Cond.instanceMethod ({ cls := "ZoneShelf$Contents", name := "copyFrom", desc := "(LZoneShelf$Contents;)V" } : Jvm.MethodName)) ∈ zs_w := List.mem_of_getElem? (i := 120) rfl
theorem zq_121 : (Jvm.Cond.code ({ cls := "ZoneShelf$Contents", name := "copyFrom", desc := "(LZoneShelf$Contents;)V" } : Jvm.MethodName) prog_2_method_12_code (3 : Nat) (Option.none : Option Jvm.ClassFile.FieldType)) ∈ zs_w := List.mem_of_getElem? (i := 121) rfl
theorem zq_122 : (Jvm.Cond.methodLink "ZoneShelf$Contents" (42 : Nat) ({ cls := "java/lang/System", name := "arraycopy", desc := "(Ljava/lang/Object;ILjava/lang/Object;II)V" } : Jvm.MethodName)) ∈ zs_w := List.mem_of_getElem? (i := 122) rfl
theorem zq_123 : (Jvm.Cond.static ({ cls := "java/lang/System", name := "arraycopy", desc := "(Ljava/lang/Object;ILjava/lang/Object;II)V" } : Jvm.MethodName)) ∈ zs_w := List.mem_of_getElem? (i := 123) rfl
theorem zq_124 : (Jvm.Cond.native ({ cls := "java/lang/System", name := "arraycopy", desc := "(Ljava/lang/Object;ILjava/lang/Object;II)V" } : Jvm.MethodName)) ∈ zs_w := List.mem_of_getElem? (i := 124) rfl
theorem zq_125 : (Jvm.Cond.methodLink "ZoneShelfLaw" (47 : Nat) ({ cls := "ZoneShelf", name := "tear", desc := "()Z" } : Jvm.MethodName)) ∈ zs_w := List.mem_of_getElem? (i := 125) rfl
theorem zq_126 : (Jvm.Cond.instanceMethod ({ cls := "ZoneShelf", name := "tear", desc := "()Z" } : Jvm.MethodName)) ∈ zs_w := List.mem_of_getElem? (i := 126) rfl
theorem zq_127 : (Jvm.Cond.selects "ZoneShelf" ({ cls := "ZoneShelf", name := "tear", desc := "()Z" } : Jvm.MethodName) ({ cls := "ZoneShelf", name := "tear", desc := "()Z" } : Jvm.MethodName)) ∈ zs_w := List.mem_of_getElem? (i := 127) rfl
theorem zq_128 : (Jvm.Cond.code ({ cls := "ZoneShelf", name := "tear", desc := "()Z" } : Jvm.MethodName) prog_1_method_9_code (1 : Nat) (Option.some Jvm.ClassFile.FieldType.boolean)) ∈ zs_w := List.mem_of_getElem? (i := 128) rfl
theorem zq_129 : (Jvm.Cond.methodLink "ZoneShelf" (68 : Nat) ({ cls := "ZoneShelf", name := "cut", desc := "()Z" } : Jvm.MethodName)) ∈ zs_w := List.mem_of_getElem? (i := 129) rfl
theorem zq_130 : (Jvm.Cond.instanceMethod ({ cls := "ZoneShelf", name := "cut", desc := "()Z" } : Jvm.MethodName)) ∈ zs_w := List.mem_of_getElem? (i := 130) rfl
theorem zq_131 : (Jvm.Cond.selects "ZoneShelf" ({ cls := "ZoneShelf", name := "cut", desc := "()Z" } : Jvm.MethodName) ({ cls := "ZoneShelf", name := "cut", desc := "()Z" } : Jvm.MethodName)) ∈ zs_w := List.mem_of_getElem? (i := 131) rfl
theorem zq_132 : (Jvm.Cond.code ({ cls := "ZoneShelf", name := "cut", desc := "()Z" } : Jvm.MethodName) prog_1_method_10_code (1 : Nat) (Option.some Jvm.ClassFile.FieldType.boolean)) ∈ zs_w := List.mem_of_getElem? (i := 132) rfl
theorem zq_133 : (Jvm.Cond.methodLink "ZoneShelfLaw" (51 : Nat) ({ cls := "ZoneShelf", name := "cut", desc := "()Z" } : Jvm.MethodName)) ∈ zs_w := List.mem_of_getElem? (i := 133) rfl
theorem zq_134 : (Jvm.Cond.methodLink "ZoneShelfLaw" (55 : Nat) ({ cls := "ZoneShelf", name := "mount", desc := "()Z" } : Jvm.MethodName)) ∈ zs_w := List.mem_of_getElem? (i := 134) rfl
theorem zq_135 : (Jvm.Cond.instanceMethod ({ cls := "ZoneShelf", name := "mount", desc := "()Z" } : Jvm.MethodName)) ∈ zs_w := List.mem_of_getElem? (i := 135) rfl
theorem zq_136 : (Jvm.Cond.selects "ZoneShelf" ({ cls := "ZoneShelf", name := "mount", desc := "()Z" } : Jvm.MethodName) ({ cls := "ZoneShelf", name := "mount", desc := "()Z" } : Jvm.MethodName)) ∈ zs_w := List.mem_of_getElem? (i := 136) rfl
theorem zq_137 : (Jvm.Cond.code ({ cls := "ZoneShelf", name := "mount", desc := "()Z" } : Jvm.MethodName) prog_1_method_11_code (1 : Nat) (Option.some Jvm.ClassFile.FieldType.boolean)) ∈ zs_w := List.mem_of_getElem? (i := 137) rfl
theorem zq_138 : (Jvm.Cond.methodLink "ZoneShelfLaw" (59 : Nat) ({ cls := "ZoneShelf", name := "tidy", desc := "()Z" } : Jvm.MethodName)) ∈ zs_w := List.mem_of_getElem? (i := 138) rfl
theorem zq_139 : (Jvm.Cond.instanceMethod ({ cls := "ZoneShelf", name := "tidy", desc := "()Z" } : Jvm.MethodName)) ∈ zs_w := List.mem_of_getElem? (i := 139) rfl
theorem zq_140 : (Jvm.Cond.selects "ZoneShelf" ({ cls := "ZoneShelf", name := "tidy", desc := "()Z" } : Jvm.MethodName) ({ cls := "ZoneShelf", name := "tidy", desc := "()Z" } : Jvm.MethodName)) ∈ zs_w := List.mem_of_getElem? (i := 140) rfl
theorem zq_141 : (Jvm.Cond.code ({ cls := "ZoneShelf", name := "tidy", desc := "()Z" } : Jvm.MethodName) prog_1_method_12_code (1 : Nat) (Option.some Jvm.ClassFile.FieldType.boolean)) ∈ zs_w := List.mem_of_getElem? (i := 141) rfl
theorem zq_142 : (Jvm.Cond.methodLink "ZoneShelfLaw" (63 : Nat) ({ cls := "ZoneShelf", name := "isUp", desc := "()Z" } : Jvm.MethodName)) ∈ zs_w := List.mem_of_getElem? (i := 142) rfl
theorem zq_143 : (Jvm.Cond.instanceMethod ({ cls := "ZoneShelf", name := "isUp", desc := "()Z" } : Jvm.MethodName)) ∈ zs_w := List.mem_of_getElem? (i := 143) rfl
theorem zq_144 : (Jvm.Cond.selects "ZoneShelf" ({ cls := "ZoneShelf", name := "isUp", desc := "()Z" } : Jvm.MethodName) ({ cls := "ZoneShelf", name := "isUp", desc := "()Z" } : Jvm.MethodName)) ∈ zs_w := List.mem_of_getElem? (i := 144) rfl
theorem zq_145 : (Jvm.Cond.code ({ cls := "ZoneShelf", name := "isUp", desc := "()Z" } : Jvm.MethodName) prog_1_method_13_code (1 : Nat) (Option.some Jvm.ClassFile.FieldType.boolean)) ∈ zs_w := List.mem_of_getElem? (i := 145) rfl
theorem zq_146 : (Jvm.Cond.methodLink "ZoneShelfLaw" (67 : Nat) ({ cls := "ZoneShelf", name := "objects", desc := "()I" } : Jvm.MethodName)) ∈ zs_w := List.mem_of_getElem? (i := 146) rfl
theorem zq_147 : (Jvm.Cond.instanceMethod ({ cls := "ZoneShelf", name := "objects", desc := "()I" } : Jvm.MethodName)) ∈ zs_w := List.mem_of_getElem? (i := 147) rfl
theorem zq_148 : (Jvm.Cond.selects "ZoneShelf" ({ cls := "ZoneShelf", name := "objects", desc := "()I" } : Jvm.MethodName) ({ cls := "ZoneShelf", name := "objects", desc := "()I" } : Jvm.MethodName)) ∈ zs_w := List.mem_of_getElem? (i := 148) rfl
theorem zq_149 : (Jvm.Cond.code ({ cls := "ZoneShelf", name := "objects", desc := "()I" } : Jvm.MethodName) prog_1_method_14_code (1 : Nat) (Option.some Jvm.ClassFile.FieldType.int)) ∈ zs_w := List.mem_of_getElem? (i := 149) rfl
theorem zq_150 : (Jvm.Cond.instanceMethod ({ cls := "ZoneShelf$Contents", name := "countObjects", desc := "()I" } : Jvm.MethodName)) ∈ zs_w := List.mem_of_getElem? (i := 150) rfl
theorem zq_151 : (Jvm.Cond.code ({ cls := "ZoneShelf$Contents", name := "countObjects", desc := "()I" } : Jvm.MethodName) prog_2_method_7_code (3 : Nat) (Option.some Jvm.ClassFile.FieldType.int)) ∈ zs_w := List.mem_of_getElem? (i := 151) rfl
theorem zq_152 : (Jvm.Cond.methodLink "ZoneShelfLaw" (72 : Nat) ({ cls := "ZoneShelf", name := "room", desc := "()I" } : Jvm.MethodName)) ∈ zs_w := List.mem_of_getElem? (i := 152) rfl
theorem zq_153 : (Jvm.Cond.instanceMethod ({ cls := "ZoneShelf", name := "room", desc := "()I" } : Jvm.MethodName)) ∈ zs_w := List.mem_of_getElem? (i := 153) rfl
theorem zq_154 : (Jvm.Cond.selects "ZoneShelf" ({ cls := "ZoneShelf", name := "room", desc := "()I" } : Jvm.MethodName) ({ cls := "ZoneShelf", name := "room", desc := "()I" } : Jvm.MethodName)) ∈ zs_w := List.mem_of_getElem? (i := 154) rfl
theorem zq_155 : (Jvm.Cond.code ({ cls := "ZoneShelf", name := "room", desc := "()I" } : Jvm.MethodName) prog_1_method_15_code (1 : Nat) (Option.some Jvm.ClassFile.FieldType.int)) ∈ zs_w := List.mem_of_getElem? (i := 155) rfl
theorem zq_156 : (Jvm.Cond.methodLink "ZoneShelfLaw" (76 : Nat) ({ cls := "ZoneShelf", name := "object", desc := "(II)I" } : Jvm.MethodName)) ∈ zs_w := List.mem_of_getElem? (i := 156) rfl
theorem zq_157 : (Jvm.Cond.instanceMethod ({ cls := "ZoneShelf", name := "object", desc := "(II)I" } : Jvm.MethodName)) ∈ zs_w := List.mem_of_getElem? (i := 157) rfl
theorem zq_158 : (Jvm.Cond.selects "ZoneShelf" ({ cls := "ZoneShelf", name := "object", desc := "(II)I" } : Jvm.MethodName) ({ cls := "ZoneShelf", name := "object", desc := "(II)I" } : Jvm.MethodName)) ∈ zs_w := List.mem_of_getElem? (i := 158) rfl
theorem zq_159 : (Jvm.Cond.code ({ cls := "ZoneShelf", name := "object", desc := "(II)I" } : Jvm.MethodName) prog_1_method_16_code (3 : Nat) (Option.some Jvm.ClassFile.FieldType.int)) ∈ zs_w := List.mem_of_getElem? (i := 159) rfl
theorem zq_160 : (Jvm.Cond.methodLink "ZoneShelfLaw" (80 : Nat) ({ cls := "ZoneShelf", name := "word", desc := "(II)I" } : Jvm.MethodName)) ∈ zs_w := List.mem_of_getElem? (i := 160) rfl
theorem zq_161 : (Jvm.Cond.instanceMethod ({ cls := "ZoneShelf", name := "word", desc := "(II)I" } : Jvm.MethodName)) ∈ zs_w := List.mem_of_getElem? (i := 161) rfl
theorem zq_162 : (Jvm.Cond.selects "ZoneShelf" ({ cls := "ZoneShelf", name := "word", desc := "(II)I" } : Jvm.MethodName) ({ cls := "ZoneShelf", name := "word", desc := "(II)I" } : Jvm.MethodName)) ∈ zs_w := List.mem_of_getElem? (i := 162) rfl
theorem zq_163 : (Jvm.Cond.code ({ cls := "ZoneShelf", name := "word", desc := "(II)I" } : Jvm.MethodName) prog_1_method_17_code (3 : Nat) (Option.some Jvm.ClassFile.FieldType.int)) ∈ zs_w := List.mem_of_getElem? (i := 163) rfl
theorem zq_164 : (Jvm.Cond.methodLink "ZoneShelfLaw" (84 : Nat) ({ cls := "ZoneShelf", name := "find", desc := "(I)I" } : Jvm.MethodName)) ∈ zs_w := List.mem_of_getElem? (i := 164) rfl
theorem zq_165 : (Jvm.Cond.instanceMethod ({ cls := "ZoneShelf", name := "find", desc := "(I)I" } : Jvm.MethodName)) ∈ zs_w := List.mem_of_getElem? (i := 165) rfl
theorem zq_166 : (Jvm.Cond.selects "ZoneShelf" ({ cls := "ZoneShelf", name := "find", desc := "(I)I" } : Jvm.MethodName) ({ cls := "ZoneShelf", name := "find", desc := "(I)I" } : Jvm.MethodName)) ∈ zs_w := List.mem_of_getElem? (i := 166) rfl
theorem zq_167 : (Jvm.Cond.code ({ cls := "ZoneShelf", name := "find", desc := "(I)I" } : Jvm.MethodName) prog_1_method_18_code (2 : Nat) (Option.some Jvm.ClassFile.FieldType.int)) ∈ zs_w := List.mem_of_getElem? (i := 167) rfl
theorem zq_168 : (Jvm.Cond.methodLink "ZoneShelfLaw" (89 : Nat) ({ cls := "ZoneShelf", name := "list", desc := "(I)I" } : Jvm.MethodName)) ∈ zs_w := List.mem_of_getElem? (i := 168) rfl
theorem zq_169 : (Jvm.Cond.instanceMethod ({ cls := "ZoneShelf", name := "list", desc := "(I)I" } : Jvm.MethodName)) ∈ zs_w := List.mem_of_getElem? (i := 169) rfl
theorem zq_170 : (Jvm.Cond.selects "ZoneShelf" ({ cls := "ZoneShelf", name := "list", desc := "(I)I" } : Jvm.MethodName) ({ cls := "ZoneShelf", name := "list", desc := "(I)I" } : Jvm.MethodName)) ∈ zs_w := List.mem_of_getElem? (i := 170) rfl
theorem zq_171 : (Jvm.Cond.code ({ cls := "ZoneShelf", name := "list", desc := "(I)I" } : Jvm.MethodName) prog_1_method_19_code (2 : Nat) (Option.some Jvm.ClassFile.FieldType.int)) ∈ zs_w := List.mem_of_getElem? (i := 171) rfl
theorem zq_172 : (Jvm.Cond.instanceMethod ({ cls := "ZoneShelf$Contents", name := "numberAtRank", desc := "(I)I" } : Jvm.MethodName)) ∈ zs_w := List.mem_of_getElem? (i := 172) rfl
theorem zq_173 : (Jvm.Cond.code ({ cls := "ZoneShelf$Contents", name := "numberAtRank", desc := "(I)I" } : Jvm.MethodName) prog_2_method_5_code (3 : Nat) (Option.some Jvm.ClassFile.FieldType.int)) ∈ zs_w := List.mem_of_getElem? (i := 173) rfl
theorem zq_174 : (Jvm.Cond.methodLink "ZoneShelf$Contents" (38 : Nat) ({ cls := "ZoneShelf$Contents", name := "countNamesBelow", desc := "(I)I" } : Jvm.MethodName)) ∈ zs_w := List.mem_of_getElem? (i := 174) rfl
theorem zq_175 : (Jvm.Cond.instanceMethod ({ cls := "ZoneShelf$Contents", name := "countNamesBelow", desc := "(I)I" } : Jvm.MethodName)) ∈ zs_w := List.mem_of_getElem? (i := 175) rfl
theorem zq_176 : (Jvm.Cond.code ({ cls := "ZoneShelf$Contents", name := "countNamesBelow", desc := "(I)I" } : Jvm.MethodName) prog_2_method_6_code (4 : Nat) (Option.some Jvm.ClassFile.FieldType.int)) ∈ zs_w := List.mem_of_getElem? (i := 176) rfl
theorem zq_177 : (Jvm.Cond.classLink "ZoneShelfLaw" (10 : Nat) "ZoneShelfModel") ∈ zs_w := List.mem_of_getElem? (i := 177) rfl
theorem zq_178 : (Jvm.Cond.instantiable "ZoneShelfModel" (11 : Nat)) ∈ zs_w := List.mem_of_getElem? (i := 178) rfl
theorem zq_179 : (Jvm.Cond.methodLink "ZoneShelfLaw" (12 : Nat) ({ cls := "ZoneShelfModel", name := "<init>", desc := "()V" } : Jvm.MethodName)) ∈ zs_w := List.mem_of_getElem? (i := 179) rfl
theorem zq_180 : (Jvm.Cond.instanceMethod ({ cls := "ZoneShelfModel", name := "<init>", desc := "()V" } : Jvm.MethodName)) ∈ zs_w := List.mem_of_getElem? (i := 180) rfl
theorem zq_181 : (Jvm.Cond.code ({ cls := "ZoneShelfModel", name := "<init>", desc := "()V" } : Jvm.MethodName) prog_4_method_1_code (1 : Nat) (Option.none : Option Jvm.ClassFile.FieldType)) ∈ zs_w := List.mem_of_getElem? (i := 181) rfl
theorem zq_182 : (Jvm.Cond.methodLink "ZoneShelfModel" (1 : Nat) ({ cls := "java/lang/Object", name := "<init>", desc := "()V" } : Jvm.MethodName)) ∈ zs_w := List.mem_of_getElem? (i := 182) rfl
theorem zq_183 : (Jvm.Cond.fieldLink "ZoneShelfModel" (7 : Nat) "ZoneShelfModel" "up" "Z") ∈ zs_w := List.mem_of_getElem? (i := 183) rfl
theorem zq_184 : (Jvm.Cond.fieldLink "ZoneShelfModel" (13 : Nat) "ZoneShelfModel" "names" "[I") ∈ zs_w := List.mem_of_getElem? (i := 184) rfl
theorem zq_185 : (Jvm.Cond.fieldLink "ZoneShelfModel" (17 : Nat) "ZoneShelfModel" "hints" "[I") ∈ zs_w := List.mem_of_getElem? (i := 185) rfl
theorem zq_186 : (Jvm.Cond.fieldLink "ZoneShelfModel" (20 : Nat) "ZoneShelfModel" "sizes" "[I") ∈ zs_w := List.mem_of_getElem? (i := 186) rfl
theorem zq_187 : (Jvm.Cond.fieldLink "ZoneShelfModel" (23 : Nat) "ZoneShelfModel" "opens" "[Z") ∈ zs_w := List.mem_of_getElem? (i := 187) rfl
theorem zq_188 : (Jvm.Cond.fieldLink "ZoneShelfModel" (27 : Nat) "ZoneShelfModel" "words" "[I") ∈ zs_w := List.mem_of_getElem? (i := 188) rfl
theorem zq_189 : (Jvm.Cond.fieldLink "ZoneShelfModel" (30 : Nat) "ZoneShelfModel" "oldNames" "[I") ∈ zs_w := List.mem_of_getElem? (i := 189) rfl
theorem zq_190 : (Jvm.Cond.fieldLink "ZoneShelfModel" (33 : Nat) "ZoneShelfModel" "oldHints" "[I") ∈ zs_w := List.mem_of_getElem? (i := 190) rfl
theorem zq_191 : (Jvm.Cond.fieldLink "ZoneShelfModel" (36 : Nat) "ZoneShelfModel" "oldSizes" "[I") ∈ zs_w := List.mem_of_getElem? (i := 191) rfl
theorem zq_192 : (Jvm.Cond.fieldLink "ZoneShelfModel" (39 : Nat) "ZoneShelfModel" "oldOpens" "[Z") ∈ zs_w := List.mem_of_getElem? (i := 192) rfl
theorem zq_193 : (Jvm.Cond.fieldLink "ZoneShelfModel" (42 : Nat) "ZoneShelfModel" "oldWords" "[I") ∈ zs_w := List.mem_of_getElem? (i := 193) rfl
theorem zq_194 : (Jvm.Cond.lays "ZoneShelfModel" "ZoneShelfModel" "up" "Z") ∈ zs_w := List.mem_of_getElem? (i := 194) rfl
theorem zq_195 : (Jvm.Cond.laysFinal "ZoneShelfModel" "ZoneShelfModel" "names" "[I") ∈ zs_w := List.mem_of_getElem? (i := 195) rfl
theorem zq_196 : (Jvm.Cond.laysFinal "ZoneShelfModel" "ZoneShelfModel" "hints" "[I") ∈ zs_w := List.mem_of_getElem? (i := 196) rfl
theorem zq_197 : (Jvm.Cond.laysFinal "ZoneShelfModel" "ZoneShelfModel" "sizes" "[I") ∈ zs_w := List.mem_of_getElem? (i := 197) rfl
theorem zq_198 : (Jvm.Cond.laysFinal "ZoneShelfModel" "ZoneShelfModel" "opens" "[Z") ∈ zs_w := List.mem_of_getElem? (i := 198) rfl
theorem zq_199 : (Jvm.Cond.laysFinal "ZoneShelfModel" "ZoneShelfModel" "words" "[I") ∈ zs_w := List.mem_of_getElem? (i := 199) rfl
theorem zq_200 : (Jvm.Cond.laysFinal "ZoneShelfModel" "ZoneShelfModel" "oldNames" "[I") ∈ zs_w := List.mem_of_getElem? (i := 200) rfl
theorem zq_201 : (Jvm.Cond.laysFinal "ZoneShelfModel" "ZoneShelfModel" "oldHints" "[I") ∈ zs_w := List.mem_of_getElem? (i := 201) rfl
theorem zq_202 : (Jvm.Cond.laysFinal "ZoneShelfModel" "ZoneShelfModel" "oldSizes" "[I") ∈ zs_w := List.mem_of_getElem? (i := 202) rfl
theorem zq_203 : (Jvm.Cond.laysFinal "ZoneShelfModel" "ZoneShelfModel" "oldOpens" "[Z") ∈ zs_w := List.mem_of_getElem? (i := 203) rfl
theorem zq_204 : (Jvm.Cond.laysFinal "ZoneShelfModel" "ZoneShelfModel" "oldWords" "[I") ∈ zs_w := List.mem_of_getElem? (i := 204) rfl
theorem zq_205 : (Jvm.Cond.methodLink "ZoneShelfLaw" (17 : Nat) ({ cls := "ZoneShelfModel", name := "create", desc := "(II)I" } : Jvm.MethodName)) ∈ zs_w := List.mem_of_getElem? (i := 205) rfl
theorem zq_206 : (Jvm.Cond.instanceMethod ({ cls := "ZoneShelfModel", name := "create", desc := "(II)I" } : Jvm.MethodName)) ∈ zs_w := List.mem_of_getElem? (i := 206) rfl
theorem zq_207 : (Jvm.Cond.selects "ZoneShelfModel" ({ cls := "ZoneShelfModel", name := "create", desc := "(II)I" } : Jvm.MethodName) ({ cls := "ZoneShelfModel", name := "create", desc := "(II)I" } : Jvm.MethodName)) ∈ zs_w := List.mem_of_getElem? (i := 207) rfl
theorem zq_208 : (Jvm.Cond.code ({ cls := "ZoneShelfModel", name := "create", desc := "(II)I" } : Jvm.MethodName) prog_4_method_6_code (4 : Nat) (Option.some Jvm.ClassFile.FieldType.int)) ∈ zs_w := List.mem_of_getElem? (i := 208) rfl
theorem zq_209 : (Jvm.Cond.methodLink "ZoneShelfModel" (45 : Nat) ({ cls := "ZoneShelfModel", name := "isName", desc := "(I)Z" } : Jvm.MethodName)) ∈ zs_w := List.mem_of_getElem? (i := 209) rfl
theorem zq_210 : (Jvm.Cond.static ({ cls := "ZoneShelfModel", name := "isName", desc := "(I)Z" } : Jvm.MethodName)) ∈ zs_w := List.mem_of_getElem? (i := 210) rfl
theorem zq_211 : (Jvm.Cond.code ({ cls := "ZoneShelfModel", name := "isName", desc := "(I)Z" } : Jvm.MethodName) prog_4_method_3_code (1 : Nat) (Option.some Jvm.ClassFile.FieldType.boolean)) ∈ zs_w := List.mem_of_getElem? (i := 211) rfl
theorem zq_212 : (Jvm.Cond.methodLink "ZoneShelfModel" (52 : Nat) ({ cls := "ZoneShelfModel", name := "named", desc := "(I)I" } : Jvm.MethodName)) ∈ zs_w := List.mem_of_getElem? (i := 212) rfl
theorem zq_213 : (Jvm.Cond.instanceMethod ({ cls := "ZoneShelfModel", name := "named", desc := "(I)I" } : Jvm.MethodName)) ∈ zs_w := List.mem_of_getElem? (i := 213) rfl
theorem zq_214 : (Jvm.Cond.code ({ cls := "ZoneShelfModel", name := "named", desc := "(I)I" } : Jvm.MethodName) prog_4_method_4_code (4 : Nat) (Option.some Jvm.ClassFile.FieldType.int)) ∈ zs_w := List.mem_of_getElem? (i := 214) rfl
theorem zq_215 : (Jvm.Cond.methodLink "ZoneShelfModel" (49 : Nat) ({ cls := "ZoneShelfModel", name := "is", desc := "(I)Z" } : Jvm.MethodName)) ∈ zs_w := List.mem_of_getElem? (i := 215) rfl
theorem zq_216 : (Jvm.Cond.instanceMethod ({ cls := "ZoneShelfModel", name := "is", desc := "(I)Z" } : Jvm.MethodName)) ∈ zs_w := List.mem_of_getElem? (i := 216) rfl
theorem zq_217 : (Jvm.Cond.code ({ cls := "ZoneShelfModel", name := "is", desc := "(I)Z" } : Jvm.MethodName) prog_4_method_2_code (2 : Nat) (Option.some Jvm.ClassFile.FieldType.boolean)) ∈ zs_w := List.mem_of_getElem? (i := 217) rfl
theorem zq_218 : (Jvm.Cond.methodLink "ZoneShelfLaw" (22 : Nat) ({ cls := "ZoneShelfModel", name := "append", desc := "(II)Z" } : Jvm.MethodName)) ∈ zs_w := List.mem_of_getElem? (i := 218) rfl
theorem zq_219 : (Jvm.Cond.instanceMethod ({ cls := "ZoneShelfModel", name := "append", desc := "(II)Z" } : Jvm.MethodName)) ∈ zs_w := List.mem_of_getElem? (i := 219) rfl
theorem zq_220 : (Jvm.Cond.selects "ZoneShelfModel" ({ cls := "ZoneShelfModel", name := "append", desc := "(II)Z" } : Jvm.MethodName) ({ cls := "ZoneShelfModel", name := "append", desc := "(II)Z" } : Jvm.MethodName)) ∈ zs_w := List.mem_of_getElem? (i := 220) rfl
theorem zq_221 : (Jvm.Cond.code ({ cls := "ZoneShelfModel", name := "append", desc := "(II)Z" } : Jvm.MethodName) prog_4_method_7_code (3 : Nat) (Option.some Jvm.ClassFile.FieldType.boolean)) ∈ zs_w := List.mem_of_getElem? (i := 221) rfl
theorem zq_222 : (Jvm.Cond.methodLink "ZoneShelfModel" (56 : Nat) ({ cls := "ZoneShelfModel", name := "appendRow", desc := "(III)Z" } : Jvm.MethodName)) ∈ zs_w := List.mem_of_getElem? (i := 222) rfl
theorem zq_223 : (Jvm.Cond.instanceMethod ({ cls := "ZoneShelfModel", name := "appendRow", desc := "(III)Z" } : Jvm.MethodName)) ∈ zs_w := List.mem_of_getElem? (i := 223) rfl
theorem zq_224 : (Jvm.Cond.selects "ZoneShelfModel" ({ cls := "ZoneShelfModel", name := "appendRow", desc := "(III)Z" } : Jvm.MethodName) ({ cls := "ZoneShelfModel", name := "appendRow", desc := "(III)Z" } : Jvm.MethodName)) ∈ zs_w := List.mem_of_getElem? (i := 224) rfl
theorem zq_225 : (Jvm.Cond.code ({ cls := "ZoneShelfModel", name := "appendRow", desc := "(III)Z" } : Jvm.MethodName) prog_4_method_8_code (5 : Nat) (Option.some Jvm.ClassFile.FieldType.boolean)) ∈ zs_w := List.mem_of_getElem? (i := 225) rfl
theorem zq_226 : (Jvm.Cond.methodLink "ZoneShelfModel" (60 : Nat) ({ cls := "ZoneShelfModel", name := "left", desc := "()I" } : Jvm.MethodName)) ∈ zs_w := List.mem_of_getElem? (i := 226) rfl
theorem zq_227 : (Jvm.Cond.instanceMethod ({ cls := "ZoneShelfModel", name := "left", desc := "()I" } : Jvm.MethodName)) ∈ zs_w := List.mem_of_getElem? (i := 227) rfl
theorem zq_228 : (Jvm.Cond.code ({ cls := "ZoneShelfModel", name := "left", desc := "()I" } : Jvm.MethodName) prog_4_method_5_code (3 : Nat) (Option.some Jvm.ClassFile.FieldType.int)) ∈ zs_w := List.mem_of_getElem? (i := 228) rfl
theorem zq_229 : (Jvm.Cond.methodLink "ZoneShelfLaw" (27 : Nat) ({ cls := "ZoneShelfModel", name := "appendRow", desc := "(III)Z" } : Jvm.MethodName)) ∈ zs_w := List.mem_of_getElem? (i := 229) rfl
theorem zq_230 : (Jvm.Cond.methodLink "ZoneShelfLaw" (32 : Nat) ({ cls := "ZoneShelfModel", name := "open", desc := "(IZ)Z" } : Jvm.MethodName)) ∈ zs_w := List.mem_of_getElem? (i := 230) rfl
theorem zq_231 : (Jvm.Cond.instanceMethod ({ cls := "ZoneShelfModel", name := "open", desc := "(IZ)Z" } : Jvm.MethodName)) ∈ zs_w := List.mem_of_getElem? (i := 231) rfl
theorem zq_232 : (Jvm.Cond.selects "ZoneShelfModel" ({ cls := "ZoneShelfModel", name := "open", desc := "(IZ)Z" } : Jvm.MethodName) ({ cls := "ZoneShelfModel", name := "open", desc := "(IZ)Z" } : Jvm.MethodName)) ∈ zs_w := List.mem_of_getElem? (i := 232) rfl
theorem zq_233 : (Jvm.Cond.code ({ cls := "ZoneShelfModel", name := "open", desc := "(IZ)Z" } : Jvm.MethodName) prog_4_method_9_code (3 : Nat) (Option.some Jvm.ClassFile.FieldType.boolean)) ∈ zs_w := List.mem_of_getElem? (i := 233) rfl
theorem zq_234 : (Jvm.Cond.methodLink "ZoneShelfLaw" (37 : Nat) ({ cls := "ZoneShelfModel", name := "remove", desc := "(I)Z" } : Jvm.MethodName)) ∈ zs_w := List.mem_of_getElem? (i := 234) rfl
theorem zq_235 : (Jvm.Cond.instanceMethod ({ cls := "ZoneShelfModel", name := "remove", desc := "(I)Z" } : Jvm.MethodName)) ∈ zs_w := List.mem_of_getElem? (i := 235) rfl
theorem zq_236 : (Jvm.Cond.selects "ZoneShelfModel" ({ cls := "ZoneShelfModel", name := "remove", desc := "(I)Z" } : Jvm.MethodName) ({ cls := "ZoneShelfModel", name := "remove", desc := "(I)Z" } : Jvm.MethodName)) ∈ zs_w := List.mem_of_getElem? (i := 236) rfl
theorem zq_237 : (Jvm.Cond.code ({ cls := "ZoneShelfModel", name := "remove", desc := "(I)Z" } : Jvm.MethodName) prog_4_method_10_code (2 : Nat) (Option.some Jvm.ClassFile.FieldType.boolean)) ∈ zs_w := List.mem_of_getElem? (i := 237) rfl
theorem zq_238 : (Jvm.Cond.methodLink "ZoneShelfLaw" (41 : Nat) ({ cls := "ZoneShelfModel", name := "rename", desc := "(II)Z" } : Jvm.MethodName)) ∈ zs_w := List.mem_of_getElem? (i := 238) rfl
theorem zq_239 : (Jvm.Cond.instanceMethod ({ cls := "ZoneShelfModel", name := "rename", desc := "(II)Z" } : Jvm.MethodName)) ∈ zs_w := List.mem_of_getElem? (i := 239) rfl
theorem zq_240 : (Jvm.Cond.selects "ZoneShelfModel" ({ cls := "ZoneShelfModel", name := "rename", desc := "(II)Z" } : Jvm.MethodName) ({ cls := "ZoneShelfModel", name := "rename", desc := "(II)Z" } : Jvm.MethodName)) ∈ zs_w := List.mem_of_getElem? (i := 240) rfl
theorem zq_241 : (Jvm.Cond.code ({ cls := "ZoneShelfModel", name := "rename", desc := "(II)Z" } : Jvm.MethodName) prog_4_method_11_code (3 : Nat) (Option.some Jvm.ClassFile.FieldType.boolean)) ∈ zs_w := List.mem_of_getElem? (i := 241) rfl
theorem zq_242 : (Jvm.Cond.methodLink "ZoneShelfLaw" (46 : Nat) ({ cls := "ZoneShelfModel", name := "sync", desc := "()Z" } : Jvm.MethodName)) ∈ zs_w := List.mem_of_getElem? (i := 242) rfl
theorem zq_243 : (Jvm.Cond.instanceMethod ({ cls := "ZoneShelfModel", name := "sync", desc := "()Z" } : Jvm.MethodName)) ∈ zs_w := List.mem_of_getElem? (i := 243) rfl
theorem zq_244 : (Jvm.Cond.selects "ZoneShelfModel" ({ cls := "ZoneShelfModel", name := "sync", desc := "()Z" } : Jvm.MethodName) ({ cls := "ZoneShelfModel", name := "sync", desc := "()Z" } : Jvm.MethodName)) ∈ zs_w := List.mem_of_getElem? (i := 244) rfl
theorem zq_245 : (Jvm.Cond.code ({ cls := "ZoneShelfModel", name := "sync", desc := "()Z" } : Jvm.MethodName) prog_4_method_12_code (2 : Nat) (Option.some Jvm.ClassFile.FieldType.boolean)) ∈ zs_w := List.mem_of_getElem? (i := 245) rfl
theorem zq_246 : (Jvm.Cond.methodLink "ZoneShelfLaw" (50 : Nat) ({ cls := "ZoneShelfModel", name := "tear", desc := "()Z" } : Jvm.MethodName)) ∈ zs_w := List.mem_of_getElem? (i := 246) rfl
theorem zq_247 : (Jvm.Cond.instanceMethod ({ cls := "ZoneShelfModel", name := "tear", desc := "()Z" } : Jvm.MethodName)) ∈ zs_w := List.mem_of_getElem? (i := 247) rfl
theorem zq_248 : (Jvm.Cond.selects "ZoneShelfModel" ({ cls := "ZoneShelfModel", name := "tear", desc := "()Z" } : Jvm.MethodName) ({ cls := "ZoneShelfModel", name := "tear", desc := "()Z" } : Jvm.MethodName)) ∈ zs_w := List.mem_of_getElem? (i := 248) rfl
theorem zq_249 : (Jvm.Cond.code ({ cls := "ZoneShelfModel", name := "tear", desc := "()Z" } : Jvm.MethodName) prog_4_method_13_code (1 : Nat) (Option.some Jvm.ClassFile.FieldType.boolean)) ∈ zs_w := List.mem_of_getElem? (i := 249) rfl
theorem zq_250 : (Jvm.Cond.methodLink "ZoneShelfModel" (64 : Nat) ({ cls := "ZoneShelfModel", name := "cut", desc := "()Z" } : Jvm.MethodName)) ∈ zs_w := List.mem_of_getElem? (i := 250) rfl
theorem zq_251 : (Jvm.Cond.instanceMethod ({ cls := "ZoneShelfModel", name := "cut", desc := "()Z" } : Jvm.MethodName)) ∈ zs_w := List.mem_of_getElem? (i := 251) rfl
theorem zq_252 : (Jvm.Cond.selects "ZoneShelfModel" ({ cls := "ZoneShelfModel", name := "cut", desc := "()Z" } : Jvm.MethodName) ({ cls := "ZoneShelfModel", name := "cut", desc := "()Z" } : Jvm.MethodName)) ∈ zs_w := List.mem_of_getElem? (i := 252) rfl
theorem zq_253 : (Jvm.Cond.code ({ cls := "ZoneShelfModel", name := "cut", desc := "()Z" } : Jvm.MethodName) prog_4_method_14_code (2 : Nat) (Option.some Jvm.ClassFile.FieldType.boolean)) ∈ zs_w := List.mem_of_getElem? (i := 253) rfl
theorem zq_254 : (Jvm.Cond.methodLink "ZoneShelfLaw" (54 : Nat) ({ cls := "ZoneShelfModel", name := "cut", desc := "()Z" } : Jvm.MethodName)) ∈ zs_w := List.mem_of_getElem? (i := 254) rfl
theorem zq_255 : (Jvm.Cond.methodLink "ZoneShelfLaw" (58 : Nat) ({ cls := "ZoneShelfModel", name := "mount", desc := "()Z" } : Jvm.MethodName)) ∈ zs_w := List.mem_of_getElem? (i := 255) rfl
theorem zq_256 : (Jvm.Cond.instanceMethod ({ cls := "ZoneShelfModel", name := "mount", desc := "()Z" } : Jvm.MethodName)) ∈ zs_w := List.mem_of_getElem? (i := 256) rfl
theorem zq_257 : (Jvm.Cond.selects "ZoneShelfModel" ({ cls := "ZoneShelfModel", name := "mount", desc := "()Z" } : Jvm.MethodName) ({ cls := "ZoneShelfModel", name := "mount", desc := "()Z" } : Jvm.MethodName)) ∈ zs_w := List.mem_of_getElem? (i := 257) rfl
theorem zq_258 : (Jvm.Cond.code ({ cls := "ZoneShelfModel", name := "mount", desc := "()Z" } : Jvm.MethodName) prog_4_method_15_code (2 : Nat) (Option.some Jvm.ClassFile.FieldType.boolean)) ∈ zs_w := List.mem_of_getElem? (i := 258) rfl
theorem zq_259 : (Jvm.Cond.methodLink "ZoneShelfLaw" (62 : Nat) ({ cls := "ZoneShelfModel", name := "tidy", desc := "()Z" } : Jvm.MethodName)) ∈ zs_w := List.mem_of_getElem? (i := 259) rfl
theorem zq_260 : (Jvm.Cond.instanceMethod ({ cls := "ZoneShelfModel", name := "tidy", desc := "()Z" } : Jvm.MethodName)) ∈ zs_w := List.mem_of_getElem? (i := 260) rfl
theorem zq_261 : (Jvm.Cond.selects "ZoneShelfModel" ({ cls := "ZoneShelfModel", name := "tidy", desc := "()Z" } : Jvm.MethodName) ({ cls := "ZoneShelfModel", name := "tidy", desc := "()Z" } : Jvm.MethodName)) ∈ zs_w := List.mem_of_getElem? (i := 261) rfl
theorem zq_262 : (Jvm.Cond.code ({ cls := "ZoneShelfModel", name := "tidy", desc := "()Z" } : Jvm.MethodName) prog_4_method_16_code (1 : Nat) (Option.some Jvm.ClassFile.FieldType.boolean)) ∈ zs_w := List.mem_of_getElem? (i := 262) rfl
theorem zq_263 : (Jvm.Cond.methodLink "ZoneShelfLaw" (66 : Nat) ({ cls := "ZoneShelfModel", name := "isUp", desc := "()Z" } : Jvm.MethodName)) ∈ zs_w := List.mem_of_getElem? (i := 263) rfl
theorem zq_264 : (Jvm.Cond.instanceMethod ({ cls := "ZoneShelfModel", name := "isUp", desc := "()Z" } : Jvm.MethodName)) ∈ zs_w := List.mem_of_getElem? (i := 264) rfl
theorem zq_265 : (Jvm.Cond.selects "ZoneShelfModel" ({ cls := "ZoneShelfModel", name := "isUp", desc := "()Z" } : Jvm.MethodName) ({ cls := "ZoneShelfModel", name := "isUp", desc := "()Z" } : Jvm.MethodName)) ∈ zs_w := List.mem_of_getElem? (i := 265) rfl
theorem zq_266 : (Jvm.Cond.code ({ cls := "ZoneShelfModel", name := "isUp", desc := "()Z" } : Jvm.MethodName) prog_4_method_17_code (1 : Nat) (Option.some Jvm.ClassFile.FieldType.boolean)) ∈ zs_w := List.mem_of_getElem? (i := 266) rfl
theorem zq_267 : (Jvm.Cond.methodLink "ZoneShelfLaw" (71 : Nat) ({ cls := "ZoneShelfModel", name := "objects", desc := "()I" } : Jvm.MethodName)) ∈ zs_w := List.mem_of_getElem? (i := 267) rfl
theorem zq_268 : (Jvm.Cond.instanceMethod ({ cls := "ZoneShelfModel", name := "objects", desc := "()I" } : Jvm.MethodName)) ∈ zs_w := List.mem_of_getElem? (i := 268) rfl
theorem zq_269 : (Jvm.Cond.selects "ZoneShelfModel" ({ cls := "ZoneShelfModel", name := "objects", desc := "()I" } : Jvm.MethodName) ({ cls := "ZoneShelfModel", name := "objects", desc := "()I" } : Jvm.MethodName)) ∈ zs_w := List.mem_of_getElem? (i := 269) rfl
theorem zq_270 : (Jvm.Cond.code ({ cls := "ZoneShelfModel", name := "objects", desc := "()I" } : Jvm.MethodName) prog_4_method_18_code (3 : Nat) (Option.some Jvm.ClassFile.FieldType.int)) ∈ zs_w := List.mem_of_getElem? (i := 270) rfl
theorem zq_271 : (Jvm.Cond.methodLink "ZoneShelfLaw" (75 : Nat) ({ cls := "ZoneShelfModel", name := "room", desc := "()I" } : Jvm.MethodName)) ∈ zs_w := List.mem_of_getElem? (i := 271) rfl
theorem zq_272 : (Jvm.Cond.instanceMethod ({ cls := "ZoneShelfModel", name := "room", desc := "()I" } : Jvm.MethodName)) ∈ zs_w := List.mem_of_getElem? (i := 272) rfl
theorem zq_273 : (Jvm.Cond.selects "ZoneShelfModel" ({ cls := "ZoneShelfModel", name := "room", desc := "()I" } : Jvm.MethodName) ({ cls := "ZoneShelfModel", name := "room", desc := "()I" } : Jvm.MethodName)) ∈ zs_w := List.mem_of_getElem? (i := 273) rfl
theorem zq_274 : (Jvm.Cond.code ({ cls := "ZoneShelfModel", name := "room", desc := "()I" } : Jvm.MethodName) prog_4_method_19_code (1 : Nat) (Option.some Jvm.ClassFile.FieldType.int)) ∈ zs_w := List.mem_of_getElem? (i := 274) rfl
theorem zq_275 : (Jvm.Cond.methodLink "ZoneShelfLaw" (79 : Nat) ({ cls := "ZoneShelfModel", name := "object", desc := "(II)I" } : Jvm.MethodName)) ∈ zs_w := List.mem_of_getElem? (i := 275) rfl
theorem zq_276 : (Jvm.Cond.instanceMethod ({ cls := "ZoneShelfModel", name := "object", desc := "(II)I" } : Jvm.MethodName)) ∈ zs_w := List.mem_of_getElem? (i := 276) rfl
theorem zq_277 : (Jvm.Cond.selects "ZoneShelfModel" ({ cls := "ZoneShelfModel", name := "object", desc := "(II)I" } : Jvm.MethodName) ({ cls := "ZoneShelfModel", name := "object", desc := "(II)I" } : Jvm.MethodName)) ∈ zs_w := List.mem_of_getElem? (i := 277) rfl
theorem zq_278 : (Jvm.Cond.code ({ cls := "ZoneShelfModel", name := "object", desc := "(II)I" } : Jvm.MethodName) prog_4_method_20_code (3 : Nat) (Option.some Jvm.ClassFile.FieldType.int)) ∈ zs_w := List.mem_of_getElem? (i := 278) rfl
theorem zq_279 : (Jvm.Cond.methodLink "ZoneShelfLaw" (83 : Nat) ({ cls := "ZoneShelfModel", name := "word", desc := "(II)I" } : Jvm.MethodName)) ∈ zs_w := List.mem_of_getElem? (i := 279) rfl
theorem zq_280 : (Jvm.Cond.instanceMethod ({ cls := "ZoneShelfModel", name := "word", desc := "(II)I" } : Jvm.MethodName)) ∈ zs_w := List.mem_of_getElem? (i := 280) rfl
theorem zq_281 : (Jvm.Cond.selects "ZoneShelfModel" ({ cls := "ZoneShelfModel", name := "word", desc := "(II)I" } : Jvm.MethodName) ({ cls := "ZoneShelfModel", name := "word", desc := "(II)I" } : Jvm.MethodName)) ∈ zs_w := List.mem_of_getElem? (i := 281) rfl
theorem zq_282 : (Jvm.Cond.code ({ cls := "ZoneShelfModel", name := "word", desc := "(II)I" } : Jvm.MethodName) prog_4_method_21_code (3 : Nat) (Option.some Jvm.ClassFile.FieldType.int)) ∈ zs_w := List.mem_of_getElem? (i := 282) rfl
theorem zq_283 : (Jvm.Cond.methodLink "ZoneShelfLaw" (88 : Nat) ({ cls := "ZoneShelfModel", name := "find", desc := "(I)I" } : Jvm.MethodName)) ∈ zs_w := List.mem_of_getElem? (i := 283) rfl
theorem zq_284 : (Jvm.Cond.instanceMethod ({ cls := "ZoneShelfModel", name := "find", desc := "(I)I" } : Jvm.MethodName)) ∈ zs_w := List.mem_of_getElem? (i := 284) rfl
theorem zq_285 : (Jvm.Cond.selects "ZoneShelfModel" ({ cls := "ZoneShelfModel", name := "find", desc := "(I)I" } : Jvm.MethodName) ({ cls := "ZoneShelfModel", name := "find", desc := "(I)I" } : Jvm.MethodName)) ∈ zs_w := List.mem_of_getElem? (i := 285) rfl
theorem zq_286 : (Jvm.Cond.code ({ cls := "ZoneShelfModel", name := "find", desc := "(I)I" } : Jvm.MethodName) prog_4_method_22_code (2 : Nat) (Option.some Jvm.ClassFile.FieldType.int)) ∈ zs_w := List.mem_of_getElem? (i := 286) rfl
theorem zq_287 : (Jvm.Cond.methodLink "ZoneShelfLaw" (92 : Nat) ({ cls := "ZoneShelfModel", name := "list", desc := "(I)I" } : Jvm.MethodName)) ∈ zs_w := List.mem_of_getElem? (i := 287) rfl
theorem zq_288 : (Jvm.Cond.instanceMethod ({ cls := "ZoneShelfModel", name := "list", desc := "(I)I" } : Jvm.MethodName)) ∈ zs_w := List.mem_of_getElem? (i := 288) rfl
theorem zq_289 : (Jvm.Cond.selects "ZoneShelfModel" ({ cls := "ZoneShelfModel", name := "list", desc := "(I)I" } : Jvm.MethodName) ({ cls := "ZoneShelfModel", name := "list", desc := "(I)I" } : Jvm.MethodName)) ∈ zs_w := List.mem_of_getElem? (i := 289) rfl
theorem zq_290 : (Jvm.Cond.code ({ cls := "ZoneShelfModel", name := "list", desc := "(I)I" } : Jvm.MethodName) prog_4_method_23_code (5 : Nat) (Option.some Jvm.ClassFile.FieldType.int)) ∈ zs_w := List.mem_of_getElem? (i := 290) rfl
theorem zv_0 : (Jvm.Cond.methodLinkNest "ZoneShelf" (9 : Nat) ({ cls := "ZoneShelf$Contents", name := "<init>", desc := "()V" } : Jvm.MethodName) "ZoneShelf") ∈ zs_n := List.mem_of_getElem? (i := 0) rfl
theorem zv_1 : (Jvm.Cond.fieldLinkNest "ZoneShelf" (60 : Nat) "ZoneShelf$Contents" "names" "[I" "ZoneShelf") ∈ zs_n := List.mem_of_getElem? (i := 1) rfl
theorem zv_2 : (Jvm.Cond.fieldLinkNest "ZoneShelf" (78 : Nat) "ZoneShelf$Contents" "hints" "[I" "ZoneShelf") ∈ zs_n := List.mem_of_getElem? (i := 2) rfl
theorem zv_3 : (Jvm.Cond.fieldLinkNest "ZoneShelf" (81 : Nat) "ZoneShelf$Contents" "lengths" "[I" "ZoneShelf") ∈ zs_n := List.mem_of_getElem? (i := 3) rfl
theorem zv_4 : (Jvm.Cond.fieldLinkNest "ZoneShelf" (45 : Nat) "ZoneShelf$Contents" "opened" "[Z" "ZoneShelf") ∈ zs_n := List.mem_of_getElem? (i := 4) rfl
theorem zv_5 : (Jvm.Cond.fieldLinkNest "ZoneShelf" (84 : Nat) "ZoneShelf$Contents" "words" "[I" "ZoneShelf") ∈ zs_n := List.mem_of_getElem? (i := 5) rfl
theorem zv_6 : (Jvm.Cond.methodLinkNest "ZoneShelf" (90 : Nat) ({ cls := "ZoneShelf$Contents", name := "numberOf", desc := "(I)I" } : Jvm.MethodName) "ZoneShelf") ∈ zs_n := List.mem_of_getElem? (i := 6) rfl
theorem zv_7 : (Jvm.Cond.methodLinkNest "ZoneShelf" (30 : Nat) ({ cls := "ZoneShelf$Contents", name := "leastFreeNumber", desc := "()I" } : Jvm.MethodName) "ZoneShelf") ∈ zs_n := List.mem_of_getElem? (i := 7) rfl
theorem zv_8 : (Jvm.Cond.methodLinkNest "ZoneShelf" (34 : Nat) ({ cls := "ZoneShelf$Contents", name := "place", desc := "(III)V" } : Jvm.MethodName) "ZoneShelf") ∈ zs_n := List.mem_of_getElem? (i := 8) rfl
theorem zv_9 : (Jvm.Cond.methodLinkNest "ZoneShelf" (96 : Nat) ({ cls := "ZoneShelf$Contents", name := "isTaken", desc := "(I)Z" } : Jvm.MethodName) "ZoneShelf") ∈ zs_n := List.mem_of_getElem? (i := 9) rfl
theorem zv_10 : (Jvm.Cond.methodLinkNest "ZoneShelf" (75 : Nat) ({ cls := "ZoneShelf$Contents", name := "countWords", desc := "()I" } : Jvm.MethodName) "ZoneShelf") ∈ zs_n := List.mem_of_getElem? (i := 10) rfl
theorem zv_11 : (Jvm.Cond.methodLinkNest "ZoneShelf" (53 : Nat) ({ cls := "ZoneShelf$Contents", name := "addRow", desc := "(III)V" } : Jvm.MethodName) "ZoneShelf") ∈ zs_n := List.mem_of_getElem? (i := 11) rfl
theorem zv_12 : (Jvm.Cond.methodLinkNest "ZoneShelf" (56 : Nat) ({ cls := "ZoneShelf$Contents", name := "takeAway", desc := "(I)V" } : Jvm.MethodName) "ZoneShelf") ∈ zs_n := List.mem_of_getElem? (i := 12) rfl
theorem zv_13 : (Jvm.Cond.methodLinkNest "ZoneShelf" (64 : Nat) ({ cls := "ZoneShelf$Contents", name := "copyFrom", desc := "(LZoneShelf$Contents;)V" } : Jvm.MethodName) "ZoneShelf") ∈ zs_n := List.mem_of_getElem? (i := 13) rfl
theorem zv_14 : (Jvm.Cond.methodLinkNest "ZoneShelf" (72 : Nat) ({ cls := "ZoneShelf$Contents", name := "countObjects", desc := "()I" } : Jvm.MethodName) "ZoneShelf") ∈ zs_n := List.mem_of_getElem? (i := 14) rfl
theorem zv_15 : (Jvm.Cond.methodLinkNest "ZoneShelf" (93 : Nat) ({ cls := "ZoneShelf$Contents", name := "numberAtRank", desc := "(I)I" } : Jvm.MethodName) "ZoneShelf") ∈ zs_n := List.mem_of_getElem? (i := 15) rfl
theorem zs_in_X : ∀ w ∈ u_ws "ZoneShelf" zs_T_X 3, w ∈ zs_w := by decide +kernel
theorem zs_tok_X : ∀ k, k < 3 → parseFieldDescriptor (zs_T_X k).2.2.1 = some (zs_t_X k) := by decide +kernel
theorem zs_nok_X : ∀ a, a < 3 → ∀ b, b < 3 → a ≠ b → (zs_T_X a).2.1 ≠ (zs_T_X b).2.1 := by decide +kernel
theorem zs_in_C : ∀ w ∈ u_ws "ZoneShelf$Contents" zs_T_C 5, w ∈ zs_w := by decide +kernel
theorem zs_tok_C : ∀ k, k < 5 → parseFieldDescriptor (zs_T_C k).2.2.1 = some (zs_t_C k) := by decide +kernel
theorem zs_nok_C : ∀ a, a < 5 → ∀ b, b < 5 → a ≠ b → (zs_T_C a).2.1 ≠ (zs_T_C b).2.1 := by decide +kernel
theorem zs_in_M : ∀ w ∈ u_ws "ZoneShelfModel" zs_T_M 11, w ∈ zs_w := by decide +kernel
theorem zs_tok_M : ∀ k, k < 11 → parseFieldDescriptor (zs_T_M k).2.2.1 = some (zs_t_M k) := by decide +kernel
theorem zs_nok_M : ∀ a, a < 11 → ∀ b, b < 11 → a ≠ b → (zs_T_M a).2.1 ≠ (zs_T_M b).2.1 := by decide +kernel
def zs_wi : List Nat := [0, 1, 2, 3, 4, 5, 6, 7, 8, 9, 10, 11, 12, 13, 14, 15, 16, 17, 18, 19, 20, 21, 22, 23, 24, 25, 26, 27, 28, 29, 30, 31, 32, 33, 35, 36, 37, 38, 39, 40, 41, 43, 45, 47, 49, 51, 53, 55, 57, 59, 62, 63, 64, 65, 66, 67, 69, 71, 74, 75, 76, 77, 78, 80, 81, 82, 83, 84, 87, 88, 89, 90, 91, 94, 95, 96, 98, 99, 102, 103, 104, 105, 106, 107, 108, 109, 110, 111, 112, 114, 115, 117, 119, 120, 123, 124, 125, 126, 127, 130, 131, 132, 133, 134, 135, 136, 137, 138, 139, 140, 143, 144, 145, 146, 147, 148, 149, 150, 151, 152, 155, 156, 157, 158, 159, 160, 161, 162, 163, 164, 165, 166, 167, 168, 169, 170, 171, 172, 173, 174, 175, 176, 177, 178, 179, 180, 181, 182, 183, 184, 187, 188, 189, 190, 191, 192, 193, 194, 195, 196, 197, 198, 199, 200, 201, 202, 203, 204, 205, 206, 207, 208, 211, 212, 213, 215, 216, 217, 218, 219, 220, 221, 222, 223, 224, 225, 226, 227, 228, 229, 230, 231, 232, 233, 234, 236, 238, 240, 242, 244, 246, 248, 250, 252, 254, 257, 258, 259, 260, 261, 262, 263, 264, 266, 267, 268, 270, 271, 272, 273, 274, 275, 276, 277, 278, 279, 280, 282, 283, 284, 285, 286, 287, 288, 289, 290, 291, 292, 293, 294, 295, 296, 297, 298, 299, 300, 301, 302, 303, 304, 305, 306, 307, 308, 309, 310, 311, 312, 313, 314, 315, 316, 317, 318, 319, 320, 321, 322, 323, 324, 325, 326, 327, 328, 329, 330, 331, 332, 333, 334, 335, 336, 337, 338, 339, 340, 341, 342, 343, 344, 345]
def zs_ni : List Nat := [34, 42, 44, 46, 48, 50, 85, 92, 100, 116, 121, 128, 141, 153, 185, 209]
set_option maxRecDepth 100000 in
theorem zs_wi_ok : zs_wi.filterMap (fun i => lw_tbl[i]?) = zs_w := by rfl
set_option maxRecDepth 100000 in
theorem zs_ni_ok : zs_ni.filterMap (fun i => lw_tbl[i]?) = zs_n := by rfl
theorem zs_w_tbl : ∀ w ∈ zs_w, w ∈ lw_tbl := by
  intro w hw
  rw [← zs_wi_ok] at hw
  obtain ⟨i, -, hi⟩ := List.mem_filterMap.mp hw
  exact List.mem_of_getElem? hi
theorem zs_n_tbl : ∀ w ∈ zs_n, w ∈ lw_tbl := by
  intro w hw
  rw [← zs_ni_ok] at hw
  obtain ⟨i, -, hi⟩ := List.mem_filterMap.mp hw
  exact List.mem_of_getElem? hi
