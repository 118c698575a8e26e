set_option maxHeartbeats 4000000 in
set_option maxRecDepth 100000 in
theorem zl_0 {p : Program} {e : Env} {s : State} {m : MethodId} {below : List Frame} {meth : Method} {c : Code} {H : Heap} {locs : List Loc} {ls : Array Slot} {cells slots : Nat} {Q : State → Prop} (l : Launch) {b L i : Nat} {xs : Nat → Int32} {dC : Nat → ClassId} {dI : Nat → Nat → Nat} {cI cZ : ClassId} {a d : Nat → Nat} {u v : zs_X} (hx : p.tables.exec = Jvm.exec) (hb : c.code = code) (hml : c.maxLocals = 4) (hown : s.vm.findClass "ZoneShelfLaw" = some m.cls) (hz : ∀ w ∈ zs_w, w.before #[Value.ref b] s = true) (hk : zs_k dC dI cI cZ s) (hX : va_X b L xs s s.heap) (hbl : b < s.heap.size) (hl : lv_has ls 4 [(3, .int (nI i)), (0, .ref b), (1, .ref (a 0)), (2, .ref (d 0))]) (hi : i + 4 ≤ L) (hL : L ≤ 2048) (hP : va_P (dC, dI) zs_cl (zs_wX cI cZ a u ++ zs_wM cI cZ d v) H) (hD : va_D (fun q => s.heap.size ≤ q) (zs_wX cI cZ a u ++ zs_wM cI cZ d v)) (hS : va_S (fun q => s.heap.size ≤ q) s.heap H locs) (hR : zp_R u v) (hf : cells ≤ room_1.cells ∧ slots ≤ room_1.slots)
    (kk : ∀ (u v : zs_X) (H : Heap) (locs : List Loc), zp_R u v → va_P (dC, dI) zs_cl (zs_wX cI cZ a u ++ zs_wM cI cZ d v) H → va_D (fun q => s.heap.size ≤ q) (zs_wX cI cZ a u ++ zs_wM cI cZ d v) → va_S (fun q => s.heap.size ≤ q) s.heap H locs → W p l e room_1 s m #[Value.ref b] below meth c H locs cells slots Q (F0 m 550 ls [])) : W p l e room_1 s m #[Value.ref b] below meth c H locs cells slots Q (F0 m 120 ls []) := by
  refine lv_aload_n hx hb zd_L_law_120 rfl (lv_at hl 2 rfl) ?_
  refine lv_aload_n hx hb zd_L_law_121 rfl (lv_at hl 1 rfl) ?_
  refine lv_iload_n hx hb zd_L_law_122 rfl (lv_at hl 0 rfl) ?_
  refine lv_iconst (v := 1) hx hb zd_L_law_123 (by decide) ?_
  refine lv_iadd hx hb zd_L_law_124 ?_
  refine zi_top (y := nI (i + 1)) (nI_add i 1) ?_
  refine zi_sld (i := (i + 1)) hx hb hX hbl (Nat.not_le_of_lt hbl) hS (by omega) hL zd_L_law_125 ?_
  refine lv_aload_n hx hb zd_L_law_126 rfl (lv_at hl 1 rfl) ?_
  refine lv_iload_n hx hb zd_L_law_127 rfl (lv_at hl 0 rfl) ?_
  refine lv_iconst (v := 2) hx hb zd_L_law_128 (by decide) ?_
  refine lv_iadd hx hb zd_L_law_129 ?_
  refine zi_top (y := nI (i + 2)) (nI_add i 2) ?_
  refine zi_sld (i := (i + 2)) hx hb hX hbl (Nat.not_le_of_lt hbl) hS (by omega) hL zd_L_law_130 ?_
  refine zc_wV (rest := []) (wr := zs_wM cI cZ d v) [.int (xs (i + 1)), .int (xs (i + 2))] hx hb hml hown hz (zc_X_create l dC dI cI cZ a u H.size  (xs (i + 1)) (xs (i + 2))) zf_X_create rfl rfl zq_58 zq_59 zq_60 ⟨Nat.le_of_ble_eq_true rfl, Nat.le_of_ble_eq_true rfl⟩ hk hP hD hS (fun _ h => h) [0, 1, 2, 3, 4, 5, 6, 7, 8, 9, 10, 11, 12] [13, 14, 15, 16, 17, 18, 19, 20, 21, 22, 23] rfl rfl (by decide) (by decide) (by decide) 0 0 rfl rfl rfl rfl hl.1 rfl (Nat.le_of_ble_eq_true rfl) zd_L_law_131 hf (fun r0 u0 H locs er0 hP hD hS => ?_)
  obtain rfl : r0 = (zs_create u (xs (i + 1)) (xs (i + 2))).1 := congrArg Prod.fst er0
  obtain rfl : u0 = (zs_create u (xs (i + 1)) (xs (i + 2))).2 := congrArg Prod.snd er0
  refine lv_aload_n hx hb zd_L_law_134 rfl (lv_at hl 3 rfl) ?_
  refine lv_aload_n hx hb zd_L_law_135 rfl (lv_at hl 1 rfl) ?_
  refine lv_iload_n hx hb zd_L_law_136 rfl (lv_at hl 0 rfl) ?_
  refine lv_iconst (v := 1) hx hb zd_L_law_137 (by decide) ?_
  refine lv_iadd hx hb zd_L_law_138 ?_
  refine zi_top (y := nI (i + 1)) (nI_add i 1) ?_
  refine zi_sld (i := (i + 1)) hx hb hX hbl (Nat.not_le_of_lt hbl) hS (by omega) hL zd_L_law_139 ?_
  refine lv_aload_n hx hb zd_L_law_140 rfl (lv_at hl 1 rfl) ?_
  refine lv_iload_n hx hb zd_L_law_141 rfl (lv_at hl 0 rfl) ?_
  refine lv_iconst (v := 2) hx hb zd_L_law_142 (by decide) ?_
  refine lv_iadd hx hb zd_L_law_143 ?_
  refine zi_top (y := nI (i + 2)) (nI_add i 2) ?_
  refine zi_sld (i := (i + 2)) hx hb hX hbl (Nat.not_le_of_lt hbl) hS (by omega) hL zd_L_law_144 ?_
  refine zc_wV (rest := [.int ((zs_create u (xs (i + 1)) (xs (i + 2))).1)]) (wr := zs_wX cI cZ a (zs_create u (xs (i + 1)) (xs (i + 2))).2) [.int (xs (i + 1)), .int (xs (i + 2))] hx hb hml hown hz (zc_M_create l dC dI cI cZ d v H.size  (xs (i + 1)) (xs (i + 2))) zf_M_create rfl rfl zq_205 zq_206 zq_207 ⟨Nat.le_of_ble_eq_true rfl, Nat.le_of_ble_eq_true rfl⟩ hk hP hD hS (fun _ h => h) [0, 1, 2, 3, 4, 5, 6, 7, 8, 9, 10] [11, 12, 13, 14, 15, 16, 17, 18, 19, 20, 21, 22, 23] rfl rfl (by decide) (by decide) (by decide) 0 2 rfl rfl rfl rfl hl.1 rfl (Nat.le_of_ble_eq_true rfl) zd_L_law_145 hf (fun r1 u1 H locs er1 hP hD hS => ?_)
  obtain rfl : r1 = (zm_create v (xs (i + 1)) (xs (i + 2))).1 := congrArg Prod.fst er1
  obtain rfl : u1 = (zm_create v (xs (i + 1)) (xs (i + 2))).2 := congrArg Prod.snd er1
  refine lv_icmp_eq (tgt := 550) hx hb zd_L_law_148 rfl (fun _ => ?_) (fun h1 => ?_)
  · exact kk _ _ H locs (zp_create hR (xs (i + 1)) (xs (i + 2))).2 hP hD hS
  · exact absurd (zp_create hR (xs (i + 1)) (xs (i + 2))).1 h1
set_option maxHeartbeats 4000000 in
set_option maxRecDepth 100000 in
theorem zl_1 {p : Program} {e : Env} {s : State} {m : MethodId} {below : List Frame} {meth : Method} {c : Code} {H : Heap} {locs : List Loc} {ls : Array Slot} {cells slots : Nat} {Q : State → Prop} (l : Launch) {b L i : Nat} {xs : Nat → Int32} {dC : Nat → ClassId} {dI : Nat → Nat → Nat} {cI cZ : ClassId} {a d : Nat → Nat} {u v : zs_X} (hx : p.tables.exec = Jvm.exec) (hb : c.code = code) (hml : c.maxLocals = 4) (hown : s.vm.findClass "ZoneShelfLaw" = some m.cls) (hz : ∀ w ∈ zs_w, w.before #[Value.ref b] s = true) (hk : zs_k dC dI cI cZ s) (hX : va_X b L xs s s.heap) (hbl : b < s.heap.size) (hl : lv_has ls 4 [(3, .int (nI i)), (0, .ref b), (1, .ref (a 0)), (2, .ref (d 0))]) (hi : i + 4 ≤ L) (hL : L ≤ 2048) (hP : va_P (dC, dI) zs_cl (zs_wX cI cZ a u ++ zs_wM cI cZ d v) H) (hD : va_D (fun q => s.heap.size ≤ q) (zs_wX cI cZ a u ++ zs_wM cI cZ d v)) (hS : va_S (fun q => s.heap.size ≤ q) s.heap H locs) (hR : zp_R u v) (hf : cells ≤ room_1.cells ∧ slots ≤ room_1.slots)
    (kk : ∀ (u v : zs_X) (H : Heap) (locs : List Loc), zp_R u v → va_P (dC, dI) zs_cl (zs_wX cI cZ a u ++ zs_wM cI cZ d v) H → va_D (fun q => s.heap.size ≤ q) (zs_wX cI cZ a u ++ zs_wM cI cZ d v) → va_S (fun q => s.heap.size ≤ q) s.heap H locs → W p l e room_1 s m #[Value.ref b] below meth c H locs cells slots Q (F0 m 550 ls [])) : W p l e room_1 s m #[Value.ref b] below meth c H locs cells slots Q (F0 m 153 ls []) := by
  refine lv_aload_n hx hb zd_L_law_153 rfl (lv_at hl 2 rfl) ?_
  refine lv_aload_n hx hb zd_L_law_154 rfl (lv_at hl 1 rfl) ?_
  refine lv_iload_n hx hb zd_L_law_155 rfl (lv_at hl 0 rfl) ?_
  refine lv_iconst (v := 1) hx hb zd_L_law_156 (by decide) ?_
  refine lv_iadd hx hb zd_L_law_157 ?_
  refine zi_top (y := nI (i + 1)) (nI_add i 1) ?_
  refine zi_sld (i := (i + 1)) hx hb hX hbl (Nat.not_le_of_lt hbl) hS (by omega) hL zd_L_law_158 ?_
  refine lv_aload_n hx hb zd_L_law_159 rfl (lv_at hl 1 rfl) ?_
  refine lv_iload_n hx hb zd_L_law_160 rfl (lv_at hl 0 rfl) ?_
  refine lv_iconst (v := 2) hx hb zd_L_law_161 (by decide) ?_
  refine lv_iadd hx hb zd_L_law_162 ?_
  refine zi_top (y := nI (i + 2)) (nI_add i 2) ?_
  refine zi_sld (i := (i + 2)) hx hb hX hbl (Nat.not_le_of_lt hbl) hS (by omega) hL zd_L_law_163 ?_
  refine zc_wV (rest := []) (wr := zs_wM cI cZ d v) [.int (xs (i + 1)), .int (xs (i + 2))] hx hb hml hown hz (zc_X_append l dC dI cI cZ a u H.size (zp_ok1 hR) (xs (i + 1)) (xs (i + 2))) zf_X_append rfl rfl zq_80 zq_81 zq_82 ⟨Nat.le_of_ble_eq_true rfl, Nat.le_of_ble_eq_true rfl⟩ hk hP hD hS (fun _ h => h) [0, 1, 2, 3, 4, 5, 6, 7, 8, 9, 10, 11, 12] [13, 14, 15, 16, 17, 18, 19, 20, 21, 22, 23] rfl rfl (by decide) (by decide) (by decide) 0 0 rfl rfl rfl rfl hl.1 rfl (Nat.le_of_ble_eq_true rfl) zd_L_law_164 hf (fun r0 u0 H locs er0 hP hD hS => ?_)
  obtain rfl : r0 = (zs_appendRow u (xs (i + 1)) (xs (i + 2)) 1).1 := congrArg Prod.fst er0
  obtain rfl : u0 = (zs_appendRow u (xs (i + 1)) (xs (i + 2)) 1).2 := congrArg Prod.snd er0
  refine lv_aload_n hx hb zd_L_law_167 rfl (lv_at hl 3 rfl) ?_
  refine lv_aload_n hx hb zd_L_law_168 rfl (lv_at hl 1 rfl) ?_
  refine lv_iload_n hx hb zd_L_law_169 rfl (lv_at hl 0 rfl) ?_
  refine lv_iconst (v := 1) hx hb zd_L_law_170 (by decide) ?_
  refine lv_iadd hx hb zd_L_law_171 ?_
  refine zi_top (y := nI (i + 1)) (nI_add i 1) ?_
  refine zi_sld (i := (i + 1)) hx hb hX hbl (Nat.not_le_of_lt hbl) hS (by omega) hL zd_L_law_172 ?_
  refine lv_aload_n hx hb zd_L_law_173 rfl (lv_at hl 1 rfl) ?_
  refine lv_iload_n hx hb zd_L_law_174 rfl (lv_at hl 0 rfl) ?_
  refine lv_iconst (v := 2) hx hb zd_L_law_175 (by decide) ?_
  refine lv_iadd hx hb zd_L_law_176 ?_
  refine zi_top (y := nI (i + 2)) (nI_add i 2) ?_
  refine zi_sld (i := (i + 2)) hx hb hX hbl (Nat.not_le_of_lt hbl) hS (by omega) hL zd_L_law_177 ?_
  refine zc_wV (rest := [.int ((zs_appendRow u (xs (i + 1)) (xs (i + 2)) 1).1)]) (wr := zs_wX cI cZ a (zs_appendRow u (xs (i + 1)) (xs (i + 2)) 1).2) [.int (xs (i + 1)), .int (xs (i + 2))] hx hb hml hown hz (zc_M_append l dC dI cI cZ d v H.size (zp_ok2 hR) (xs (i + 1)) (xs (i + 2))) zf_M_append rfl rfl zq_218 zq_219 zq_220 ⟨Nat.le_of_ble_eq_true rfl, Nat.le_of_ble_eq_true rfl⟩ hk hP hD hS (fun _ h => h) [0, 1, 2, 3, 4, 5, 6, 7, 8, 9, 10] [11, 12, 13, 14, 15, 16, 17, 18, 19, 20, 21, 22, 23] rfl rfl (by decide) (by decide) (by decide) 0 2 rfl rfl rfl rfl hl.1 rfl (Nat.le_of_ble_eq_true rfl) zd_L_law_178 hf (fun r1 u1 H locs er1 hP hD hS => ?_)
  obtain rfl : r1 = (zm_appendRow v (xs (i + 1)) (xs (i + 2)) 1).1 := congrArg Prod.fst er1
  obtain rfl : u1 = (zm_appendRow v (xs (i + 1)) (xs (i + 2)) 1).2 := congrArg Prod.snd er1
  refine lv_icmp_eq (tgt := 550) hx hb zd_L_law_181 rfl (fun _ => ?_) (fun h1 => ?_)
  · exact kk _ _ H locs (zp_appendRow hR (xs (i + 1)) (xs (i + 2)) 1).2 hP hD hS
  · exact absurd (zp_appendRow hR (xs (i + 1)) (xs (i + 2)) 1).1 h1
set_option maxHeartbeats 4000000 in
set_option maxRecDepth 100000 in
theorem zl_2 {p : Program} {e : Env} {s : State} {m : MethodId} {below : List Frame} {meth : Method} {c : Code} {H : Heap} {locs : List Loc} {ls : Array Slot} {cells slots : Nat} {Q : State → Prop} (l : Launch) {b L i : Nat} {xs : Nat → Int32} {dC : Nat → ClassId} {dI : Nat → Nat → Nat} {cI cZ : ClassId} {a d : Nat → Nat} {u v : zs_X} (hx : p.tables.exec = Jvm.exec) (hb : c.code = code) (hml : c.maxLocals = 4) (hown : s.vm.findClass "ZoneShelfLaw" = some m.cls) (hz : ∀ w ∈ zs_w, w.before #[Value.ref b] s = true) (hk : zs_k dC dI cI cZ s) (hX : va_X b L xs s s.heap) (hbl : b < s.heap.size) (hl : lv_has ls 4 [(3, .int (nI i)), (0, .ref b), (1, .ref (a 0)), (2, .ref (d 0))]) (hi : i + 4 ≤ L) (hL : L ≤ 2048) (hP : va_P (dC, dI) zs_cl (zs_wX cI cZ a u ++ zs_wM cI cZ d v) H) (hD : va_D (fun q => s.heap.size ≤ q) (zs_wX cI cZ a u ++ zs_wM cI cZ d v)) (hS : va_S (fun q => s.heap.size ≤ q) s.heap H locs) (hR : zp_R u v) (hf : cells ≤ room_1.cells ∧ slots ≤ room_1.slots)
    (kk : ∀ (u v : zs_X) (H : Heap) (locs : List Loc), zp_R u v → va_P (dC, dI) zs_cl (zs_wX cI cZ a u ++ zs_wM cI cZ d v) H → va_D (fun q => s.heap.size ≤ q) (zs_wX cI cZ a u ++ zs_wM cI cZ d v) → va_S (fun q => s.heap.size ≤ q) s.heap H locs → W p l e room_1 s m #[Value.ref b] below meth c H locs cells slots Q (F0 m 550 ls [])) : W p l e room_1 s m #[Value.ref b] below meth c H locs cells slots Q (F0 m 186 ls []) := by
  refine lv_aload_n hx hb zd_L_law_186 rfl (lv_at hl 2 rfl) ?_
  refine lv_aload_n hx hb zd_L_law_187 rfl (lv_at hl 1 rfl) ?_
  refine lv_iload_n hx hb zd_L_law_188 rfl (lv_at hl 0 rfl) ?_
  refine lv_iconst (v := 1) hx hb zd_L_law_189 (by decide) ?_
  refine lv_iadd hx hb zd_L_law_190 ?_
  refine zi_top (y := nI (i + 1)) (nI_add i 1) ?_
  refine zi_sld (i := (i + 1)) hx hb hX hbl (Nat.not_le_of_lt hbl) hS (by omega) hL zd_L_law_191 ?_
  refine lv_aload_n hx hb zd_L_law_192 rfl (lv_at hl 1 rfl) ?_
  refine lv_iload_n hx hb zd_L_law_193 rfl (lv_at hl 0 rfl) ?_
  refine lv_iconst (v := 2) hx hb zd_L_law_194 (by decide) ?_
  refine lv_iadd hx hb zd_L_law_195 ?_
  refine zi_top (y := nI (i + 2)) (nI_add i 2) ?_
  refine zi_sld (i := (i + 2)) hx hb hX hbl (Nat.not_le_of_lt hbl) hS (by omega) hL zd_L_law_196 ?_
  refine lv_aload_n hx hb zd_L_law_197 rfl (lv_at hl 1 rfl) ?_
  refine lv_iload_n hx hb zd_L_law_198 rfl (lv_at hl 0 rfl) ?_
  refine lv_iconst (v := 3) hx hb zd_L_law_199 (by decide) ?_
  refine lv_iadd hx hb zd_L_law_200 ?_
  refine zi_top (y := nI (i + 3)) (nI_add i 3) ?_
  refine zi_sld (i := (i + 3)) hx hb hX hbl (Nat.not_le_of_lt hbl) hS (by omega) hL zd_L_law_201 ?_
  refine zc_wV (rest := []) (wr := zs_wM cI cZ d v) [.int (xs (i + 1)), .int (xs (i + 2)), .int (xs (i + 3))] hx hb hml hown hz (zc_X_appendRow l dC dI cI cZ a u H.size (zp_ok1 hR) (xs (i + 1)) (xs (i + 2)) (xs (i + 3))) zf_X_appendRow rfl rfl zq_101 zq_85 zq_86 ⟨Nat.le_of_ble_eq_true rfl, Nat.le_of_ble_eq_true rfl⟩ hk hP hD hS (fun _ h => h) [0, 1, 2, 3, 4, 5, 6, 7, 8, 9, 10, 11, 12] [13, 14, 15, 16, 17, 18, 19, 20, 21, 22, 23] rfl rfl (by decide) (by decide) (by decide) 0 0 rfl rfl rfl rfl hl.1 rfl (Nat.le_of_ble_eq_true rfl) zd_L_law_202 hf (fun r0 u0 H locs er0 hP hD hS => ?_)
  obtain rfl : r0 = (zs_appendRow u (xs (i + 1)) (xs (i + 2)) (xs (i + 3))).1 := congrArg Prod.fst er0
  obtain rfl : u0 = (zs_appendRow u (xs (i + 1)) (xs (i + 2)) (xs (i + 3))).2 := congrArg Prod.snd er0
  refine lv_aload_n hx hb zd_L_law_205 rfl (lv_at hl 3 rfl) ?_
  refine lv_aload_n hx hb zd_L_law_206 rfl (lv_at hl 1 rfl) ?_
  refine lv_iload_n hx hb zd_L_law_207 rfl (lv_at hl 0 rfl) ?_
  refine lv_iconst (v := 1) hx hb zd_L_law_208 (by decide) ?_
  refine lv_iadd hx hb zd_L_law_209 ?_
  refine zi_top (y := nI (i + 1)) (nI_add i 1) ?_
  refine zi_sld (i := (i + 1)) hx hb hX hbl (Nat.not_le_of_lt hbl) hS (by omega) hL zd_L_law_210 ?_
  refine lv_aload_n hx hb zd_L_law_211 rfl (lv_at hl 1 rfl) ?_
  refine lv_iload_n hx hb zd_L_law_212 rfl (lv_at hl 0 rfl) ?_
  refine lv_iconst (v := 2) hx hb zd_L_law_213 (by decide) ?_
  refine lv_iadd hx hb zd_L_law_214 ?_
  refine zi_top (y := nI (i + 2)) (nI_add i 2) ?_
  refine zi_sld (i := (i + 2)) hx hb hX hbl (Nat.not_le_of_lt hbl) hS (by omega) hL zd_L_law_215 ?_
  refine lv_aload_n hx hb zd_L_law_216 rfl (lv_at hl 1 rfl) ?_
  refine lv_iload_n hx hb zd_L_law_217 rfl (lv_at hl 0 rfl) ?_
  refine lv_iconst (v := 3) hx hb zd_L_law_218 (by decide) ?_
  refine lv_iadd hx hb zd_L_law_219 ?_
  refine zi_top (y := nI (i + 3)) (nI_add i 3) ?_
  refine zi_sld (i := (i + 3)) hx hb hX hbl (Nat.not_le_of_lt hbl) hS (by omega) hL zd_L_law_220 ?_
  refine zc_wV (rest := [.int ((zs_appendRow u (xs (i + 1)) (xs (i + 2)) (xs (i + 3))).1)]) (wr := zs_wX cI cZ a (zs_appendRow u (xs (i + 1)) (xs (i + 2)) (xs (i + 3))).2) [.int (xs (i + 1)), .int (xs (i + 2)), .int (xs (i + 3))] hx hb hml hown hz (zc_M_appendRow l dC dI cI cZ d v H.size (zp_ok2 hR) (xs (i + 1)) (xs (i + 2)) (xs (i + 3))) zf_M_appendRow rfl rfl zq_229 zq_223 zq_224 ⟨Nat.le_of_ble_eq_true rfl, Nat.le_of_ble_eq_true rfl⟩ hk hP hD hS (fun _ h => h) [0, 1, 2, 3, 4, 5, 6, 7, 8, 9, 10] [11, 12, 13, 14, 15, 16, 17, 18, 19, 20, 21, 22, 23] rfl rfl (by decide) (by decide) (by decide) 0 2 rfl rfl rfl rfl hl.1 rfl (Nat.le_of_ble_eq_true rfl) zd_L_law_221 hf (fun r1 u1 H locs er1 hP hD hS => ?_)
  obtain rfl : r1 = (zm_appendRow v (xs (i + 1)) (xs (i + 2)) (xs (i + 3))).1 := congrArg Prod.fst er1
  obtain rfl : u1 = (zm_appendRow v (xs (i + 1)) (xs (i + 2)) (xs (i + 3))).2 := congrArg Prod.snd er1
  refine lv_icmp_eq (tgt := 550) hx hb zd_L_law_224 rfl (fun _ => ?_) (fun h1 => ?_)
  · exact kk _ _ H locs (zp_appendRow hR (xs (i + 1)) (xs (i + 2)) (xs (i + 3))).2 hP hD hS
  · exact absurd (zp_appendRow hR (xs (i + 1)) (xs (i + 2)) (xs (i + 3))).1 h1
set_option maxHeartbeats 4000000 in
set_option maxRecDepth 100000 in
theorem zl_3 {p : Program} {e : Env} {s : State} {m : MethodId} {below : List Frame} {meth : Method} {c : Code} {H : Heap} {locs : List Loc} {ls : Array Slot} {cells slots : Nat} {Q : State → Prop} (l : Launch) {b L i : Nat} {xs : Nat → Int32} {dC : Nat → ClassId} {dI : Nat → Nat → Nat} {cI cZ : ClassId} {a d : Nat → Nat} {u v : zs_X} (hx : p.tables.exec = Jvm.exec) (hb : c.code = code) (hml : c.maxLocals = 4) (hown : s.vm.findClass "ZoneShelfLaw" = some m.cls) (hz : ∀ w ∈ zs_w, w.before #[Value.ref b] s = true) (hk : zs_k dC dI cI cZ s) (hX : va_X b L xs s s.heap) (hbl : b < s.heap.size) (hl : lv_has ls 4 [(3, .int (nI i)), (0, .ref b), (1, .ref (a 0)), (2, .ref (d 0))]) (hi : i + 4 ≤ L) (hL : L ≤ 2048) (hP : va_P (dC, dI) zs_cl (zs_wX cI cZ a u ++ zs_wM cI cZ d v) H) (hD : va_D (fun q => s.heap.size ≤ q) (zs_wX cI cZ a u ++ zs_wM cI cZ d v)) (hS : va_S (fun q => s.heap.size ≤ q) s.heap H locs) (hR : zp_R u v) (hf : cells ≤ room_1.cells ∧ slots ≤ room_1.slots)
    (kk : ∀ (u v : zs_X) (H : Heap) (locs : List Loc), zp_R u v → va_P (dC, dI) zs_cl (zs_wX cI cZ a u ++ zs_wM cI cZ d v) H → va_D (fun q => s.heap.size ≤ q) (zs_wX cI cZ a u ++ zs_wM cI cZ d v) → va_S (fun q => s.heap.size ≤ q) s.heap H locs → W p l e room_1 s m #[Value.ref b] below meth c H locs cells slots Q (F0 m 550 ls [])) : W p l e room_1 s m #[Value.ref b] below meth c H locs cells slots Q (F0 m 229 ls []) := by
  refine lv_aload_n hx hb zd_L_law_229 rfl (lv_at hl 2 rfl) ?_
  refine lv_aload_n hx hb zd_L_law_230 rfl (lv_at hl 1 rfl) ?_
  refine lv_iload_n hx hb zd_L_law_231 rfl (lv_at hl 0 rfl) ?_
  refine lv_iconst (v := 1) hx hb zd_L_law_232 (by decide) ?_
  refine lv_iadd hx hb zd_L_law_233 ?_
  refine zi_top (y := nI (i + 1)) (nI_add i 1) ?_
  refine zi_sld (i := (i + 1)) hx hb hX hbl (Nat.not_le_of_lt hbl) hS (by omega) hL zd_L_law_234 ?_
  refine lv_aload_n hx hb zd_L_law_235 rfl (lv_at hl 1 rfl) ?_
  refine lv_iload_n hx hb zd_L_law_236 rfl (lv_at hl 0 rfl) ?_
  refine lv_iconst (v := 2) hx hb zd_L_law_237 (by decide) ?_
  refine lv_iadd hx hb zd_L_law_238 ?_
  refine zi_top (y := nI (i + 2)) (nI_add i 2) ?_
  refine zi_sld (i := (i + 2)) hx hb hX hbl (Nat.not_le_of_lt hbl) hS (by omega) hL zd_L_law_239 ?_
  refine lv_if_eq (tgt := 247) hx hb zd_L_law_240 rfl (fun h1 => ?_) (fun h1 => ?_)
  · refine lv_iconst (v := 0) hx hb zd_L_law_247 (by decide) ?_
    refine zc_wV (rest := []) (wr := zs_wM cI cZ d v) [.int (xs (i + 1)), .int 0] hx hb hml hown hz (zc_X_open l dC dI cI cZ a u H.size  (xs (i + 1)) 0) zf_X_open rfl rfl zq_102 zq_103 zq_104 ⟨Nat.le_of_ble_eq_true rfl, Nat.le_of_ble_eq_true rfl⟩ hk hP hD hS (fun _ h => h) [0, 1, 2, 3, 4, 5, 6, 7, 8, 9, 10, 11, 12] [13, 14, 15, 16, 17, 18, 19, 20, 21, 22, 23] rfl rfl (by decide) (by decide) (by decide) 0 0 rfl rfl rfl rfl hl.1 rfl (Nat.le_of_ble_eq_true rfl) zd_L_law_248 hf (fun r0 u0 H locs er0 hP hD hS => ?_)
    obtain rfl : r0 = (zs_open u (xs (i + 1)) 0).1 := congrArg Prod.fst er0
    obtain rfl : u0 = (zs_open u (xs (i + 1)) 0).2 := congrArg Prod.snd er0
    refine lv_aload_n hx hb zd_L_law_251 rfl (lv_at hl 3 rfl) ?_
    refine lv_aload_n hx hb zd_L_law_252 rfl (lv_at hl 1 rfl) ?_
    refine lv_iload_n hx hb zd_L_law_253 rfl (lv_at hl 0 rfl) ?_
    refine lv_iconst (v := 1) hx hb zd_L_law_254 (by decide) ?_
    refine lv_iadd hx hb zd_L_law_255 ?_
    refine zi_top (y := nI (i + 1)) (nI_add i 1) ?_
    refine zi_sld (i := (i + 1)) hx hb hX hbl (Nat.not_le_of_lt hbl) hS (by omega) hL zd_L_law_256 ?_
    refine lv_aload_n hx hb zd_L_law_257 rfl (lv_at hl 1 rfl) ?_
    refine lv_iload_n hx hb zd_L_law_258 rfl (lv_at hl 0 rfl) ?_
    refine lv_iconst (v := 2) hx hb zd_L_law_259 (by decide) ?_
    refine lv_iadd hx hb zd_L_law_260 ?_
    refine zi_top (y := nI (i + 2)) (nI_add i 2) ?_
    refine zi_sld (i := (i + 2)) hx hb hX hbl (Nat.not_le_of_lt hbl) hS (by omega) hL zd_L_law_261 ?_
    refine lv_if_eq (tgt := 269) hx hb zd_L_law_262 rfl (fun h2 => ?_) (fun h2 => ?_)
    · refine lv_iconst (v := 0) hx hb zd_L_law_269 (by decide) ?_
      refine zc_wV (rest := [.int ((zs_open u (xs (i + 1)) 0).1)]) (wr := zs_wX cI cZ a (zs_open u (xs (i + 1)) 0).2) [.int (xs (i + 1)), .int 0] hx hb hml hown hz (zc_M_open l dC dI cI cZ d v H.size  (xs (i + 1)) 0) zf_M_open rfl rfl zq_230 zq_231 zq_232 ⟨Nat.le_of_ble_eq_true rfl, Nat.le_of_ble_eq_true rfl⟩ hk hP hD hS (fun _ h => h) [0, 1, 2, 3, 4, 5, 6, 7, 8, 9, 10] [11, 12, 13, 14, 15, 16, 17, 18, 19, 20, 21, 22, 23] rfl rfl (by decide) (by decide) (by decide) 0 2 rfl rfl rfl rfl hl.1 rfl (Nat.le_of_ble_eq_true rfl) zd_L_law_270 hf (fun r1 u1 H locs er1 hP hD hS => ?_)
      obtain rfl : r1 = (zm_open v (xs (i + 1)) 0).1 := congrArg Prod.fst er1
      obtain rfl : u1 = (zm_open v (xs (i + 1)) 0).2 := congrArg Prod.snd er1
      refine lv_icmp_eq (tgt := 550) hx hb zd_L_law_273 rfl (fun _ => ?_) (fun h3 => ?_)
      · exact kk _ _ H locs (zp_open hR (xs (i + 1)) 0).2 hP hD hS
      · exact absurd (zp_open hR (xs (i + 1)) 0).1 h3
    · exact absurd h1 h2
  · refine lv_iconst (v := 1) hx hb zd_L_law_243 (by decide) ?_
    refine lv_goto (tgt := 248) hx hb zd_L_law_244 rfl ?_
    refine zc_wV (rest := []) (wr := zs_wM cI cZ d v) [.int (xs (i + 1)), .int 1] hx hb hml hown hz (zc_X_open l dC dI cI cZ a u H.size  (xs (i + 1)) 1) zf_X_open rfl rfl zq_102 zq_103 zq_104 ⟨Nat.le_of_ble_eq_true rfl, Nat.le_of_ble_eq_true rfl⟩ hk hP hD hS (fun _ h => h) [0, 1, 2, 3, 4, 5, 6, 7, 8, 9, 10, 11, 12] [13, 14, 15, 16, 17, 18, 19, 20, 21, 22, 23] rfl rfl (by decide) (by decide) (by decide) 0 0 rfl rfl rfl rfl hl.1 rfl (Nat.le_of_ble_eq_true rfl) zd_L_law_248 hf (fun r0 u0 H locs er0 hP hD hS => ?_)
    obtain rfl : r0 = (zs_open u (xs (i + 1)) 1).1 := congrArg Prod.fst er0
    obtain rfl : u0 = (zs_open u (xs (i + 1)) 1).2 := congrArg Prod.snd er0
    refine lv_aload_n hx hb zd_L_law_251 rfl (lv_at hl 3 rfl) ?_
    refine lv_aload_n hx hb zd_L_law_252 rfl (lv_at hl 1 rfl) ?_
    refine lv_iload_n hx hb zd_L_law_253 rfl (lv_at hl 0 rfl) ?_
    refine lv_iconst (v := 1) hx hb zd_L_law_254 (by decide) ?_
    refine lv_iadd hx hb zd_L_law_255 ?_
    refine zi_top (y := nI (i + 1)) (nI_add i 1) ?_
    refine zi_sld (i := (i + 1)) hx hb hX hbl (Nat.not_le_of_lt hbl) hS (by omega) hL zd_L_law_256 ?_
    refine lv_aload_n hx hb zd_L_law_257 rfl (lv_at hl 1 rfl) ?_
    refine lv_iload_n hx hb zd_L_law_258 rfl (lv_at hl 0 rfl) ?_
    refine lv_iconst (v := 2) hx hb zd_L_law_259 (by decide) ?_
    refine lv_iadd hx hb zd_L_law_260 ?_
    refine zi_top (y := nI (i + 2)) (nI_add i 2) ?_
    refine zi_sld (i := (i + 2)) hx hb hX hbl (Nat.not_le_of_lt hbl) hS (by omega) hL zd_L_law_261 ?_
    refine lv_if_eq (tgt := 269) hx hb zd_L_law_262 rfl (fun h2 => ?_) (fun h2 => ?_)
    · exact absurd h2 h1
    · refine lv_iconst (v := 1) hx hb zd_L_law_265 (by decide) ?_
      refine lv_goto (tgt := 270) hx hb zd_L_law_266 rfl ?_
      refine zc_wV (rest := [.int ((zs_open u (xs (i + 1)) 1).1)]) (wr := zs_wX cI cZ a (zs_open u (xs (i + 1)) 1).2) [.int (xs (i + 1)), .int 1] hx hb hml hown hz (zc_M_open l dC dI cI cZ d v H.size  (xs (i + 1)) 1) zf_M_open rfl rfl zq_230 zq_231 zq_232 ⟨Nat.le_of_ble_eq_true rfl, Nat.le_of_ble_eq_true rfl⟩ hk hP hD hS (fun _ h => h) [0, 1, 2, 3, 4, 5, 6, 7, 8, 9, 10] [11, 12, 13, 14, 15, 16, 17, 18, 19, 20, 21, 22, 23] rfl rfl (by decide) (by decide) (by decide) 0 2 rfl rfl rfl rfl hl.1 rfl (Nat.le_of_ble_eq_true rfl) zd_L_law_270 hf (fun r1 u1 H locs er1 hP hD hS => ?_)
      obtain rfl : r1 = (zm_open v (xs (i + 1)) 1).1 := congrArg Prod.fst er1
      obtain rfl : u1 = (zm_open v (xs (i + 1)) 1).2 := congrArg Prod.snd er1
      refine lv_icmp_eq (tgt := 550) hx hb zd_L_law_273 rfl (fun _ => ?_) (fun h3 => ?_)
      · exact kk _ _ H locs (zp_open hR (xs (i + 1)) 1).2 hP hD hS
      · exact absurd (zp_open hR (xs (i + 1)) 1).1 h3
set_option maxHeartbeats 4000000 in
set_option maxRecDepth 100000 in
theorem zl_4 {p : Program} {e : Env} {s : State} {m : MethodId} {below : List Frame} {meth : Method} {c : Code} {H : Heap} {locs : List Loc} {ls : Array Slot} {cells slots : Nat} {Q : State → Prop} (l : Launch) {b L i : Nat} {xs : Nat → Int32} {dC : Nat → ClassId} {dI : Nat → Nat → Nat} {cI cZ : ClassId} {a d : Nat → Nat} {u v : zs_X} (hx : p.tables.exec = Jvm.exec) (hb : c.code = code) (hml : c.maxLocals = 4) (hown : s.vm.findClass "ZoneShelfLaw" = some m.cls) (hz : ∀ w ∈ zs_w, w.before #[Value.ref b] s = true) (hk : zs_k dC dI cI cZ s) (hX : va_X b L xs s s.heap) (hbl : b < s.heap.size) (hl : lv_has ls 4 [(3, .int (nI i)), (0, .ref b), (1, .ref (a 0)), (2, .ref (d 0))]) (hi : i + 4 ≤ L) (hL : L ≤ 2048) (hP : va_P (dC, dI) zs_cl (zs_wX cI cZ a u ++ zs_wM cI cZ d v) H) (hD : va_D (fun q => s.heap.size ≤ q) (zs_wX cI cZ a u ++ zs_wM cI cZ d v)) (hS : va_S (fun q => s.heap.size ≤ q) s.heap H locs) (hR : zp_R u v) (hf : cells ≤ room_1.cells ∧ slots ≤ room_1.slots)
    (kk : ∀ (u v : zs_X) (H : Heap) (locs : List Loc), zp_R u v → va_P (dC, dI) zs_cl (zs_wX cI cZ a u ++ zs_wM cI cZ d v) H → va_D (fun q => s.heap.size ≤ q) (zs_wX cI cZ a u ++ zs_wM cI cZ d v) → va_S (fun q => s.heap.size ≤ q) s.heap H locs → W p l e room_1 s m #[Value.ref b] below meth c H locs cells slots Q (F0 m 550 ls [])) : W p l e room_1 s m #[Value.ref b] below meth c H locs cells slots Q (F0 m 278 ls []) := by
  refine lv_aload_n hx hb zd_L_law_278 rfl (lv_at hl 2 rfl) ?_
  refine lv_aload_n hx hb zd_L_law_279 rfl (lv_at hl 1 rfl) ?_
  refine lv_iload_n hx hb zd_L_law_280 rfl (lv_at hl 0 rfl) ?_
  refine lv_iconst (v := 1) hx hb zd_L_law_281 (by decide) ?_
  refine lv_iadd hx hb zd_L_law_282 ?_
  refine zi_top (y := nI (i + 1)) (nI_add i 1) ?_
  refine zi_sld (i := (i + 1)) hx hb hX hbl (Nat.not_le_of_lt hbl) hS (by omega) hL zd_L_law_283 ?_
  refine zc_wV (rest := []) (wr := zs_wM cI cZ d v) [.int (xs (i + 1))] hx hb hml hown hz (zc_X_remove l dC dI cI cZ a u H.size  (xs (i + 1))) zf_X_remove rfl rfl zq_106 zq_107 zq_108 ⟨Nat.le_of_ble_eq_true rfl, Nat.le_of_ble_eq_true rfl⟩ hk hP hD hS (fun _ h => h) [0, 1, 2, 3, 4, 5, 6, 7, 8, 9, 10, 11, 12] [13, 14, 15, 16, 17, 18, 19, 20, 21, 22, 23] rfl rfl (by decide) (by decide) (by decide) 0 0 rfl rfl rfl rfl hl.1 rfl (Nat.le_of_ble_eq_true rfl) zd_L_law_284 hf (fun r0 u0 H locs er0 hP hD hS => ?_)
  obtain rfl : r0 = (zs_remove u (xs (i + 1))).1 := congrArg Prod.fst er0
  obtain rfl : u0 = (zs_remove u (xs (i + 1))).2 := congrArg Prod.snd er0
  refine lv_aload_n hx hb zd_L_law_287 rfl (lv_at hl 3 rfl) ?_
  refine lv_aload_n hx hb zd_L_law_288 rfl (lv_at hl 1 rfl) ?_
  refine lv_iload_n hx hb zd_L_law_289 rfl (lv_at hl 0 rfl) ?_
  refine lv_iconst (v := 1) hx hb zd_L_law_290 (by decide) ?_
  refine lv_iadd hx hb zd_L_law_291 ?_
  refine zi_top (y := nI (i + 1)) (nI_add i 1) ?_
  refine zi_sld (i := (i + 1)) hx hb hX hbl (Nat.not_le_of_lt hbl) hS (by omega) hL zd_L_law_292 ?_
  refine zc_wV (rest := [.int ((zs_remove u (xs (i + 1))).1)]) (wr := zs_wX cI cZ a (zs_remove u (xs (i + 1))).2) [.int (xs (i + 1))] hx hb hml hown hz (zc_M_remove l dC dI cI cZ d v H.size  (xs (i + 1))) zf_M_remove rfl rfl zq_234 zq_235 zq_236 ⟨Nat.le_of_ble_eq_true rfl, Nat.le_of_ble_eq_true rfl⟩ hk hP hD hS (fun _ h => h) [0, 1, 2, 3, 4, 5, 6, 7, 8, 9, 10] [11, 12, 13, 14, 15, 16, 17, 18, 19, 20, 21, 22, 23] rfl rfl (by decide) (by decide) (by decide) 0 2 rfl rfl rfl rfl hl.1 rfl (Nat.le_of_ble_eq_true rfl) zd_L_law_293 hf (fun r1 u1 H locs er1 hP hD hS => ?_)
  obtain rfl : r1 = (zm_remove v (xs (i + 1))).1 := congrArg Prod.fst er1
  obtain rfl : u1 = (zm_remove v (xs (i + 1))).2 := congrArg Prod.snd er1
  refine lv_icmp_eq (tgt := 550) hx hb zd_L_law_296 rfl (fun _ => ?_) (fun h1 => ?_)
  · exact kk _ _ H locs (zp_remove hR (xs (i + 1))).2 hP hD hS
  · exact absurd (zp_remove hR (xs (i + 1))).1 h1
set_option maxHeartbeats 4000000 in
set_option maxRecDepth 100000 in
theorem zl_5 {p : Program} {e : Env} {s : State} {m : MethodId} {below : List Frame} {meth : Method} {c : Code} {H : Heap} {locs : List Loc} {ls : Array Slot} {cells slots : Nat} {Q : State → Prop} (l : Launch) {b L i : Nat} {xs : Nat → Int32} {dC : Nat → ClassId} {dI : Nat → Nat → Nat} {cI cZ : ClassId} {a d : Nat → Nat} {u v : zs_X} (hx : p.tables.exec = Jvm.exec) (hb : c.code = code) (hml : c.maxLocals = 4) (hown : s.vm.findClass "ZoneShelfLaw" = some m.cls) (hz : ∀ w ∈ zs_w, w.before #[Value.ref b] s = true) (hk : zs_k dC dI cI cZ s) (hX : va_X b L xs s s.heap) (hbl : b < s.heap.size) (hl : lv_has ls 4 [(3, .int (nI i)), (0, .ref b), (1, .ref (a 0)), (2, .ref (d 0))]) (hi : i + 4 ≤ L) (hL : L ≤ 2048) (hP : va_P (dC, dI) zs_cl (zs_wX cI cZ a u ++ zs_wM cI cZ d v) H) (hD : va_D (fun q => s.heap.size ≤ q) (zs_wX cI cZ a u ++ zs_wM cI cZ d v)) (hS : va_S (fun q => s.heap.size ≤ q) s.heap H locs) (hR : zp_R u v) (hf : cells ≤ room_1.cells ∧ slots ≤ room_1.slots)
    (kk : ∀ (u v : zs_X) (H : Heap) (locs : List Loc), zp_R u v → va_P (dC, dI) zs_cl (zs_wX cI cZ a u ++ zs_wM cI cZ d v) H → va_D (fun q => s.heap.size ≤ q) (zs_wX cI cZ a u ++ zs_wM cI cZ d v) → va_S (fun q => s.heap.size ≤ q) s.heap H locs → W p l e room_1 s m #[Value.ref b] below meth c H locs cells slots Q (F0 m 550 ls [])) : W p l e room_1 s m #[Value.ref b] below meth c H locs cells slots Q (F0 m 301 ls []) := by
  refine lv_aload_n hx hb zd_L_law_301 rfl (lv_at hl 2 rfl) ?_
  refine lv_aload_n hx hb zd_L_law_302 rfl (lv_at hl 1 rfl) ?_
  refine lv_iload_n hx hb zd_L_law_303 rfl (lv_at hl 0 rfl) ?_
  refine lv_iconst (v := 1) hx hb zd_L_law_304 (by decide) ?_
  refine lv_iadd hx hb zd_L_law_305 ?_
  refine zi_top (y := nI (i + 1)) (nI_add i 1) ?_
  refine zi_sld (i := (i + 1)) hx hb hX hbl (Nat.not_le_of_lt hbl) hS (by omega) hL zd_L_law_306 ?_
  refine lv_aload_n hx hb zd_L_law_307 rfl (lv_at hl 1 rfl) ?_
  refine lv_iload_n hx hb zd_L_law_308 rfl (lv_at hl 0 rfl) ?_
  refine lv_iconst (v := 2) hx hb zd_L_law_309 (by decide) ?_
  refine lv_iadd hx hb zd_L_law_310 ?_
  refine zi_top (y := nI (i + 2)) (nI_add i 2) ?_
  refine zi_sld (i := (i + 2)) hx hb hX hbl (Nat.not_le_of_lt hbl) hS (by omega) hL zd_L_law_311 ?_
  refine zc_wV (rest := []) (wr := zs_wM cI cZ d v) [.int (xs (i + 1)), .int (xs (i + 2))] hx hb hml hown hz (zc_X_rename l dC dI cI cZ a u H.size  (xs (i + 1)) (xs (i + 2))) zf_X_rename rfl rfl zq_112 zq_113 zq_114 ⟨Nat.le_of_ble_eq_true rfl, Nat.le_of_ble_eq_true rfl⟩ hk hP hD hS (fun _ h => h) [0, 1, 2, 3, 4, 5, 6, 7, 8, 9, 10, 11, 12] [13, 14, 15, 16, 17, 18, 19, 20, 21, 22, 23] rfl rfl (by decide) (by decide) (by decide) 0 0 rfl rfl rfl rfl hl.1 rfl (Nat.le_of_ble_eq_true rfl) zd_L_law_312 hf (fun r0 u0 H locs er0 hP hD hS => ?_)
  obtain rfl : r0 = (zs_rename u (xs (i + 1)) (xs (i + 2))).1 := congrArg Prod.fst er0
  obtain rfl : u0 = (zs_rename u (xs (i + 1)) (xs (i + 2))).2 := congrArg Prod.snd er0
  refine lv_aload_n hx hb zd_L_law_315 rfl (lv_at hl 3 rfl) ?_
  refine lv_aload_n hx hb zd_L_law_316 rfl (lv_at hl 1 rfl) ?_
  refine lv_iload_n hx hb zd_L_law_317 rfl (lv_at hl 0 rfl) ?_
  refine lv_iconst (v := 1) hx hb zd_L_law_318 (by decide) ?_
  refine lv_iadd hx hb zd_L_law_319 ?_
  refine zi_top (y := nI (i + 1)) (nI_add i 1) ?_
  refine zi_sld (i := (i + 1)) hx hb hX hbl (Nat.not_le_of_lt hbl) hS (by omega) hL zd_L_law_320 ?_
  refine lv_aload_n hx hb zd_L_law_321 rfl (lv_at hl 1 rfl) ?_
  refine lv_iload_n hx hb zd_L_law_322 rfl (lv_at hl 0 rfl) ?_
  refine lv_iconst (v := 2) hx hb zd_L_law_323 (by decide) ?_
  refine lv_iadd hx hb zd_L_law_324 ?_
  refine zi_top (y := nI (i + 2)) (nI_add i 2) ?_
  refine zi_sld (i := (i + 2)) hx hb hX hbl (Nat.not_le_of_lt hbl) hS (by omega) hL zd_L_law_325 ?_
  refine zc_wV (rest := [.int ((zs_rename u (xs (i + 1)) (xs (i + 2))).1)]) (wr := zs_wX cI cZ a (zs_rename u (xs (i + 1)) (xs (i + 2))).2) [.int (xs (i + 1)), .int (xs (i + 2))] hx hb hml hown hz (zc_M_rename l dC dI cI cZ d v H.size  (xs (i + 1)) (xs (i + 2))) zf_M_rename rfl rfl zq_238 zq_239 zq_240 ⟨Nat.le_of_ble_eq_true rfl, Nat.le_of_ble_eq_true rfl⟩ hk hP hD hS (fun _ h => h) [0, 1, 2, 3, 4, 5, 6, 7, 8, 9, 10] [11, 12, 13, 14, 15, 16, 17, 18, 19, 20, 21, 22, 23] rfl rfl (by decide) (by decide) (by decide) 0 2 rfl rfl rfl rfl hl.1 rfl (Nat.le_of_ble_eq_true rfl) zd_L_law_326 hf (fun r1 u1 H locs er1 hP hD hS => ?_)
  obtain rfl : r1 = (zm_rename v (xs (i + 1)) (xs (i + 2))).1 := congrArg Prod.fst er1
  obtain rfl : u1 = (zm_rename v (xs (i + 1)) (xs (i + 2))).2 := congrArg Prod.snd er1
  refine lv_icmp_eq (tgt := 550) hx hb zd_L_law_329 rfl (fun _ => ?_) (fun h1 => ?_)
  · exact kk _ _ H locs (zp_rename hR (xs (i + 1)) (xs (i + 2))).2 hP hD hS
  · exact absurd (zp_rename hR (xs (i + 1)) (xs (i + 2))).1 h1
set_option maxHeartbeats 4000000 in
set_option maxRecDepth 100000 in
theorem zl_6 {p : Program} {e : Env} {s : State} {m : MethodId} {below : List Frame} {meth : Method} {c : Code} {H : Heap} {locs : List Loc} {ls : Array Slot} {cells slots : Nat} {Q : State → Prop} (l : Launch) {b L i : Nat} {xs : Nat → Int32} {dC : Nat → ClassId} {dI : Nat → Nat → Nat} {cI cZ : ClassId} {a d : Nat → Nat} {u v : zs_X} (hx : p.tables.exec = Jvm.exec) (hb : c.code = code) (hml : c.maxLocals = 4) (hown : s.vm.findClass "ZoneShelfLaw" = some m.cls) (hz : ∀ w ∈ zs_w, w.before #[Value.ref b] s = true) (hk : zs_k dC dI cI cZ s) (hX : va_X b L xs s s.heap) (hbl : b < s.heap.size) (hl : lv_has ls 4 [(3, .int (nI i)), (0, .ref b), (1, .ref (a 0)), (2, .ref (d 0))]) (hi : i + 4 ≤ L) (hL : L ≤ 2048) (hP : va_P (dC, dI) zs_cl (zs_wX cI cZ a u ++ zs_wM cI cZ d v) H) (hD : va_D (fun q => s.heap.size ≤ q) (zs_wX cI cZ a u ++ zs_wM cI cZ d v)) (hS : va_S (fun q => s.heap.size ≤ q) s.heap H locs) (hR : zp_R u v) (hf : cells ≤ room_1.cells ∧ slots ≤ room_1.slots)
    (kk : ∀ (u v : zs_X) (H : Heap) (locs : List Loc), zp_R u v → va_P (dC, dI) zs_cl (zs_wX cI cZ a u ++ zs_wM cI cZ d v) H → va_D (fun q => s.heap.size ≤ q) (zs_wX cI cZ a u ++ zs_wM cI cZ d v) → va_S (fun q => s.heap.size ≤ q) s.heap H locs → W p l e room_1 s m #[Value.ref b] below meth c H locs cells slots Q (F0 m 550 ls [])) : W p l e room_1 s m #[Value.ref b] below meth c H locs cells slots Q (F0 m 334 ls []) := by
  refine lv_aload_n hx hb zd_L_law_334 rfl (lv_at hl 2 rfl) ?_
  refine zc_wV (rest := []) (wr := zs_wM cI cZ d v) [] hx hb hml hown hz (zc_X_sync l dC dI cI cZ a u H.size  ) zf_X_sync rfl rfl zq_116 zq_117 zq_118 ⟨Nat.le_of_ble_eq_true rfl, Nat.le_of_ble_eq_true rfl⟩ hk hP hD hS (fun _ h => h) [0, 1, 2, 3, 4, 5, 6, 7, 8, 9, 10, 11, 12] [13, 14, 15, 16, 17, 18, 19, 20, 21, 22, 23] rfl rfl (by decide) (by decide) (by decide) 0 0 rfl rfl rfl rfl hl.1 rfl (Nat.le_of_ble_eq_true rfl) zd_L_law_335 hf (fun r0 u0 H locs er0 hP hD hS => ?_)
  obtain rfl : r0 = (zs_sync u).1 := congrArg Prod.fst er0
  obtain rfl : u0 = (zs_sync u).2 := congrArg Prod.snd er0
  refine lv_aload_n hx hb zd_L_law_338 rfl (lv_at hl 3 rfl) ?_
  refine zc_wV (rest := [.int ((zs_sync u).1)]) (wr := zs_wX cI cZ a (zs_sync u ).2) [] hx hb hml hown hz (zc_M_sync l dC dI cI cZ d v H.size  ) zf_M_sync rfl rfl zq_242 zq_243 zq_244 ⟨Nat.le_of_ble_eq_true rfl, Nat.le_of_ble_eq_true rfl⟩ hk hP hD hS (fun _ h => h) [0, 1, 2, 3, 4, 5, 6, 7, 8, 9, 10] [11, 12, 13, 14, 15, 16, 17, 18, 19, 20, 21, 22, 23] rfl rfl (by decide) (by decide) (by decide) 0 2 rfl rfl rfl rfl hl.1 rfl (Nat.le_of_ble_eq_true rfl) zd_L_law_339 hf (fun r1 u1 H locs er1 hP hD hS => ?_)
  obtain rfl : r1 = (zm_sync v).1 := congrArg Prod.fst er1
  obtain rfl : u1 = (zm_sync v).2 := congrArg Prod.snd er1
  refine lv_icmp_eq (tgt := 550) hx hb zd_L_law_342 rfl (fun _ => ?_) (fun h1 => ?_)
  · exact kk _ _ H locs (zp_sync hR).2 hP hD hS
  · exact absurd (zp_sync hR).1 h1
set_option maxHeartbeats 4000000 in
set_option maxRecDepth 100000 in
theorem zl_7 {p : Program} {e : Env} {s : State} {m : MethodId} {below : List Frame} {meth : Method} {c : Code} {H : Heap} {locs : List Loc} {ls : Array Slot} {cells slots : Nat} {Q : State → Prop} (l : Launch) {b L i : Nat} {xs : Nat → Int32} {dC : Nat → ClassId} {dI : Nat → Nat → Nat} {cI cZ : ClassId} {a d : Nat → Nat} {u v : zs_X} (hx : p.tables.exec = Jvm.exec) (hb : c.code = code) (hml : c.maxLocals = 4) (hown : s.vm.findClass "ZoneShelfLaw" = some m.cls) (hz : ∀ w ∈ zs_w, w.before #[Value.ref b] s = true) (hk : zs_k dC dI cI cZ s) (hX : va_X b L xs s s.heap) (hbl : b < s.heap.size) (hl : lv_has ls 4 [(3, .int (nI i)), (0, .ref b), (1, .ref (a 0)), (2, .ref (d 0))]) (hi : i + 4 ≤ L) (hL : L ≤ 2048) (hP : va_P (dC, dI) zs_cl (zs_wX cI cZ a u ++ zs_wM cI cZ d v) H) (hD : va_D (fun q => s.heap.size ≤ q) (zs_wX cI cZ a u ++ zs_wM cI cZ d v)) (hS : va_S (fun q => s.heap.size ≤ q) s.heap H locs) (hR : zp_R u v) (hf : cells ≤ room_1.cells ∧ slots ≤ room_1.slots)
    (kk : ∀ (u v : zs_X) (H : Heap) (locs : List Loc), zp_R u v → va_P (dC, dI) zs_cl (zs_wX cI cZ a u ++ zs_wM cI cZ d v) H → va_D (fun q => s.heap.size ≤ q) (zs_wX cI cZ a u ++ zs_wM cI cZ d v) → va_S (fun q => s.heap.size ≤ q) s.heap H locs → W p l e room_1 s m #[Value.ref b] below meth c H locs cells slots Q (F0 m 550 ls [])) : W p l e room_1 s m #[Value.ref b] below meth c H locs cells slots Q (F0 m 347 ls []) := by
  refine lv_aload_n hx hb zd_L_law_347 rfl (lv_at hl 2 rfl) ?_
  refine zc_wV (rest := []) (wr := zs_wM cI cZ d v) [] hx hb hml hown hz (zc_X_tear l dC dI cI cZ a u H.size  ) zf_X_tear rfl rfl zq_125 zq_126 zq_127 ⟨Nat.le_of_ble_eq_true rfl, Nat.le_of_ble_eq_true rfl⟩ hk hP hD hS (fun _ h => h) [0, 1, 2, 3, 4, 5, 6, 7, 8, 9, 10, 11, 12] [13, 14, 15, 16, 17, 18, 19, 20, 21, 22, 23] rfl rfl (by decide) (by decide) (by decide) 0 0 rfl rfl rfl rfl hl.1 rfl (Nat.le_of_ble_eq_true rfl) zd_L_law_348 hf (fun r0 u0 H locs er0 hP hD hS => ?_)
  obtain rfl : r0 = (zs_cut u).1 := congrArg Prod.fst er0
  obtain rfl : u0 = (zs_cut u).2 := congrArg Prod.snd er0
  refine lv_aload_n hx hb zd_L_law_351 rfl (lv_at hl 3 rfl) ?_
  refine zc_wV (rest := [.int ((zs_cut u).1)]) (wr := zs_wX cI cZ a (zs_cut u ).2) [] hx hb hml hown hz (zc_M_tear l dC dI cI cZ d v H.size  ) zf_M_tear rfl rfl zq_246 zq_247 zq_248 ⟨Nat.le_of_ble_eq_true rfl, Nat.le_of_ble_eq_true rfl⟩ hk hP hD hS (fun _ h => h) [0, 1, 2, 3, 4, 5, 6, 7, 8, 9, 10] [11, 12, 13, 14, 15, 16, 17, 18, 19, 20, 21, 22, 23] rfl rfl (by decide) (by decide) (by decide) 0 2 rfl rfl rfl rfl hl.1 rfl (Nat.le_of_ble_eq_true rfl) zd_L_law_352 hf (fun r1 u1 H locs er1 hP hD hS => ?_)
  obtain rfl : r1 = (zm_cut v).1 := congrArg Prod.fst er1
  obtain rfl : u1 = (zm_cut v).2 := congrArg Prod.snd er1
  refine lv_icmp_eq (tgt := 550) hx hb zd_L_law_355 rfl (fun _ => ?_) (fun h1 => ?_)
  · exact kk _ _ H locs (zp_cut hR).2 hP hD hS
  · exact absurd (zp_cut hR).1 h1
set_option maxHeartbeats 4000000 in
set_option maxRecDepth 100000 in
theorem zl_8 {p : Program} {e : Env} {s : State} {m : MethodId} {below : List Frame} {meth : Method} {c : Code} {H : Heap} {locs : List Loc} {ls : Array Slot} {cells slots : Nat} {Q : State → Prop} (l : Launch) {b L i : Nat} {xs : Nat → Int32} {dC : Nat → ClassId} {dI : Nat → Nat → Nat} {cI cZ : ClassId} {a d : Nat → Nat} {u v : zs_X} (hx : p.tables.exec = Jvm.exec) (hb : c.code = code) (hml : c.maxLocals = 4) (hown : s.vm.findClass "ZoneShelfLaw" = some m.cls) (hz : ∀ w ∈ zs_w, w.before #[Value.ref b] s = true) (hk : zs_k dC dI cI cZ s) (hX : va_X b L xs s s.heap) (hbl : b < s.heap.size) (hl : lv_has ls 4 [(3, .int (nI i)), (0, .ref b), (1, .ref (a 0)), (2, .ref (d 0))]) (hi : i + 4 ≤ L) (hL : L ≤ 2048) (hP : va_P (dC, dI) zs_cl (zs_wX cI cZ a u ++ zs_wM cI cZ d v) H) (hD : va_D (fun q => s.heap.size ≤ q) (zs_wX cI cZ a u ++ zs_wM cI cZ d v)) (hS : va_S (fun q => s.heap.size ≤ q) s.heap H locs) (hR : zp_R u v) (hf : cells ≤ room_1.cells ∧ slots ≤ room_1.slots)
    (kk : ∀ (u v : zs_X) (H : Heap) (locs : List Loc), zp_R u v → va_P (dC, dI) zs_cl (zs_wX cI cZ a u ++ zs_wM cI cZ d v) H → va_D (fun q => s.heap.size ≤ q) (zs_wX cI cZ a u ++ zs_wM cI cZ d v) → va_S (fun q => s.heap.size ≤ q) s.heap H locs → W p l e room_1 s m #[Value.ref b] below meth c H locs cells slots Q (F0 m 550 ls [])) : W p l e room_1 s m #[Value.ref b] below meth c H locs cells slots Q (F0 m 360 ls []) := by
  refine lv_aload_n hx hb zd_L_law_360 rfl (lv_at hl 2 rfl) ?_
  refine zc_wV (rest := []) (wr := zs_wM cI cZ d v) [] hx hb hml hown hz (zc_X_cut l dC dI cI cZ a u H.size  ) zf_X_cut rfl rfl zq_133 zq_130 zq_131 ⟨Nat.le_of_ble_eq_true rfl, Nat.le_of_ble_eq_true rfl⟩ hk hP hD hS (fun _ h => h) [0, 1, 2, 3, 4, 5, 6, 7, 8, 9, 10, 11, 12] [13, 14, 15, 16, 17, 18, 19, 20, 21, 22, 23] rfl rfl (by decide) (by decide) (by decide) 0 0 rfl rfl rfl rfl hl.1 rfl (Nat.le_of_ble_eq_true rfl) zd_L_law_361 hf (fun r0 u0 H locs er0 hP hD hS => ?_)
  obtain rfl : r0 = (zs_cut u).1 := congrArg Prod.fst er0
  obtain rfl : u0 = (zs_cut u).2 := congrArg Prod.snd er0
  refine lv_aload_n hx hb zd_L_law_364 rfl (lv_at hl 3 rfl) ?_
  refine zc_wV (rest := [.int ((zs_cut u).1)]) (wr := zs_wX cI cZ a (zs_cut u ).2) [] hx hb hml hown hz (zc_M_cut l dC dI cI cZ d v H.size  ) zf_M_cut rfl rfl zq_254 zq_251 zq_252 ⟨Nat.le_of_ble_eq_true rfl, Nat.le_of_ble_eq_true rfl⟩ hk hP hD hS (fun _ h => h) [0, 1, 2, 3, 4, 5, 6, 7, 8, 9, 10] [11, 12, 13, 14, 15, 16, 17, 18, 19, 20, 21, 22, 23] rfl rfl (by decide) (by decide) (by decide) 0 2 rfl rfl rfl rfl hl.1 rfl (Nat.le_of_ble_eq_true rfl) zd_L_law_365 hf (fun r1 u1 H locs er1 hP hD hS => ?_)
  obtain rfl : r1 = (zm_cut v).1 := congrArg Prod.fst er1
  obtain rfl : u1 = (zm_cut v).2 := congrArg Prod.snd er1
  refine lv_icmp_eq (tgt := 550) hx hb zd_L_law_368 rfl (fun _ => ?_) (fun h1 => ?_)
  · exact kk _ _ H locs (zp_cut hR).2 hP hD hS
  · exact absurd (zp_cut hR).1 h1
set_option maxHeartbeats 4000000 in
set_option maxRecDepth 100000 in
theorem zl_9 {p : Program} {e : Env} {s : State} {m : MethodId} {below : List Frame} {meth : Method} {c : Code} {H : Heap} {locs : List Loc} {ls : Array Slot} {cells slots : Nat} {Q : State → Prop} (l : Launch) {b L i : Nat} {xs : Nat → Int32} {dC : Nat → ClassId} {dI : Nat → Nat → Nat} {cI cZ : ClassId} {a d : Nat → Nat} {u v : zs_X} (hx : p.tables.exec = Jvm.exec) (hb : c.code = code) (hml : c.maxLocals = 4) (hown : s.vm.findClass "ZoneShelfLaw" = some m.cls) (hz : ∀ w ∈ zs_w, w.before #[Value.ref b] s = true) (hk : zs_k dC dI cI cZ s) (hX : va_X b L xs s s.heap) (hbl : b < s.heap.size) (hl : lv_has ls 4 [(3, .int (nI i)), (0, .ref b), (1, .ref (a 0)), (2, .ref (d 0))]) (hi : i + 4 ≤ L) (hL : L ≤ 2048) (hP : va_P (dC, dI) zs_cl (zs_wX cI cZ a u ++ zs_wM cI cZ d v) H) (hD : va_D (fun q => s.heap.size ≤ q) (zs_wX cI cZ a u ++ zs_wM cI cZ d v)) (hS : va_S (fun q => s.heap.size ≤ q) s.heap H locs) (hR : zp_R u v) (hf : cells ≤ room_1.cells ∧ slots ≤ room_1.slots)
    (kk : ∀ (u v : zs_X) (H : Heap) (locs : List Loc), zp_R u v → va_P (dC, dI) zs_cl (zs_wX cI cZ a u ++ zs_wM cI cZ d v) H → va_D (fun q => s.heap.size ≤ q) (zs_wX cI cZ a u ++ zs_wM cI cZ d v) → va_S (fun q => s.heap.size ≤ q) s.heap H locs → W p l e room_1 s m #[Value.ref b] below meth c H locs cells slots Q (F0 m 550 ls [])) : W p l e room_1 s m #[Value.ref b] below meth c H locs cells slots Q (F0 m 373 ls []) := by
  refine lv_aload_n hx hb zd_L_law_373 rfl (lv_at hl 2 rfl) ?_
  refine zc_wV (rest := []) (wr := zs_wM cI cZ d v) [] hx hb hml hown hz (zc_X_mount l dC dI cI cZ a u H.size  ) zf_X_mount rfl rfl zq_134 zq_135 zq_136 ⟨Nat.le_of_ble_eq_true rfl, Nat.le_of_ble_eq_true rfl⟩ hk hP hD hS (fun _ h => h) [0, 1, 2, 3, 4, 5, 6, 7, 8, 9, 10, 11, 12] [13, 14, 15, 16, 17, 18, 19, 20, 21, 22, 23] rfl rfl (by decide) (by decide) (by decide) 0 0 rfl rfl rfl rfl hl.1 rfl (Nat.le_of_ble_eq_true rfl) zd_L_law_374 hf (fun r0 u0 H locs er0 hP hD hS => ?_)
  obtain rfl : r0 = (zs_mount u).1 := congrArg Prod.fst er0
  obtain rfl : u0 = (zs_mount u).2 := congrArg Prod.snd er0
  refine lv_aload_n hx hb zd_L_law_377 rfl (lv_at hl 3 rfl) ?_
  refine zc_wV (rest := [.int ((zs_mount u).1)]) (wr := zs_wX cI cZ a (zs_mount u ).2) [] hx hb hml hown hz (zc_M_mount l dC dI cI cZ d v H.size  ) zf_M_mount rfl rfl zq_255 zq_256 zq_257 ⟨Nat.le_of_ble_eq_true rfl, Nat.le_of_ble_eq_true rfl⟩ hk hP hD hS (fun _ h => h) [0, 1, 2, 3, 4, 5, 6, 7, 8, 9, 10] [11, 12, 13, 14, 15, 16, 17, 18, 19, 20, 21, 22, 23] rfl rfl (by decide) (by decide) (by decide) 0 2 rfl rfl rfl rfl hl.1 rfl (Nat.le_of_ble_eq_true rfl) zd_L_law_378 hf (fun r1 u1 H locs er1 hP hD hS => ?_)
  obtain rfl : r1 = (zm_mount v).1 := congrArg Prod.fst er1
  obtain rfl : u1 = (zm_mount v).2 := congrArg Prod.snd er1
  refine lv_icmp_eq (tgt := 550) hx hb zd_L_law_381 rfl (fun _ => ?_) (fun h1 => ?_)
  · exact kk _ _ H locs (zp_mount hR).2 hP hD hS
  · exact absurd (zp_mount hR).1 h1
set_option maxHeartbeats 4000000 in
set_option maxRecDepth 100000 in
theorem zl_10 {p : Program} {e : Env} {s : State} {m : MethodId} {below : List Frame} {meth : Method} {c : Code} {H : Heap} {locs : List Loc} {ls : Array Slot} {cells slots : Nat} {Q : State → Prop} (l : Launch) {b L i : Nat} {xs : Nat → Int32} {dC : Nat → ClassId} {dI : Nat → Nat → Nat} {cI cZ : ClassId} {a d : Nat → Nat} {u v : zs_X} (hx : p.tables.exec = Jvm.exec) (hb : c.code = code) (hml : c.maxLocals = 4) (hown : s.vm.findClass "ZoneShelfLaw" = some m.cls) (hz : ∀ w ∈ zs_w, w.before #[Value.ref b] s = true) (hk : zs_k dC dI cI cZ s) (hX : va_X b L xs s s.heap) (hbl : b < s.heap.size) (hl : lv_has ls 4 [(3, .int (nI i)), (0, .ref b), (1, .ref (a 0)), (2, .ref (d 0))]) (hi : i + 4 ≤ L) (hL : L ≤ 2048) (hP : va_P (dC, dI) zs_cl (zs_wX cI cZ a u ++ zs_wM cI cZ d v) H) (hD : va_D (fun q => s.heap.size ≤ q) (zs_wX cI cZ a u ++ zs_wM cI cZ d v)) (hS : va_S (fun q => s.heap.size ≤ q) s.heap H locs) (hR : zp_R u v) (hf : cells ≤ room_1.cells ∧ slots ≤ room_1.slots)
    (kk : ∀ (u v : zs_X) (H : Heap) (locs : List Loc), zp_R u v → va_P (dC, dI) zs_cl (zs_wX cI cZ a u ++ zs_wM cI cZ d v) H → va_D (fun q => s.heap.size ≤ q) (zs_wX cI cZ a u ++ zs_wM cI cZ d v) → va_S (fun q => s.heap.size ≤ q) s.heap H locs → W p l e room_1 s m #[Value.ref b] below meth c H locs cells slots Q (F0 m 550 ls [])) : W p l e room_1 s m #[Value.ref b] below meth c H locs cells slots Q (F0 m 386 ls []) := by
  refine lv_aload_n hx hb zd_L_law_386 rfl (lv_at hl 2 rfl) ?_
  refine zc_rV (rest := []) [] hx hb hml hown hz (zc_X_tidy l dC dI cI cZ a u  ) zf_X_tidy rfl rfl zq_138 zq_139 zq_140 ⟨Nat.le_of_ble_eq_true rfl, Nat.le_of_ble_eq_true rfl⟩ hk (hP.sub [0, 1, 2, 3, 4, 5, 6, 7, 8, 9, 10, 11, 12] rfl) 0 0 rfl rfl rfl rfl hl.1 rfl (Nat.le_of_ble_eq_true rfl) zd_L_law_387 hf (fun r0 er0 => ?_)
  obtain rfl : r0 = zs_b u.1 := er0
  refine lv_aload_n hx hb zd_L_law_390 rfl (lv_at hl 3 rfl) ?_
  refine zc_rV (rest := [.int (zs_b u.1)]) [] hx hb hml hown hz (zc_M_tidy l dC dI cI cZ d v  ) zf_M_tidy rfl rfl zq_259 zq_260 zq_261 ⟨Nat.le_of_ble_eq_true rfl, Nat.le_of_ble_eq_true rfl⟩ hk (hP.sub [13, 14, 15, 16, 17, 18, 19, 20, 21, 22, 23] rfl) 0 2 rfl rfl rfl rfl hl.1 rfl (Nat.le_of_ble_eq_true rfl) zd_L_law_391 hf (fun r1 er1 => ?_)
  obtain rfl : r1 = zs_b v.1 := er1
  refine lv_icmp_eq (tgt := 550) hx hb zd_L_law_394 rfl (fun _ => ?_) (fun h1 => ?_)
  · exact kk u v H locs hR hP hD hS
  · exact absurd (congrArg zs_b hR.1) h1
set_option maxHeartbeats 4000000 in
set_option maxRecDepth 100000 in
theorem zl_11 {p : Program} {e : Env} {s : State} {m : MethodId} {below : List Frame} {meth : Method} {c : Code} {H : Heap} {locs : List Loc} {ls : Array Slot} {cells slots : Nat} {Q : State → Prop} (l : Launch) {b L i : Nat} {xs : Nat → Int32} {dC : Nat → ClassId} {dI : Nat → Nat → Nat} {cI cZ : ClassId} {a d : Nat → Nat} {u v : zs_X} (hx : p.tables.exec = Jvm.exec) (hb : c.code = code) (hml : c.maxLocals = 4) (hown : s.vm.findClass "ZoneShelfLaw" = some m.cls) (hz : ∀ w ∈ zs_w, w.before #[Value.ref b] s = true) (hk : zs_k dC dI cI cZ s) (hX : va_X b L xs s s.heap) (hbl : b < s.heap.size) (hl : lv_has ls 4 [(3, .int (nI i)), (0, .ref b), (1, .ref (a 0)), (2, .ref (d 0))]) (hi : i + 4 ≤ L) (hL : L ≤ 2048) (hP : va_P (dC, dI) zs_cl (zs_wX cI cZ a u ++ zs_wM cI cZ d v) H) (hD : va_D (fun q => s.heap.size ≤ q) (zs_wX cI cZ a u ++ zs_wM cI cZ d v)) (hS : va_S (fun q => s.heap.size ≤ q) s.heap H locs) (hR : zp_R u v) (hf : cells ≤ room_1.cells ∧ slots ≤ room_1.slots)
    (kk : ∀ (u v : zs_X) (H : Heap) (locs : List Loc), zp_R u v → va_P (dC, dI) zs_cl (zs_wX cI cZ a u ++ zs_wM cI cZ d v) H → va_D (fun q => s.heap.size ≤ q) (zs_wX cI cZ a u ++ zs_wM cI cZ d v) → va_S (fun q => s.heap.size ≤ q) s.heap H locs → W p l e room_1 s m #[Value.ref b] below meth c H locs cells slots Q (F0 m 550 ls [])) : W p l e room_1 s m #[Value.ref b] below meth c H locs cells slots Q (F0 m 399 ls []) := by
  refine lv_aload_n hx hb zd_L_law_399 rfl (lv_at hl 2 rfl) ?_
  refine zc_rV (rest := []) [] hx hb hml hown hz (zc_X_isUp l dC dI cI cZ a u  ) zf_X_isUp rfl rfl zq_142 zq_143 zq_144 ⟨Nat.le_of_ble_eq_true rfl, Nat.le_of_ble_eq_true rfl⟩ hk (hP.sub [0, 1, 2, 3, 4, 5, 6, 7, 8, 9, 10, 11, 12] rfl) 0 0 rfl rfl rfl rfl hl.1 rfl (Nat.le_of_ble_eq_true rfl) zd_L_law_400 hf (fun r0 er0 => ?_)
  obtain rfl : r0 = zs_b u.1 := er0
  refine lv_aload_n hx hb zd_L_law_403 rfl (lv_at hl 3 rfl) ?_
  refine zc_rV (rest := [.int (zs_b u.1)]) [] hx hb hml hown hz (zc_M_isUp l dC dI cI cZ d v  ) zf_M_isUp rfl rfl zq_263 zq_264 zq_265 ⟨Nat.le_of_ble_eq_true rfl, Nat.le_of_ble_eq_true rfl⟩ hk (hP.sub [13, 14, 15, 16, 17, 18, 19, 20, 21, 22, 23] rfl) 0 2 rfl rfl rfl rfl hl.1 rfl (Nat.le_of_ble_eq_true rfl) zd_L_law_404 hf (fun r1 er1 => ?_)
  obtain rfl : r1 = zs_b v.1 := er1
  refine lv_icmp_eq (tgt := 550) hx hb zd_L_law_407 rfl (fun _ => ?_) (fun h1 => ?_)
  · exact kk u v H locs hR hP hD hS
  · exact absurd (congrArg zs_b hR.1) h1
set_option maxHeartbeats 4000000 in
set_option maxRecDepth 100000 in
theorem zl_12 {p : Program} {e : Env} {s : State} {m : MethodId} {below : List Frame} {meth : Method} {c : Code} {H : Heap} {locs : List Loc} {ls : Array Slot} {cells slots : Nat} {Q : State → Prop} (l : Launch) {b L i : Nat} {xs : Nat → Int32} {dC : Nat → ClassId} {dI : Nat → Nat → Nat} {cI cZ : ClassId} {a d : Nat → Nat} {u v : zs_X} (hx : p.tables.exec = Jvm.exec) (hb : c.code = code) (hml : c.maxLocals = 4) (hown : s.vm.findClass "ZoneShelfLaw" = some m.cls) (hz : ∀ w ∈ zs_w, w.before #[Value.ref b] s = true) (hk : zs_k dC dI cI cZ s) (hX : va_X b L xs s s.heap) (hbl : b < s.heap.size) (hl : lv_has ls 4 [(3, .int (nI i)), (0, .ref b), (1, .ref (a 0)), (2, .ref (d 0))]) (hi : i + 4 ≤ L) (hL : L ≤ 2048) (hP : va_P (dC, dI) zs_cl (zs_wX cI cZ a u ++ zs_wM cI cZ d v) H) (hD : va_D (fun q => s.heap.size ≤ q) (zs_wX cI cZ a u ++ zs_wM cI cZ d v)) (hS : va_S (fun q => s.heap.size ≤ q) s.heap H locs) (hR : zp_R u v) (hf : cells ≤ room_1.cells ∧ slots ≤ room_1.slots)
    (kk : ∀ (u v : zs_X) (H : Heap) (locs : List Loc), zp_R u v → va_P (dC, dI) zs_cl (zs_wX cI cZ a u ++ zs_wM cI cZ d v) H → va_D (fun q => s.heap.size ≤ q) (zs_wX cI cZ a u ++ zs_wM cI cZ d v) → va_S (fun q => s.heap.size ≤ q) s.heap H locs → W p l e room_1 s m #[Value.ref b] below meth c H locs cells slots Q (F0 m 550 ls [])) : W p l e room_1 s m #[Value.ref b] below meth c H locs cells slots Q (F0 m 412 ls []) := by
  refine lv_aload_n hx hb zd_L_law_412 rfl (lv_at hl 2 rfl) ?_
  refine zc_rV (rest := []) [] hx hb hml hown hz (zc_X_objects l dC dI cI cZ a u  ) zf_X_objects rfl rfl zq_146 zq_147 zq_148 ⟨Nat.le_of_ble_eq_true rfl, Nat.le_of_ble_eq_true rfl⟩ hk (hP.sub [0, 1, 2, 3, 4, 5, 6, 7, 8, 9, 10, 11, 12] rfl) 0 0 rfl rfl rfl rfl hl.1 rfl (Nat.le_of_ble_eq_true rfl) zd_L_law_413 hf (fun r0 er0 => ?_)
  obtain rfl : r0 = zs_objects u := er0
  refine lv_aload_n hx hb zd_L_law_416 rfl (lv_at hl 3 rfl) ?_
  refine zc_rV (rest := [.int (zs_objects u)]) [] hx hb hml hown hz (zc_M_objects l dC dI cI cZ d v  ) zf_M_objects rfl rfl zq_267 zq_268 zq_269 ⟨Nat.le_of_ble_eq_true rfl, Nat.le_of_ble_eq_true rfl⟩ hk (hP.sub [13, 14, 15, 16, 17, 18, 19, 20, 21, 22, 23] rfl) 0 2 rfl rfl rfl rfl hl.1 rfl (Nat.le_of_ble_eq_true rfl) zd_L_law_417 hf (fun r1 er1 => ?_)
  obtain rfl : r1 = zm_objects v := er1
  refine lv_icmp_eq (tgt := 550) hx hb zd_L_law_420 rfl (fun _ => ?_) (fun h1 => ?_)
  · exact kk u v H locs hR hP hD hS
  · exact absurd (zp_objects hR) h1
set_option maxHeartbeats 4000000 in
set_option maxRecDepth 100000 in
theorem zl_13 {p : Program} {e : Env} {s : State} {m : MethodId} {below : List Frame} {meth : Method} {c : Code} {H : Heap} {locs : List Loc} {ls : Array Slot} {cells slots : Nat} {Q : State → Prop} (l : Launch) {b L i : Nat} {xs : Nat → Int32} {dC : Nat → ClassId} {dI : Nat → Nat → Nat} {cI cZ : ClassId} {a d : Nat → Nat} {u v : zs_X} (hx : p.tables.exec = Jvm.exec) (hb : c.code = code) (hml : c.maxLocals = 4) (hown : s.vm.findClass "ZoneShelfLaw" = some m.cls) (hz : ∀ w ∈ zs_w, w.before #[Value.ref b] s = true) (hk : zs_k dC dI cI cZ s) (hX : va_X b L xs s s.heap) (hbl : b < s.heap.size) (hl : lv_has ls 4 [(3, .int (nI i)), (0, .ref b), (1, .ref (a 0)), (2, .ref (d 0))]) (hi : i + 4 ≤ L) (hL : L ≤ 2048) (hP : va_P (dC, dI) zs_cl (zs_wX cI cZ a u ++ zs_wM cI cZ d v) H) (hD : va_D (fun q => s.heap.size ≤ q) (zs_wX cI cZ a u ++ zs_wM cI cZ d v)) (hS : va_S (fun q => s.heap.size ≤ q) s.heap H locs) (hR : zp_R u v) (hf : cells ≤ room_1.cells ∧ slots ≤ room_1.slots)
    (kk : ∀ (u v : zs_X) (H : Heap) (locs : List Loc), zp_R u v → va_P (dC, dI) zs_cl (zs_wX cI cZ a u ++ zs_wM cI cZ d v) H → va_D (fun q => s.heap.size ≤ q) (zs_wX cI cZ a u ++ zs_wM cI cZ d v) → va_S (fun q => s.heap.size ≤ q) s.heap H locs → W p l e room_1 s m #[Value.ref b] below meth c H locs cells slots Q (F0 m 550 ls [])) : W p l e room_1 s m #[Value.ref b] below meth c H locs cells slots Q (F0 m 425 ls []) := by
  refine lv_aload_n hx hb zd_L_law_425 rfl (lv_at hl 2 rfl) ?_
  refine zc_rV (rest := []) [] hx hb hml hown hz (zc_X_room l dC dI cI cZ a u  ) zf_X_room rfl rfl zq_152 zq_153 zq_154 ⟨Nat.le_of_ble_eq_true rfl, Nat.le_of_ble_eq_true rfl⟩ hk (hP.sub [0, 1, 2, 3, 4, 5, 6, 7, 8, 9, 10, 11, 12] rfl) 0 0 rfl rfl rfl rfl hl.1 rfl (Nat.le_of_ble_eq_true rfl) zd_L_law_426 hf (fun r0 er0 => ?_)
  obtain rfl : r0 = zs_room u := er0
  refine lv_aload_n hx hb zd_L_law_429 rfl (lv_at hl 3 rfl) ?_
  refine zc_rV (rest := [.int (zs_room u)]) [] hx hb hml hown hz (zc_M_room l dC dI cI cZ d v  ) zf_M_room rfl rfl zq_271 zq_272 zq_273 ⟨Nat.le_of_ble_eq_true rfl, Nat.le_of_ble_eq_true rfl⟩ hk (hP.sub [13, 14, 15, 16, 17, 18, 19, 20, 21, 22, 23] rfl) 0 2 rfl rfl rfl rfl hl.1 rfl (Nat.le_of_ble_eq_true rfl) zd_L_law_430 hf (fun r1 er1 => ?_)
  obtain rfl : r1 = zm_room v := er1
  refine lv_icmp_eq (tgt := 550) hx hb zd_L_law_433 rfl (fun _ => ?_) (fun h1 => ?_)
  · exact kk u v H locs hR hP hD hS
  · exact absurd (zp_room hR) h1
set_option maxHeartbeats 4000000 in
set_option maxRecDepth 100000 in
theorem zl_14 {p : Program} {e : Env} {s : State} {m : MethodId} {below : List Frame} {meth : Method} {c : Code} {H : Heap} {locs : List Loc} {ls : Array Slot} {cells slots : Nat} {Q : State → Prop} (l : Launch) {b L i : Nat} {xs : Nat → Int32} {dC : Nat → ClassId} {dI : Nat → Nat → Nat} {cI cZ : ClassId} {a d : Nat → Nat} {u v : zs_X} (hx : p.tables.exec = Jvm.exec) (hb : c.code = code) (hml : c.maxLocals = 4) (hown : s.vm.findClass "ZoneShelfLaw" = some m.cls) (hz : ∀ w ∈ zs_w, w.before #[Value.ref b] s = true) (hk : zs_k dC dI cI cZ s) (hX : va_X b L xs s s.heap) (hbl : b < s.heap.size) (hl : lv_has ls 4 [(3, .int (nI i)), (0, .ref b), (1, .ref (a 0)), (2, .ref (d 0))]) (hi : i + 4 ≤ L) (hL : L ≤ 2048) (hP : va_P (dC, dI) zs_cl (zs_wX cI cZ a u ++ zs_wM cI cZ d v) H) (hD : va_D (fun q => s.heap.size ≤ q) (zs_wX cI cZ a u ++ zs_wM cI cZ d v)) (hS : va_S (fun q => s.heap.size ≤ q) s.heap H locs) (hR : zp_R u v) (hf : cells ≤ room_1.cells ∧ slots ≤ room_1.slots)
    (kk : ∀ (u v : zs_X) (H : Heap) (locs : List Loc), zp_R u v → va_P (dC, dI) zs_cl (zs_wX cI cZ a u ++ zs_wM cI cZ d v) H → va_D (fun q => s.heap.size ≤ q) (zs_wX cI cZ a u ++ zs_wM cI cZ d v) → va_S (fun q => s.heap.size ≤ q) s.heap H locs → W p l e room_1 s m #[Value.ref b] below meth c H locs cells slots Q (F0 m 550 ls [])) : W p l e room_1 s m #[Value.ref b] below meth c H locs cells slots Q (F0 m 438 ls []) := by
  refine lv_aload_n hx hb zd_L_law_438 rfl (lv_at hl 2 rfl) ?_
  refine lv_aload_n hx hb zd_L_law_439 rfl (lv_at hl 1 rfl) ?_
  refine lv_iload_n hx hb zd_L_law_440 rfl (lv_at hl 0 rfl) ?_
  refine lv_iconst (v := 1) hx hb zd_L_law_441 (by decide) ?_
  refine lv_iadd hx hb zd_L_law_442 ?_
  refine zi_top (y := nI (i + 1)) (nI_add i 1) ?_
  refine zi_sld (i := (i + 1)) hx hb hX hbl (Nat.not_le_of_lt hbl) hS (by omega) hL zd_L_law_443 ?_
  refine lv_aload_n hx hb zd_L_law_444 rfl (lv_at hl 1 rfl) ?_
  refine lv_iload_n hx hb zd_L_law_445 rfl (lv_at hl 0 rfl) ?_
  refine lv_iconst (v := 2) hx hb zd_L_law_446 (by decide) ?_
  refine lv_iadd hx hb zd_L_law_447 ?_
  refine zi_top (y := nI (i + 2)) (nI_add i 2) ?_
  refine zi_sld (i := (i + 2)) hx hb hX hbl (Nat.not_le_of_lt hbl) hS (by omega) hL zd_L_law_448 ?_
  refine zc_rV (rest := []) [.int (xs (i + 1)), .int (xs (i + 2))] hx hb hml hown hz (zc_X_object l dC dI cI cZ a u  (xs (i + 1)) (xs (i + 2))) zf_X_object rfl rfl zq_156 zq_157 zq_158 ⟨Nat.le_of_ble_eq_true rfl, Nat.le_of_ble_eq_true rfl⟩ hk (hP.sub [0, 1, 2, 3, 4, 5, 6, 7, 8, 9, 10, 11, 12] rfl) 0 0 rfl rfl rfl rfl hl.1 rfl (Nat.le_of_ble_eq_true rfl) zd_L_law_449 hf (fun r0 er0 => ?_)
  obtain rfl : r0 = zs_object u (xs (i + 1)) (xs (i + 2)) := er0
  refine lv_aload_n hx hb zd_L_law_452 rfl (lv_at hl 3 rfl) ?_
  refine lv_aload_n hx hb zd_L_law_453 rfl (lv_at hl 1 rfl) ?_
  refine lv_iload_n hx hb zd_L_law_454 rfl (lv_at hl 0 rfl) ?_
  refine lv_iconst (v := 1) hx hb zd_L_law_455 (by decide) ?_
  refine lv_iadd hx hb zd_L_law_456 ?_
  refine zi_top (y := nI (i + 1)) (nI_add i 1) ?_
  refine zi_sld (i := (i + 1)) hx hb hX hbl (Nat.not_le_of_lt hbl) hS (by omega) hL zd_L_law_457 ?_
  refine lv_aload_n hx hb zd_L_law_458 rfl (lv_at hl 1 rfl) ?_
  refine lv_iload_n hx hb zd_L_law_459 rfl (lv_at hl 0 rfl) ?_
  refine lv_iconst (v := 2) hx hb zd_L_law_460 (by decide) ?_
  refine lv_iadd hx hb zd_L_law_461 ?_
  refine zi_top (y := nI (i + 2)) (nI_add i 2) ?_
  refine zi_sld (i := (i + 2)) hx hb hX hbl (Nat.not_le_of_lt hbl) hS (by omega) hL zd_L_law_462 ?_
  refine zc_rV (rest := [.int (zs_object u (xs (i + 1)) (xs (i + 2)))]) [.int (xs (i + 1)), .int (xs (i + 2))] hx hb hml hown hz (zc_M_object l dC dI cI cZ d v  (xs (i + 1)) (xs (i + 2))) zf_M_object rfl rfl zq_275 zq_276 zq_277 ⟨Nat.le_of_ble_eq_true rfl, Nat.le_of_ble_eq_true rfl⟩ hk (hP.sub [13, 14, 15, 16, 17, 18, 19, 20, 21, 22, 23] rfl) 0 2 rfl rfl rfl rfl hl.1 rfl (Nat.le_of_ble_eq_true rfl) zd_L_law_463 hf (fun r1 er1 => ?_)
  obtain rfl : r1 = zm_object v (xs (i + 1)) (xs (i + 2)) := er1
  refine lv_icmp_eq (tgt := 550) hx hb zd_L_law_466 rfl (fun _ => ?_) (fun h1 => ?_)
  · exact kk u v H locs hR hP hD hS
  · exact absurd (zp_object hR (xs (i + 1)) (xs (i + 2))) h1
set_option maxHeartbeats 4000000 in
set_option maxRecDepth 100000 in
theorem zl_15 {p : Program} {e : Env} {s : State} {m : MethodId} {below : List Frame} {meth : Method} {c : Code} {H : Heap} {locs : List Loc} {ls : Array Slot} {cells slots : Nat} {Q : State → Prop} (l : Launch) {b L i : Nat} {xs : Nat → Int32} {dC : Nat → ClassId} {dI : Nat → Nat → Nat} {cI cZ : ClassId} {a d : Nat → Nat} {u v : zs_X} (hx : p.tables.exec = Jvm.exec) (hb : c.code = code) (hml : c.maxLocals = 4) (hown : s.vm.findClass "ZoneShelfLaw" = some m.cls) (hz : ∀ w ∈ zs_w, w.before #[Value.ref b] s = true) (hk : zs_k dC dI cI cZ s) (hX : va_X b L xs s s.heap) (hbl : b < s.heap.size) (hl : lv_has ls 4 [(3, .int (nI i)), (0, .ref b), (1, .ref (a 0)), (2, .ref (d 0))]) (hi : i + 4 ≤ L) (hL : L ≤ 2048) (hP : va_P (dC, dI) zs_cl (zs_wX cI cZ a u ++ zs_wM cI cZ d v) H) (hD : va_D (fun q => s.heap.size ≤ q) (zs_wX cI cZ a u ++ zs_wM cI cZ d v)) (hS : va_S (fun q => s.heap.size ≤ q) s.heap H locs) (hR : zp_R u v) (hf : cells ≤ room_1.cells ∧ slots ≤ room_1.slots)
    (kk : ∀ (u v : zs_X) (H : Heap) (locs : List Loc), zp_R u v → va_P (dC, dI) zs_cl (zs_wX cI cZ a u ++ zs_wM cI cZ d v) H → va_D (fun q => s.heap.size ≤ q) (zs_wX cI cZ a u ++ zs_wM cI cZ d v) → va_S (fun q => s.heap.size ≤ q) s.heap H locs → W p l e room_1 s m #[Value.ref b] below meth c H locs cells slots Q (F0 m 550 ls [])) : W p l e room_1 s m #[Value.ref b] below meth c H locs cells slots Q (F0 m 471 ls []) := by
  refine lv_aload_n hx hb zd_L_law_471 rfl (lv_at hl 2 rfl) ?_
  refine lv_aload_n hx hb zd_L_law_472 rfl (lv_at hl 1 rfl) ?_
  refine lv_iload_n hx hb zd_L_law_473 rfl (lv_at hl 0 rfl) ?_
  refine lv_iconst (v := 1) hx hb zd_L_law_474 (by decide) ?_
  refine lv_iadd hx hb zd_L_law_475 ?_
  refine zi_top (y := nI (i + 1)) (nI_add i 1) ?_
  refine zi_sld (i := (i + 1)) hx hb hX hbl (Nat.not_le_of_lt hbl) hS (by omega) hL zd_L_law_476 ?_
  refine lv_aload_n hx hb zd_L_law_477 rfl (lv_at hl 1 rfl) ?_
  refine lv_iload_n hx hb zd_L_law_478 rfl (lv_at hl 0 rfl) ?_
  refine lv_iconst (v := 2) hx hb zd_L_law_479 (by decide) ?_
  refine lv_iadd hx hb zd_L_law_480 ?_
  refine zi_top (y := nI (i + 2)) (nI_add i 2) ?_
  refine zi_sld (i := (i + 2)) hx hb hX hbl (Nat.not_le_of_lt hbl) hS (by omega) hL zd_L_law_481 ?_
  refine zc_rV (rest := []) [.int (xs (i + 1)), .int (xs (i + 2))] hx hb hml hown hz (zc_X_word l dC dI cI cZ a u (zp_ok1 hR) (xs (i + 1)) (xs (i + 2))) zf_X_word rfl rfl zq_160 zq_161 zq_162 ⟨Nat.le_of_ble_eq_true rfl, Nat.le_of_ble_eq_true rfl⟩ hk (hP.sub [0, 1, 2, 3, 4, 5, 6, 7, 8, 9, 10, 11, 12] rfl) 0 0 rfl rfl rfl rfl hl.1 rfl (Nat.le_of_ble_eq_true rfl) zd_L_law_482 hf (fun r0 er0 => ?_)
  obtain rfl : r0 = zs_word u (xs (i + 1)) (xs (i + 2)) := er0
  refine lv_aload_n hx hb zd_L_law_485 rfl (lv_at hl 3 rfl) ?_
  refine lv_aload_n hx hb zd_L_law_486 rfl (lv_at hl 1 rfl) ?_
  refine lv_iload_n hx hb zd_L_law_487 rfl (lv_at hl 0 rfl) ?_
  refine lv_iconst (v := 1) hx hb zd_L_law_488 (by decide) ?_
  refine lv_iadd hx hb zd_L_law_489 ?_
  refine zi_top (y := nI (i + 1)) (nI_add i 1) ?_
  refine zi_sld (i := (i + 1)) hx hb hX hbl (Nat.not_le_of_lt hbl) hS (by omega) hL zd_L_law_490 ?_
  refine lv_aload_n hx hb zd_L_law_491 rfl (lv_at hl 1 rfl) ?_
  refine lv_iload_n hx hb zd_L_law_492 rfl (lv_at hl 0 rfl) ?_
  refine lv_iconst (v := 2) hx hb zd_L_law_493 (by decide) ?_
  refine lv_iadd hx hb zd_L_law_494 ?_
  refine zi_top (y := nI (i + 2)) (nI_add i 2) ?_
  refine zi_sld (i := (i + 2)) hx hb hX hbl (Nat.not_le_of_lt hbl) hS (by omega) hL zd_L_law_495 ?_
  refine zc_rV (rest := [.int (zs_word u (xs (i + 1)) (xs (i + 2)))]) [.int (xs (i + 1)), .int (xs (i + 2))] hx hb hml hown hz (zc_M_word l dC dI cI cZ d v (zp_ok2 hR) (xs (i + 1)) (xs (i + 2))) zf_M_word rfl rfl zq_279 zq_280 zq_281 ⟨Nat.le_of_ble_eq_true rfl, Nat.le_of_ble_eq_true rfl⟩ hk (hP.sub [13, 14, 15, 16, 17, 18, 19, 20, 21, 22, 23] rfl) 0 2 rfl rfl rfl rfl hl.1 rfl (Nat.le_of_ble_eq_true rfl) zd_L_law_496 hf (fun r1 er1 => ?_)
  obtain rfl : r1 = zm_word v (xs (i + 1)) (xs (i + 2)) := er1
  refine lv_icmp_eq (tgt := 550) hx hb zd_L_law_499 rfl (fun _ => ?_) (fun h1 => ?_)
  · exact kk u v H locs hR hP hD hS
  · exact absurd (zp_word hR (xs (i + 1)) (xs (i + 2))) h1
set_option maxHeartbeats 4000000 in
set_option maxRecDepth 100000 in
theorem zl_16 {p : Program} {e : Env} {s : State} {m : MethodId} {below : List Frame} {meth : Method} {c : Code} {H : Heap} {locs : List Loc} {ls : Array Slot} {cells slots : Nat} {Q : State → Prop} (l : Launch) {b L i : Nat} {xs : Nat → Int32} {dC : Nat → ClassId} {dI : Nat → Nat → Nat} {cI cZ : ClassId} {a d : Nat → Nat} {u v : zs_X} (hx : p.tables.exec = Jvm.exec) (hb : c.code = code) (hml : c.maxLocals = 4) (hown : s.vm.findClass "ZoneShelfLaw" = some m.cls) (hz : ∀ w ∈ zs_w, w.before #[Value.ref b] s = true) (hk : zs_k dC dI cI cZ s) (hX : va_X b L xs s s.heap) (hbl : b < s.heap.size) (hl : lv_has ls 4 [(3, .int (nI i)), (0, .ref b), (1, .ref (a 0)), (2, .ref (d 0))]) (hi : i + 4 ≤ L) (hL : L ≤ 2048) (hP : va_P (dC, dI) zs_cl (zs_wX cI cZ a u ++ zs_wM cI cZ d v) H) (hD : va_D (fun q => s.heap.size ≤ q) (zs_wX cI cZ a u ++ zs_wM cI cZ d v)) (hS : va_S (fun q => s.heap.size ≤ q) s.heap H locs) (hR : zp_R u v) (hf : cells ≤ room_1.cells ∧ slots ≤ room_1.slots)
    (kk : ∀ (u v : zs_X) (H : Heap) (locs : List Loc), zp_R u v → va_P (dC, dI) zs_cl (zs_wX cI cZ a u ++ zs_wM cI cZ d v) H → va_D (fun q => s.heap.size ≤ q) (zs_wX cI cZ a u ++ zs_wM cI cZ d v) → va_S (fun q => s.heap.size ≤ q) s.heap H locs → W p l e room_1 s m #[Value.ref b] below meth c H locs cells slots Q (F0 m 550 ls [])) : W p l e room_1 s m #[Value.ref b] below meth c H locs cells slots Q (F0 m 504 ls []) := by
  refine lv_aload_n hx hb zd_L_law_504 rfl (lv_at hl 2 rfl) ?_
  refine lv_aload_n hx hb zd_L_law_505 rfl (lv_at hl 1 rfl) ?_
  refine lv_iload_n hx hb zd_L_law_506 rfl (lv_at hl 0 rfl) ?_
  refine lv_iconst (v := 1) hx hb zd_L_law_507 (by decide) ?_
  refine lv_iadd hx hb zd_L_law_508 ?_
  refine zi_top (y := nI (i + 1)) (nI_add i 1) ?_
  refine zi_sld (i := (i + 1)) hx hb hX hbl (Nat.not_le_of_lt hbl) hS (by omega) hL zd_L_law_509 ?_
  refine zc_rV (rest := []) [.int (xs (i + 1))] hx hb hml hown hz (zc_X_find l dC dI cI cZ a u  (xs (i + 1))) zf_X_find rfl rfl zq_164 zq_165 zq_166 ⟨Nat.le_of_ble_eq_true rfl, Nat.le_of_ble_eq_true rfl⟩ hk (hP.sub [0, 1, 2, 3, 4, 5, 6, 7, 8, 9, 10, 11, 12] rfl) 0 0 rfl rfl rfl rfl hl.1 rfl (Nat.le_of_ble_eq_true rfl) zd_L_law_510 hf (fun r0 er0 => ?_)
  obtain rfl : r0 = zs_find u (xs (i + 1)) := er0
  refine lv_aload_n hx hb zd_L_law_513 rfl (lv_at hl 3 rfl) ?_
  refine lv_aload_n hx hb zd_L_law_514 rfl (lv_at hl 1 rfl) ?_
  refine lv_iload_n hx hb zd_L_law_515 rfl (lv_at hl 0 rfl) ?_
  refine lv_iconst (v := 1) hx hb zd_L_law_516 (by decide) ?_
  refine lv_iadd hx hb zd_L_law_517 ?_
  refine zi_top (y := nI (i + 1)) (nI_add i 1) ?_
  refine zi_sld (i := (i + 1)) hx hb hX hbl (Nat.not_le_of_lt hbl) hS (by omega) hL zd_L_law_518 ?_
  refine zc_rV (rest := [.int (zs_find u (xs (i + 1)))]) [.int (xs (i + 1))] hx hb hml hown hz (zc_M_find l dC dI cI cZ d v  (xs (i + 1))) zf_M_find rfl rfl zq_283 zq_284 zq_285 ⟨Nat.le_of_ble_eq_true rfl, Nat.le_of_ble_eq_true rfl⟩ hk (hP.sub [13, 14, 15, 16, 17, 18, 19, 20, 21, 22, 23] rfl) 0 2 rfl rfl rfl rfl hl.1 rfl (Nat.le_of_ble_eq_true rfl) zd_L_law_519 hf (fun r1 er1 => ?_)
  obtain rfl : r1 = zm_find v (xs (i + 1)) := er1
  refine lv_icmp_eq (tgt := 550) hx hb zd_L_law_522 rfl (fun _ => ?_) (fun h1 => ?_)
  · exact kk u v H locs hR hP hD hS
  · exact absurd (zp_find hR (xs (i + 1))) h1
set_option maxHeartbeats 4000000 in
set_option maxRecDepth 100000 in
theorem zl_17 {p : Program} {e : Env} {s : State} {m : MethodId} {below : List Frame} {meth : Method} {c : Code} {H : Heap} {locs : List Loc} {ls : Array Slot} {cells slots : Nat} {Q : State → Prop} (l : Launch) {b L i : Nat} {xs : Nat → Int32} {dC : Nat → ClassId} {dI : Nat → Nat → Nat} {cI cZ : ClassId} {a d : Nat → Nat} {u v : zs_X} (hx : p.tables.exec = Jvm.exec) (hb : c.code = code) (hml : c.maxLocals = 4) (hown : s.vm.findClass "ZoneShelfLaw" = some m.cls) (hz : ∀ w ∈ zs_w, w.before #[Value.ref b] s = true) (hk : zs_k dC dI cI cZ s) (hX : va_X b L xs s s.heap) (hbl : b < s.heap.size) (hl : lv_has ls 4 [(3, .int (nI i)), (0, .ref b), (1, .ref (a 0)), (2, .ref (d 0))]) (hi : i + 4 ≤ L) (hL : L ≤ 2048) (hP : va_P (dC, dI) zs_cl (zs_wX cI cZ a u ++ zs_wM cI cZ d v) H) (hD : va_D (fun q => s.heap.size ≤ q) (zs_wX cI cZ a u ++ zs_wM cI cZ d v)) (hS : va_S (fun q => s.heap.size ≤ q) s.heap H locs) (hR : zp_R u v) (hf : cells ≤ room_1.cells ∧ slots ≤ room_1.slots)
    (kk : ∀ (u v : zs_X) (H : Heap) (locs : List Loc), zp_R u v → va_P (dC, dI) zs_cl (zs_wX cI cZ a u ++ zs_wM cI cZ d v) H → va_D (fun q => s.heap.size ≤ q) (zs_wX cI cZ a u ++ zs_wM cI cZ d v) → va_S (fun q => s.heap.size ≤ q) s.heap H locs → W p l e room_1 s m #[Value.ref b] below meth c H locs cells slots Q (F0 m 550 ls [])) : W p l e room_1 s m #[Value.ref b] below meth c H locs cells slots Q (F0 m 527 ls []) := by
  refine lv_aload_n hx hb zd_L_law_527 rfl (lv_at hl 2 rfl) ?_
  refine lv_aload_n hx hb zd_L_law_528 rfl (lv_at hl 1 rfl) ?_
  refine lv_iload_n hx hb zd_L_law_529 rfl (lv_at hl 0 rfl) ?_
  refine lv_iconst (v := 1) hx hb zd_L_law_530 (by decide) ?_
  refine lv_iadd hx hb zd_L_law_531 ?_
  refine zi_top (y := nI (i + 1)) (nI_add i 1) ?_
  refine zi_sld (i := (i + 1)) hx hb hX hbl (Nat.not_le_of_lt hbl) hS (by omega) hL zd_L_law_532 ?_
  refine zc_rV (rest := []) [.int (xs (i + 1))] hx hb hml hown hz (zc_X_list l dC dI cI cZ a u  (xs (i + 1))) zf_X_list rfl rfl zq_168 zq_169 zq_170 ⟨Nat.le_of_ble_eq_true rfl, Nat.le_of_ble_eq_true rfl⟩ hk (hP.sub [0, 1, 2, 3, 4, 5, 6, 7, 8, 9, 10, 11, 12] rfl) 0 0 rfl rfl rfl rfl hl.1 rfl (Nat.le_of_ble_eq_true rfl) zd_L_law_533 hf (fun r0 er0 => ?_)
  obtain rfl : r0 = zs_list u (xs (i + 1)) := er0
  refine lv_aload_n hx hb zd_L_law_536 rfl (lv_at hl 3 rfl) ?_
  refine lv_aload_n hx hb zd_L_law_537 rfl (lv_at hl 1 rfl) ?_
  refine lv_iload_n hx hb zd_L_law_538 rfl (lv_at hl 0 rfl) ?_
  refine lv_iconst (v := 1) hx hb zd_L_law_539 (by decide) ?_
  refine lv_iadd hx hb zd_L_law_540 ?_
  refine zi_top (y := nI (i + 1)) (nI_add i 1) ?_
  refine zi_sld (i := (i + 1)) hx hb hX hbl (Nat.not_le_of_lt hbl) hS (by omega) hL zd_L_law_541 ?_
  refine zc_rV (rest := [.int (zs_list u (xs (i + 1)))]) [.int (xs (i + 1))] hx hb hml hown hz (zc_M_list l dC dI cI cZ d v  (xs (i + 1))) zf_M_list rfl rfl zq_287 zq_288 zq_289 ⟨Nat.le_of_ble_eq_true rfl, Nat.le_of_ble_eq_true rfl⟩ hk (hP.sub [13, 14, 15, 16, 17, 18, 19, 20, 21, 22, 23] rfl) 0 2 rfl rfl rfl rfl hl.1 rfl (Nat.le_of_ble_eq_true rfl) zd_L_law_542 hf (fun r1 er1 => ?_)
  obtain rfl : r1 = zm_list v (xs (i + 1)) := er1
  refine lv_icmp_eq (tgt := 550) hx hb zd_L_law_545 rfl (fun _ => ?_) (fun h1 => ?_)
  · exact kk u v H locs hR hP hD hS
  · exact absurd (zp_list hR (xs (i + 1))) h1
