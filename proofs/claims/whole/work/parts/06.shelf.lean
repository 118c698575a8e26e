set_option maxHeartbeats 4000000 in
set_option maxRecDepth 100000 in
theorem zc_X_isName (l : Launch) (dC : Nat → ClassId) (dI : Nat → Nat → Nat) (cI cZ : ClassId) (n : Int32) : Met l zy_X_isName (.code zy_X_isName zb_X_isName 1 (some .boolean) :: zs_w) ({ frames := 0, cells := 0, slots := 0, locals := 0 }) (va_Pc [.int n] (fun _ => True)) (vp_Si (fun r => r = zs_b (zs_nam n))) 0 0 (fun _ => False) := by
  refine Met.ofW (cc := zb_X_isName) (maxL := 1) (ret := (some .boolean)) (by decide) rfl ?_
  intro p e s m args below meth c s₁ B hml hv
  obtain ⟨rfl, -⟩ := hv
  have hx := B.exec
  have hb := B.bytes
  have hr := B.returns
  have hts := atoms_spec (ws := .code zy_X_isName zb_X_isName 1 (some .boolean) :: zs_w) B.pre
  have hz : ∀ w ∈ zs_w, w.before _ s = true := fun w h => hts w (List.mem_cons_of_mem _ h)
  have hown : s.vm.findClass "ZoneShelf" = some m.cls := findClass_of_methodNamed B.named
  have hlocks := B.notSynchronized
  have hl := lv_entry ([.int n]) (n := 1) (Nat.le_of_ble_eq_true rfl)
  rw [lg_entry_eq]
  generalize (lg_sl ([.int n]) ++ List.replicate (1 - (lg_sl ([.int n])).length) Slot.unset).toArray = ls at hl ⊢
  have hl : lv_has ls 1 [(0, .int n)] := hl
  refine lv_iload_n hx hb zd_X_isName_0 rfl (lv_at hl 0 rfl) ?_
  refine lv_if_lt (tgt := 15) hx hb zd_X_isName_1 rfl (fun h1 => ?_) (fun h1 => ?_)
  · refine lv_iconst (v := 0) hx hb zd_X_isName_15 (by decide) ?_
    exact zr_zret hx hb hr hlocks zd_X_isName_16 rfl (show 0 = zs_b (zs_nam n) from by simp [zs_nam, zs_b, h1])
  · refine lv_iload_n hx hb zd_X_isName_4 rfl (lv_at hl 0 rfl) ?_
    refine lv_sipush (v := 9999) hx hb zd_X_isName_5 (by decide) ?_
    refine lv_icmp_gt (tgt := 15) hx hb zd_X_isName_8 rfl (fun h2 => ?_) (fun h2 => ?_)
    · refine lv_iconst (v := 0) hx hb zd_X_isName_15 (by decide) ?_
      exact zr_zret hx hb hr hlocks zd_X_isName_16 rfl (show 0 = zs_b (zs_nam n) from by simp [zs_nam, zs_b, h1, h2])
    · refine lv_iconst (v := 1) hx hb zd_X_isName_11 (by decide) ?_
      refine lv_goto (tgt := 16) hx hb zd_X_isName_12 rfl ?_
      exact zr_zret hx hb hr hlocks zd_X_isName_16 rfl (show 1 = zs_b (zs_nam n) from by simp [zs_nam, zs_b, h1, h2])
set_option maxHeartbeats 4000000 in
set_option maxRecDepth 100000 in
theorem zc_X_isHint (l : Launch) (dC : Nat → ClassId) (dI : Nat → Nat → Nat) (cI cZ : ClassId) (n : Int32) : Met l zy_X_isHint (.code zy_X_isHint zb_X_isHint 1 (some .boolean) :: zs_w) ({ frames := 0, cells := 0, slots := 0, locals := 0 }) (va_Pc [.int n] (fun _ => True)) (vp_Si (fun r => r = zs_b (zs_hin n))) 0 0 (fun _ => False) := by
  refine Met.ofW (cc := zb_X_isHint) (maxL := 1) (ret := (some .boolean)) (by decide) rfl ?_
  intro p e s m args below meth c s₁ B hml hv
  obtain ⟨rfl, -⟩ := hv
  have hx := B.exec
  have hb := B.bytes
  have hr := B.returns
  have hts := atoms_spec (ws := .code zy_X_isHint zb_X_isHint 1 (some .boolean) :: zs_w) B.pre
  have hz : ∀ w ∈ zs_w, w.before _ s = true := fun w h => hts w (List.mem_cons_of_mem _ h)
  have hown : s.vm.findClass "ZoneShelf" = some m.cls := findClass_of_methodNamed B.named
  have hlocks := B.notSynchronized
  have hl := lv_entry ([.int n]) (n := 1) (Nat.le_of_ble_eq_true rfl)
  rw [lg_entry_eq]
  generalize (lg_sl ([.int n]) ++ List.replicate (1 - (lg_sl ([.int n])).length) Slot.unset).toArray = ls at hl ⊢
  have hl : lv_has ls 1 [(0, .int n)] := hl
  refine lv_iload_n hx hb zd_X_isHint_0 rfl (lv_at hl 0 rfl) ?_
  refine lv_if_lt (tgt := 13) hx hb zd_X_isHint_1 rfl (fun h1 => ?_) (fun h1 => ?_)
  · refine lv_iconst (v := 0) hx hb zd_X_isHint_13 (by decide) ?_
    exact zr_zret hx hb hr hlocks zd_X_isHint_14 rfl (show 0 = zs_b (zs_hin n) from by simp [zs_hin, zs_b, h1])
  · refine lv_iload_n hx hb zd_X_isHint_4 rfl (lv_at hl 0 rfl) ?_
    refine lv_iconst (v := 3) hx hb zd_X_isHint_5 (by decide) ?_
    refine lv_icmp_gt (tgt := 13) hx hb zd_X_isHint_6 rfl (fun h2 => ?_) (fun h2 => ?_)
    · refine lv_iconst (v := 0) hx hb zd_X_isHint_13 (by decide) ?_
      exact zr_zret hx hb hr hlocks zd_X_isHint_14 rfl (show 0 = zs_b (zs_hin n) from by simp [zs_hin, zs_b, h1, h2])
    · refine lv_iconst (v := 1) hx hb zd_X_isHint_9 (by decide) ?_
      refine lv_goto (tgt := 14) hx hb zd_X_isHint_10 rfl ?_
      exact zr_zret hx hb hr hlocks zd_X_isHint_14 rfl (show 1 = zs_b (zs_hin n) from by simp [zs_hin, zs_b, h1, h2])
set_option maxHeartbeats 4000000 in
set_option maxRecDepth 100000 in
theorem zc_X_isThere (l : Launch) (dC : Nat → ClassId) (dI : Nat → Nat → Nat) (cI cZ : ClassId) (a : Nat → Nat) (u : zs_X) (n : Int32) : Met l zy_X_isThere (.code zy_X_isThere zb_X_isThere 2 (some .boolean) :: zs_w) ({ frames := 1, cells := 0, slots := 0, locals := 21 }) (va_Pc [.ref (a 0), .int n] (zs_r dC dI cI cZ (zs_wX cI cZ a u))) (vp_Si (fun r => r = zs_b (zs_is u.1 u.2.1.1 n))) 0 0 (fun _ => False) := by
  obtain ⟨up, ⟨nm, hi, ln, op, wd⟩, ⟨nm2, hi2, ln2, op2, wd2⟩⟩ := u
  refine Met.ofW (cc := zb_X_isThere) (maxL := 2) (ret := (some .boolean)) (by decide) rfl ?_
  intro p e s m args below meth c s₁ B hml hv
  obtain ⟨rfl, hP, hk⟩ := hv
  have hx := B.exec
  have hb := B.bytes
  have hr := B.returns
  have hts := atoms_spec (ws := .code zy_X_isThere zb_X_isThere 2 (some .boolean) :: zs_w) B.pre
  have hz : ∀ w ∈ zs_w, w.before _ s = true := fun w h => hts w (List.mem_cons_of_mem _ h)
  have hown : s.vm.findClass "ZoneShelf" = some m.cls := findClass_of_methodNamed B.named
  have hlocks := B.notSynchronized
  have hP : va_P (dC, dI) zs_cl [(a 0, .inr (0, [.ref (a 1), .ref (a 7), .int (zs_b up)])), (a 1, .inr (1, [.ref (a 2), .ref (a 3), .ref (a 4), .ref (a 5), .ref (a 6)])), (a 2, .inl (cI, 24, .inl nm)), (a 3, .inl (cI, 24, .inl hi)), (a 4, .inl (cI, 24, .inl ln)), (a 5, .inl (cZ, 24, .inl op)), (a 6, .inl (cI, 1536, .inl wd)), (a 7, .inr (1, [.ref (a 8), .ref (a 9), .ref (a 10), .ref (a 11), .ref (a 12)])), (a 8, .inl (cI, 24, .inl nm2)), (a 9, .inl (cI, 24, .inl hi2)), (a 10, .inl (cI, 24, .inl ln2)), (a 11, .inl (cZ, 24, .inl op2)), (a 12, .inl (cI, 1536, .inl wd2))] s.heap := hP
  have hl := lv_entry ([.ref (a 0), .int n]) (n := 2) (Nat.le_of_ble_eq_true rfl)
  rw [lg_entry_eq]
  generalize (lg_sl ([.ref (a 0), .int n]) ++ List.replicate (2 - (lg_sl ([.ref (a 0), .int n])).length) Slot.unset).toArray = ls at hl ⊢
  have hl : lv_has ls 2 [(0, .ref (a 0)), (1, .int n)] := hl
  refine lv_aload_n hx hb zd_X_isThere_0 rfl (lv_at hl 0 rfl) ?_
  refine va_get (D := (dC, dI)) (ci := 0) (v := .int (zs_b up)) (C := "ZoneShelf") (T := zs_T_X) (N := 3) hx hb hz zs_in_X hown hk.1 hP 0 rfl rfl 2 (by decide) (hz _ zq_54) (fun _ h9 => h9) rfl zd_X_isThere_1 ?_
  refine zi_eq (tgt := 32) hx hb zd_X_isThere_4 rfl (fun h1 => ?_) (fun h1 => ?_)
  · subst h1
    refine lv_iconst (v := 0) hx hb zd_X_isThere_32 (by decide) ?_
    exact zr_zret hx hb hr hlocks zd_X_isThere_33 rfl (show 0 = zs_b (zs_is false nm n) from by simp [zs_is, zs_b])
  · subst h1
    refine lv_iload_n hx hb zd_X_isThere_7 rfl (lv_at hl 1 rfl) ?_
    refine lv_if_lt (tgt := 32) hx hb zd_X_isThere_8 rfl (fun h2 => ?_) (fun h2 => ?_)
    · refine lv_iconst (v := 0) hx hb zd_X_isThere_32 (by decide) ?_
      exact zr_zret hx hb hr hlocks zd_X_isThere_33 rfl (show 0 = zs_b (zs_is true nm n) from by simp [zs_is, zs_b, h2])
    · refine lv_iload_n hx hb zd_X_isThere_11 rfl (lv_at hl 1 rfl) ?_
      refine lv_bipush (v := 24) hx hb zd_X_isThere_12 (by decide) ?_
      refine lv_icmp_ge (tgt := 32) hx hb zd_X_isThere_14 rfl (fun h3 => ?_) (fun h3 => ?_)
      · refine lv_iconst (v := 0) hx hb zd_X_isThere_32 (by decide) ?_
        exact zr_zret hx hb hr hlocks zd_X_isThere_33 rfl (show 0 = zs_b (zs_is true nm n) from by simp [zs_is, zs_b, h2, h3])
      · obtain ⟨j, hj, rfl⟩ := zs_ix h2 h3
        refine lv_aload_n hx hb zd_X_isThere_17 rfl (lv_at hl 0 rfl) ?_
        refine va_get (D := (dC, dI)) (ci := 0) (v := .ref (a 1)) (C := "ZoneShelf") (T := zs_T_X) (N := 3) hx hb hz zs_in_X hown hk.1 hP 0 rfl rfl 0 (by decide) (hz _ zq_52) (fun _ h9 => h9) rfl zd_X_isThere_18 ?_
        refine lv_iload_n hx hb zd_X_isThere_21 rfl (lv_at hl 1 rfl) ?_
        refine zc_rN (rest := []) [.int (nI j)] hx hb hml hown hz (zc_C_isTaken l dC dI cI cZ (a 1) (a 2) (a 3) (a 4) (a 5) (a 6) (nm, hi, ln, op, wd) j hj) zf_C_isTaken rfl rfl zv_9 zq_76 zq_3 ⟨Nat.le_of_ble_eq_true rfl, Nat.le_of_ble_eq_true rfl⟩ hk (hP.sub [1, 2, 3, 4, 5, 6] rfl) 0 1 rfl rfl rfl rfl hl.1 rfl (Nat.le_of_ble_eq_true rfl) zd_X_isThere_22 ⟨Nat.zero_le _, Nat.zero_le _⟩ (fun r4 e5 => ?_)
        obtain rfl : r4 = zs_b (zs_t nm j) := e5
        refine zi_eq (tgt := 32) hx hb zd_X_isThere_25 rfl (fun h6 => ?_) (fun h6 => ?_)
        · refine lv_iconst (v := 0) hx hb zd_X_isThere_32 (by decide) ?_
          exact zr_zret hx hb hr hlocks zd_X_isThere_33 rfl (show 0 = zs_b (zs_is true nm (nI j)) from by simp [zs_is, zs_b, h2, h3, nI_clamp (show j < 2 ^ 31 by omega), h6])
        · refine lv_iconst (v := 1) hx hb zd_X_isThere_28 (by decide) ?_
          refine lv_goto (tgt := 33) hx hb zd_X_isThere_29 rfl ?_
          exact zr_zret hx hb hr hlocks zd_X_isThere_33 rfl (show 1 = zs_b (zs_is true nm (nI j)) from by simp [zs_is, zs_b, h2, h3, nI_clamp (show j < 2 ^ 31 by omega), h6])
set_option maxHeartbeats 4000000 in
set_option maxRecDepth 100000 in
theorem zc_X_isFreeName (l : Launch) (dC : Nat → ClassId) (dI : Nat → Nat → Nat) (cI cZ : ClassId) (a : Nat → Nat) (u : zs_X) (n : Int32) : Met l zy_X_isFreeName (.code zy_X_isFreeName zb_X_isFreeName 2 (some .boolean) :: zs_w) ({ frames := 1, cells := 0, slots := 0, locals := 22 }) (va_Pc [.ref (a 0), .int n] (zs_r dC dI cI cZ (zs_wX cI cZ a u))) (vp_Si (fun r => r = zs_b (zs_fr u.2.1.1 n))) 0 0 (fun _ => False) := by
  obtain ⟨up, ⟨nm, hi, ln, op, wd⟩, ⟨nm2, hi2, ln2, op2, wd2⟩⟩ := u
  refine Met.ofW (cc := zb_X_isFreeName) (maxL := 2) (ret := (some .boolean)) (by decide) rfl ?_
  intro p e s m args below meth c s₁ B hml hv
  obtain ⟨rfl, hP, hk⟩ := hv
  have hx := B.exec
  have hb := B.bytes
  have hr := B.returns
  have hts := atoms_spec (ws := .code zy_X_isFreeName zb_X_isFreeName 2 (some .boolean) :: zs_w) B.pre
  have hz : ∀ w ∈ zs_w, w.before _ s = true := fun w h => hts w (List.mem_cons_of_mem _ h)
  have hown : s.vm.findClass "ZoneShelf" = some m.cls := findClass_of_methodNamed B.named
  have hlocks := B.notSynchronized
  have hP : va_P (dC, dI) zs_cl [(a 0, .inr (0, [.ref (a 1), .ref (a 7), .int (zs_b up)])), (a 1, .inr (1, [.ref (a 2), .ref (a 3), .ref (a 4), .ref (a 5), .ref (a 6)])), (a 2, .inl (cI, 24, .inl nm)), (a 3, .inl (cI, 24, .inl hi)), (a 4, .inl (cI, 24, .inl ln)), (a 5, .inl (cZ, 24, .inl op)), (a 6, .inl (cI, 1536, .inl wd)), (a 7, .inr (1, [.ref (a 8), .ref (a 9), .ref (a 10), .ref (a 11), .ref (a 12)])), (a 8, .inl (cI, 24, .inl nm2)), (a 9, .inl (cI, 24, .inl hi2)), (a 10, .inl (cI, 24, .inl ln2)), (a 11, .inl (cZ, 24, .inl op2)), (a 12, .inl (cI, 1536, .inl wd2))] s.heap := hP
  have hl := lv_entry ([.ref (a 0), .int n]) (n := 2) (Nat.le_of_ble_eq_true rfl)
  rw [lg_entry_eq]
  generalize (lg_sl ([.ref (a 0), .int n]) ++ List.replicate (2 - (lg_sl ([.ref (a 0), .int n])).length) Slot.unset).toArray = ls at hl ⊢
  have hl : lv_has ls 2 [(0, .ref (a 0)), (1, .int n)] := hl
  refine lv_iload_n hx hb zd_X_isFreeName_0 rfl (lv_at hl 1 rfl) ?_
  refine zc_rS (rest := []) [.int n] hx hb hml hown hz (zc_X_isName l dC dI cI cZ n) zf_X_isName rfl rfl zq_65 zq_66 ⟨Nat.le_of_ble_eq_true rfl, Nat.le_of_ble_eq_true rfl⟩ rfl hl.1 rfl (Nat.le_of_ble_eq_true rfl) zd_X_isFreeName_1 ⟨Nat.zero_le _, Nat.zero_le _⟩ (fun r1 e2 => ?_)
  obtain rfl : r1 = zs_b (zs_nam n) := e2
  refine zi_eq (tgt := 23) hx hb zd_X_isFreeName_4 rfl (fun h3 => ?_) (fun h3 => ?_)
  · refine lv_iconst (v := 0) hx hb zd_X_isFreeName_23 (by decide) ?_
    exact zr_zret hx hb hr hlocks zd_X_isFreeName_24 rfl (show 0 = zs_b (zs_fr nm n) from by simp [zs_fr, zs_b, h3])
  · refine lv_aload_n hx hb zd_X_isFreeName_7 rfl (lv_at hl 0 rfl) ?_
    refine va_get (D := (dC, dI)) (ci := 0) (v := .ref (a 1)) (C := "ZoneShelf") (T := zs_T_X) (N := 3) hx hb hz zs_in_X hown hk.1 hP 0 rfl rfl 0 (by decide) (hz _ zq_52) (fun _ h9 => h9) rfl zd_X_isFreeName_8 ?_
    refine lv_iload_n hx hb zd_X_isFreeName_11 rfl (lv_at hl 1 rfl) ?_
    refine zc_rN (rest := []) [.int n] hx hb hml hown hz (zc_C_numberOf l dC dI cI cZ (a 1) (a 2) (a 3) (a 4) (a 5) (a 6) (nm, hi, ln, op, wd) n) zf_C_numberOf rfl rfl zv_6 zq_68 zq_1 ⟨Nat.le_of_ble_eq_true rfl, Nat.le_of_ble_eq_true rfl⟩ hk (hP.sub [1, 2, 3, 4, 5, 6] rfl) 0 1 rfl rfl rfl rfl hl.1 rfl (Nat.le_of_ble_eq_true rfl) zd_X_isFreeName_12 ⟨Nat.zero_le _, Nat.zero_le _⟩ (fun r4 e5 => ?_)
    obtain rfl : r4 = zs_num nm n 24 0 := e5
    refine lv_iconst (v := (-1)) hx hb zd_X_isFreeName_15 (by decide) ?_
    refine lv_icmp_ne (tgt := 23) hx hb zd_X_isFreeName_16 rfl (fun h6 => ?_) (fun h6 => ?_)
    · refine lv_iconst (v := 0) hx hb zd_X_isFreeName_23 (by decide) ?_
      exact zr_zret hx hb hr hlocks zd_X_isFreeName_24 rfl (show 0 = zs_b (zs_fr nm n) from by simp [zs_fr, zs_b, h3, h6])
    · refine lv_iconst (v := 1) hx hb zd_X_isFreeName_19 (by decide) ?_
      refine lv_goto (tgt := 24) hx hb zd_X_isFreeName_20 rfl ?_
      exact zr_zret hx hb hr hlocks zd_X_isFreeName_24 rfl (show 1 = zs_b (zs_fr nm n) from by simp [zs_fr, zs_b, h3, h6])
set_option maxHeartbeats 4000000 in
set_option maxRecDepth 100000 in
theorem zc_X_roomIn (l : Launch) (dC : Nat → ClassId) (dI : Nat → Nat → Nat) (cI cZ : ClassId) (a : Nat → Nat) (u : zs_X) (j : Nat) (hj : j < 24) : Met l zy_X_roomIn (.code zy_X_roomIn zb_X_roomIn 2 (some .int) :: zs_w) ({ frames := 1, cells := 0, slots := 0, locals := 22 }) (va_Pc [.ref (a 0), .int (nI j)] (zs_r dC dI cI cZ (zs_wX cI cZ a u))) (vp_Si (fun r => r = zs_rm u.2.1.2.2.1 j)) 0 0 (fun _ => False) := by
  obtain ⟨up, ⟨nm, hi, ln, op, wd⟩, ⟨nm2, hi2, ln2, op2, wd2⟩⟩ := u
  refine Met.ofW (cc := zb_X_roomIn) (maxL := 2) (ret := (some .int)) (by decide) rfl ?_
  intro p e s m args below meth c s₁ B hml hv
  obtain ⟨rfl, hP, hk⟩ := hv
  have hx := B.exec
  have hb := B.bytes
  have hr := B.returns
  have hts := atoms_spec (ws := .code zy_X_roomIn zb_X_roomIn 2 (some .int) :: zs_w) B.pre
  have hz : ∀ w ∈ zs_w, w.before _ s = true := fun w h => hts w (List.mem_cons_of_mem _ h)
  have hown : s.vm.findClass "ZoneShelf" = some m.cls := findClass_of_methodNamed B.named
  have hlocks := B.notSynchronized
  have hP : va_P (dC, dI) zs_cl [(a 0, .inr (0, [.ref (a 1), .ref (a 7), .int (zs_b up)])), (a 1, .inr (1, [.ref (a 2), .ref (a 3), .ref (a 4), .ref (a 5), .ref (a 6)])), (a 2, .inl (cI, 24, .inl nm)), (a 3, .inl (cI, 24, .inl hi)), (a 4, .inl (cI, 24, .inl ln)), (a 5, .inl (cZ, 24, .inl op)), (a 6, .inl (cI, 1536, .inl wd)), (a 7, .inr (1, [.ref (a 8), .ref (a 9), .ref (a 10), .ref (a 11), .ref (a 12)])), (a 8, .inl (cI, 24, .inl nm2)), (a 9, .inl (cI, 24, .inl hi2)), (a 10, .inl (cI, 24, .inl ln2)), (a 11, .inl (cZ, 24, .inl op2)), (a 12, .inl (cI, 1536, .inl wd2))] s.heap := hP
  have hl := lv_entry ([.ref (a 0), .int (nI j)]) (n := 2) (Nat.le_of_ble_eq_true rfl)
  rw [lg_entry_eq]
  generalize (lg_sl ([.ref (a 0), .int (nI j)]) ++ List.replicate (2 - (lg_sl ([.ref (a 0), .int (nI j)])).length) Slot.unset).toArray = ls at hl ⊢
  have hl : lv_has ls 2 [(0, .ref (a 0)), (1, .int (nI j))] := hl
  refine lv_bipush (v := 64) hx hb zd_X_roomIn_0 (by decide) ?_
  refine lv_aload_n hx hb zd_X_roomIn_2 rfl (lv_at hl 0 rfl) ?_
  refine va_get (D := (dC, dI)) (ci := 0) (v := .ref (a 1)) (C := "ZoneShelf") (T := zs_T_X) (N := 3) hx hb hz zs_in_X hown hk.1 hP 0 rfl rfl 0 (by decide) (hz _ zq_52) (fun _ h9 => h9) rfl zd_X_roomIn_3 ?_
  refine va_getN (D := (dC, dI)) (ci := 1) (v := .ref (a 4)) (C := "ZoneShelf$Contents") (T := zs_T_C) (N := 5) hx hb hz zs_in_C hown hk.1 hP 1 rfl rfl 2 (by decide) (va_Nw.use rfl (hk.2 _ zv_3)) (fun _ h9 => h9) rfl zd_X_roomIn_6 ?_
  refine lv_iload_n hx hb zd_X_roomIn_9 rfl (lv_at hl 1 rfl) ?_
  refine zi_ald hx hb hk hP 4 (j := j) rfl (by omega) (by decide) zd_X_roomIn_10 ?_
  refine lv_isub hx hb zd_X_roomIn_11 ?_
  refine lv_sipush (v := 200) hx hb zd_X_roomIn_12 (by decide) ?_
  refine lv_aload_n hx hb zd_X_roomIn_15 rfl (lv_at hl 0 rfl) ?_
  refine va_get (D := (dC, dI)) (ci := 0) (v := .ref (a 1)) (C := "ZoneShelf") (T := zs_T_X) (N := 3) hx hb hz zs_in_X hown hk.1 hP 0 rfl rfl 0 (by decide) (hz _ zq_52) (fun _ h9 => h9) rfl zd_X_roomIn_16 ?_
  refine zc_rN (rest := [.int 200, .int (64 - (ln j))]) [] hx hb hml hown hz (zc_C_countWords l dC dI cI cZ (a 1) (a 2) (a 3) (a 4) (a 5) (a 6) (nm, hi, ln, op, wd) ) zf_C_countWords rfl rfl zv_10 zq_94 zq_7 ⟨Nat.le_of_ble_eq_true rfl, Nat.le_of_ble_eq_true rfl⟩ hk (hP.sub [1, 2, 3, 4, 5, 6] rfl) 0 1 rfl rfl rfl rfl hl.1 rfl (Nat.le_of_ble_eq_true rfl) zd_X_roomIn_19 ⟨Nat.zero_le _, Nat.zero_le _⟩ (fun r1 e2 => ?_)
  obtain rfl : r1 = zs_sum ln 24 0 0 := e2
  refine lv_isub hx hb zd_X_roomIn_22 ?_
  refine va_mmin hx hb (hml.trans hl.1.symm) hown (hz _ zq_96) (hz _ zq_97) (hz _ zq_22) (hz _ zq_98) (Nat.le_of_ble_eq_true rfl) (Nat.le_of_ble_eq_true rfl) (Nat.zero_le _) (Nat.zero_le _) zd_X_roomIn_23 ?_
  exact zr_iret hx hb hr hlocks zd_X_roomIn_26 (show (if 200 - (zs_sum ln 24 0 0) < 64 - (ln j) then 200 - (zs_sum ln 24 0 0) else 64 - (ln j)) = zs_rm ln j from by rfl)
set_option maxHeartbeats 4000000 in
set_option maxRecDepth 100000 in
theorem zc_X_tidy (l : Launch) (dC : Nat → ClassId) (dI : Nat → Nat → Nat) (cI cZ : ClassId) (a : Nat → Nat) (u : zs_X)  : Met l zy_X_tidy (.code zy_X_tidy zb_X_tidy 1 (some .boolean) :: zs_w) ({ frames := 0, cells := 0, slots := 0, locals := 0 }) (va_Pc [.ref (a 0)] (zs_r dC dI cI cZ (zs_wX cI cZ a u))) (vp_Si (fun r => r = zs_b u.1)) 0 0 (fun _ => False) := by
  obtain ⟨up, ⟨nm, hi, ln, op, wd⟩, ⟨nm2, hi2, ln2, op2, wd2⟩⟩ := u
  refine Met.ofW (cc := zb_X_tidy) (maxL := 1) (ret := (some .boolean)) (by decide) rfl ?_
  intro p e s m args below meth c s₁ B hml hv
  obtain ⟨rfl, hP, hk⟩ := hv
  have hx := B.exec
  have hb := B.bytes
  have hr := B.returns
  have hts := atoms_spec (ws := .code zy_X_tidy zb_X_tidy 1 (some .boolean) :: zs_w) B.pre
  have hz : ∀ w ∈ zs_w, w.before _ s = true := fun w h => hts w (List.mem_cons_of_mem _ h)
  have hown : s.vm.findClass "ZoneShelf" = some m.cls := findClass_of_methodNamed B.named
  have hlocks := B.notSynchronized
  have hP : va_P (dC, dI) zs_cl [(a 0, .inr (0, [.ref (a 1), .ref (a 7), .int (zs_b up)])), (a 1, .inr (1, [.ref (a 2), .ref (a 3), .ref (a 4), .ref (a 5), .ref (a 6)])), (a 2, .inl (cI, 24, .inl nm)), (a 3, .inl (cI, 24, .inl hi)), (a 4, .inl (cI, 24, .inl ln)), (a 5, .inl (cZ, 24, .inl op)), (a 6, .inl (cI, 1536, .inl wd)), (a 7, .inr (1, [.ref (a 8), .ref (a 9), .ref (a 10), .ref (a 11), .ref (a 12)])), (a 8, .inl (cI, 24, .inl nm2)), (a 9, .inl (cI, 24, .inl hi2)), (a 10, .inl (cI, 24, .inl ln2)), (a 11, .inl (cZ, 24, .inl op2)), (a 12, .inl (cI, 1536, .inl wd2))] s.heap := hP
  have hl := lv_entry ([.ref (a 0)]) (n := 1) (Nat.le_of_ble_eq_true rfl)
  rw [lg_entry_eq]
  generalize (lg_sl ([.ref (a 0)]) ++ List.replicate (1 - (lg_sl ([.ref (a 0)])).length) Slot.unset).toArray = ls at hl ⊢
  have hl : lv_has ls 1 [(0, .ref (a 0))] := hl
  refine lv_aload_n hx hb zd_X_tidy_0 rfl (lv_at hl 0 rfl) ?_
  refine va_get (D := (dC, dI)) (ci := 0) (v := .int (zs_b up)) (C := "ZoneShelf") (T := zs_T_X) (N := 3) hx hb hz zs_in_X hown hk.1 hP 0 rfl rfl 2 (by decide) (hz _ zq_54) (fun _ h9 => h9) rfl zd_X_tidy_1 ?_
  exact zr_zret hx hb hr hlocks zd_X_tidy_4 (zs_b_n _) (show (zs_b up) = zs_b up from by rfl)
set_option maxHeartbeats 4000000 in
set_option maxRecDepth 100000 in
theorem zc_X_isUp (l : Launch) (dC : Nat → ClassId) (dI : Nat → Nat → Nat) (cI cZ : ClassId) (a : Nat → Nat) (u : zs_X)  : Met l zy_X_isUp (.code zy_X_isUp zb_X_isUp 1 (some .boolean) :: zs_w) ({ frames := 0, cells := 0, slots := 0, locals := 0 }) (va_Pc [.ref (a 0)] (zs_r dC dI cI cZ (zs_wX cI cZ a u))) (vp_Si (fun r => r = zs_b u.1)) 0 0 (fun _ => False) := by
  obtain ⟨up, ⟨nm, hi, ln, op, wd⟩, ⟨nm2, hi2, ln2, op2, wd2⟩⟩ := u
  refine Met.ofW (cc := zb_X_isUp) (maxL := 1) (ret := (some .boolean)) (by decide) rfl ?_
  intro p e s m args below meth c s₁ B hml hv
  obtain ⟨rfl, hP, hk⟩ := hv
  have hx := B.exec
  have hb := B.bytes
  have hr := B.returns
  have hts := atoms_spec (ws := .code zy_X_isUp zb_X_isUp 1 (some .boolean) :: zs_w) B.pre
  have hz : ∀ w ∈ zs_w, w.before _ s = true := fun w h => hts w (List.mem_cons_of_mem _ h)
  have hown : s.vm.findClass "ZoneShelf" = some m.cls := findClass_of_methodNamed B.named
  have hlocks := B.notSynchronized
  have hP : va_P (dC, dI) zs_cl [(a 0, .inr (0, [.ref (a 1), .ref (a 7), .int (zs_b up)])), (a 1, .inr (1, [.ref (a 2), .ref (a 3), .ref (a 4), .ref (a 5), .ref (a 6)])), (a 2, .inl (cI, 24, .inl nm)), (a 3, .inl (cI, 24, .inl hi)), (a 4, .inl (cI, 24, .inl ln)), (a 5, .inl (cZ, 24, .inl op)), (a 6, .inl (cI, 1536, .inl wd)), (a 7, .inr (1, [.ref (a 8), .ref (a 9), .ref (a 10), .ref (a 11), .ref (a 12)])), (a 8, .inl (cI, 24, .inl nm2)), (a 9, .inl (cI, 24, .inl hi2)), (a 10, .inl (cI, 24, .inl ln2)), (a 11, .inl (cZ, 24, .inl op2)), (a 12, .inl (cI, 1536, .inl wd2))] s.heap := hP
  have hl := lv_entry ([.ref (a 0)]) (n := 1) (Nat.le_of_ble_eq_true rfl)
  rw [lg_entry_eq]
  generalize (lg_sl ([.ref (a 0)]) ++ List.replicate (1 - (lg_sl ([.ref (a 0)])).length) Slot.unset).toArray = ls at hl ⊢
  have hl : lv_has ls 1 [(0, .ref (a 0))] := hl
  refine lv_aload_n hx hb zd_X_isUp_0 rfl (lv_at hl 0 rfl) ?_
  refine va_get (D := (dC, dI)) (ci := 0) (v := .int (zs_b up)) (C := "ZoneShelf") (T := zs_T_X) (N := 3) hx hb hz zs_in_X hown hk.1 hP 0 rfl rfl 2 (by decide) (hz _ zq_54) (fun _ h9 => h9) rfl zd_X_isUp_1 ?_
  exact zr_zret hx hb hr hlocks zd_X_isUp_4 (zs_b_n _) (show (zs_b up) = zs_b up from by rfl)
set_option maxHeartbeats 4000000 in
set_option maxRecDepth 100000 in
theorem zc_X_objects (l : Launch) (dC : Nat → ClassId) (dI : Nat → Nat → Nat) (cI cZ : ClassId) (a : Nat → Nat) (u : zs_X)  : Met l zy_X_objects (.code zy_X_objects zb_X_objects 1 (some .int) :: zs_w) ({ frames := 2, cells := 0, slots := 0, locals := 43 }) (va_Pc [.ref (a 0)] (zs_r dC dI cI cZ (zs_wX cI cZ a u))) (vp_Si (fun r => r = zs_objects u)) 0 0 (fun _ => False) := by
  obtain ⟨up, ⟨nm, hi, ln, op, wd⟩, ⟨nm2, hi2, ln2, op2, wd2⟩⟩ := u
  refine Met.ofW (cc := zb_X_objects) (maxL := 1) (ret := (some .int)) (by decide) rfl ?_
  intro p e s m args below meth c s₁ B hml hv
  obtain ⟨rfl, hP, hk⟩ := hv
  have hx := B.exec
  have hb := B.bytes
  have hr := B.returns
  have hts := atoms_spec (ws := .code zy_X_objects zb_X_objects 1 (some .int) :: zs_w) B.pre
  have hz : ∀ w ∈ zs_w, w.before _ s = true := fun w h => hts w (List.mem_cons_of_mem _ h)
  have hown : s.vm.findClass "ZoneShelf" = some m.cls := findClass_of_methodNamed B.named
  have hlocks := B.notSynchronized
  have hP : va_P (dC, dI) zs_cl [(a 0, .inr (0, [.ref (a 1), .ref (a 7), .int (zs_b up)])), (a 1, .inr (1, [.ref (a 2), .ref (a 3), .ref (a 4), .ref (a 5), .ref (a 6)])), (a 2, .inl (cI, 24, .inl nm)), (a 3, .inl (cI, 24, .inl hi)), (a 4, .inl (cI, 24, .inl ln)), (a 5, .inl (cZ, 24, .inl op)), (a 6, .inl (cI, 1536, .inl wd)), (a 7, .inr (1, [.ref (a 8), .ref (a 9), .ref (a 10), .ref (a 11), .ref (a 12)])), (a 8, .inl (cI, 24, .inl nm2)), (a 9, .inl (cI, 24, .inl hi2)), (a 10, .inl (cI, 24, .inl ln2)), (a 11, .inl (cZ, 24, .inl op2)), (a 12, .inl (cI, 1536, .inl wd2))] s.heap := hP
  have hl := lv_entry ([.ref (a 0)]) (n := 1) (Nat.le_of_ble_eq_true rfl)
  rw [lg_entry_eq]
  generalize (lg_sl ([.ref (a 0)]) ++ List.replicate (1 - (lg_sl ([.ref (a 0)])).length) Slot.unset).toArray = ls at hl ⊢
  have hl : lv_has ls 1 [(0, .ref (a 0))] := hl
  refine lv_aload_n hx hb zd_X_objects_0 rfl (lv_at hl 0 rfl) ?_
  refine va_get (D := (dC, dI)) (ci := 0) (v := .int (zs_b up)) (C := "ZoneShelf") (T := zs_T_X) (N := 3) hx hb hz zs_in_X hown hk.1 hP 0 rfl rfl 2 (by decide) (hz _ zq_54) (fun _ h9 => h9) rfl zd_X_objects_1 ?_
  refine zi_eq (tgt := 17) hx hb zd_X_objects_4 rfl (fun h1 => ?_) (fun h1 => ?_)
  · subst h1
    refine lv_iconst (v := 0) hx hb zd_X_objects_17 (by decide) ?_
    exact zr_iret hx hb hr hlocks zd_X_objects_18 (show 0 = zs_objects (false, (nm, hi, ln, op, wd), (nm2, hi2, ln2, op2, wd2)) from by simp [zs_objects])
  · subst h1
    refine lv_aload_n hx hb zd_X_objects_7 rfl (lv_at hl 0 rfl) ?_
    refine va_get (D := (dC, dI)) (ci := 0) (v := .ref (a 1)) (C := "ZoneShelf") (T := zs_T_X) (N := 3) hx hb hz zs_in_X hown hk.1 hP 0 rfl rfl 0 (by decide) (hz _ zq_52) (fun _ h9 => h9) rfl zd_X_objects_8 ?_
    refine zc_rN (rest := []) [] hx hb hml hown hz (zc_C_countObjects l dC dI cI cZ (a 1) (a 2) (a 3) (a 4) (a 5) (a 6) (nm, hi, ln, op, wd) ) zf_C_countObjects rfl rfl zv_14 zq_150 zq_11 ⟨Nat.le_of_ble_eq_true rfl, Nat.le_of_ble_eq_true rfl⟩ hk (hP.sub [1, 2, 3, 4, 5, 6] rfl) 0 1 rfl rfl rfl rfl hl.1 rfl (Nat.le_of_ble_eq_true rfl) zd_X_objects_11 ⟨Nat.zero_le _, Nat.zero_le _⟩ (fun r2 e3 => ?_)
    obtain rfl : r2 = zs_cnt nm 24 0 0 := e3
    refine lv_goto (tgt := 18) hx hb zd_X_objects_14 rfl ?_
    exact zr_iret hx hb hr hlocks zd_X_objects_18 (show (zs_cnt nm 24 0 0) = zs_objects (true, (nm, hi, ln, op, wd), (nm2, hi2, ln2, op2, wd2)) from by simp [zs_objects])
set_option maxHeartbeats 4000000 in
set_option maxRecDepth 100000 in
theorem zc_X_room (l : Launch) (dC : Nat → ClassId) (dI : Nat → Nat → Nat) (cI cZ : ClassId) (a : Nat → Nat) (u : zs_X)  : Met l zy_X_room (.code zy_X_room zb_X_room 1 (some .int) :: zs_w) ({ frames := 1, cells := 0, slots := 0, locals := 22 }) (va_Pc [.ref (a 0)] (zs_r dC dI cI cZ (zs_wX cI cZ a u))) (vp_Si (fun r => r = zs_room u)) 0 0 (fun _ => False) := by
  obtain ⟨up, ⟨nm, hi, ln, op, wd⟩, ⟨nm2, hi2, ln2, op2, wd2⟩⟩ := u
  refine Met.ofW (cc := zb_X_room) (maxL := 1) (ret := (some .int)) (by decide) rfl ?_
  intro p e s m args below meth c s₁ B hml hv
  obtain ⟨rfl, hP, hk⟩ := hv
  have hx := B.exec
  have hb := B.bytes
  have hr := B.returns
  have hts := atoms_spec (ws := .code zy_X_room zb_X_room 1 (some .int) :: zs_w) B.pre
  have hz : ∀ w ∈ zs_w, w.before _ s = true := fun w h => hts w (List.mem_cons_of_mem _ h)
  have hown : s.vm.findClass "ZoneShelf" = some m.cls := findClass_of_methodNamed B.named
  have hlocks := B.notSynchronized
  have hP : va_P (dC, dI) zs_cl [(a 0, .inr (0, [.ref (a 1), .ref (a 7), .int (zs_b up)])), (a 1, .inr (1, [.ref (a 2), .ref (a 3), .ref (a 4), .ref (a 5), .ref (a 6)])), (a 2, .inl (cI, 24, .inl nm)), (a 3, .inl (cI, 24, .inl hi)), (a 4, .inl (cI, 24, .inl ln)), (a 5, .inl (cZ, 24, .inl op)), (a 6, .inl (cI, 1536, .inl wd)), (a 7, .inr (1, [.ref (a 8), .ref (a 9), .ref (a 10), .ref (a 11), .ref (a 12)])), (a 8, .inl (cI, 24, .inl nm2)), (a 9, .inl (cI, 24, .inl hi2)), (a 10, .inl (cI, 24, .inl ln2)), (a 11, .inl (cZ, 24, .inl op2)), (a 12, .inl (cI, 1536, .inl wd2))] s.heap := hP
  have hl := lv_entry ([.ref (a 0)]) (n := 1) (Nat.le_of_ble_eq_true rfl)
  rw [lg_entry_eq]
  generalize (lg_sl ([.ref (a 0)]) ++ List.replicate (1 - (lg_sl ([.ref (a 0)])).length) Slot.unset).toArray = ls at hl ⊢
  have hl : lv_has ls 1 [(0, .ref (a 0))] := hl
  refine lv_aload_n hx hb zd_X_room_0 rfl (lv_at hl 0 rfl) ?_
  refine va_get (D := (dC, dI)) (ci := 0) (v := .int (zs_b up)) (C := "ZoneShelf") (T := zs_T_X) (N := 3) hx hb hz zs_in_X hown hk.1 hP 0 rfl rfl 2 (by decide) (hz _ zq_54) (fun _ h9 => h9) rfl zd_X_room_1 ?_
  refine zi_eq (tgt := 21) hx hb zd_X_room_4 rfl (fun h1 => ?_) (fun h1 => ?_)
  · subst h1
    refine lv_iconst (v := 0) hx hb zd_X_room_21 (by decide) ?_
    exact zr_iret hx hb hr hlocks zd_X_room_22 (show 0 = zs_room (false, (nm, hi, ln, op, wd), (nm2, hi2, ln2, op2, wd2)) from by simp [zs_room])
  · subst h1
    refine lv_sipush (v := 200) hx hb zd_X_room_7 (by decide) ?_
    refine lv_aload_n hx hb zd_X_room_10 rfl (lv_at hl 0 rfl) ?_
    refine va_get (D := (dC, dI)) (ci := 0) (v := .ref (a 1)) (C := "ZoneShelf") (T := zs_T_X) (N := 3) hx hb hz zs_in_X hown hk.1 hP 0 rfl rfl 0 (by decide) (hz _ zq_52) (fun _ h9 => h9) rfl zd_X_room_11 ?_
    refine zc_rN (rest := [.int 200]) [] hx hb hml hown hz (zc_C_countWords l dC dI cI cZ (a 1) (a 2) (a 3) (a 4) (a 5) (a 6) (nm, hi, ln, op, wd) ) zf_C_countWords rfl rfl zv_10 zq_94 zq_7 ⟨Nat.le_of_ble_eq_true rfl, Nat.le_of_ble_eq_true rfl⟩ hk (hP.sub [1, 2, 3, 4, 5, 6] rfl) 0 1 rfl rfl rfl rfl hl.1 rfl (Nat.le_of_ble_eq_true rfl) zd_X_room_14 ⟨Nat.zero_le _, Nat.zero_le _⟩ (fun r2 e3 => ?_)
    obtain rfl : r2 = zs_sum ln 24 0 0 := e3
    refine lv_isub hx hb zd_X_room_17 ?_
    refine lv_goto (tgt := 22) hx hb zd_X_room_18 rfl ?_
    exact zr_iret hx hb hr hlocks zd_X_room_22 (show (200 - (zs_sum ln 24 0 0)) = zs_room (true, (nm, hi, ln, op, wd), (nm2, hi2, ln2, op2, wd2)) from by simp [zs_room])
set_option maxHeartbeats 4000000 in
set_option maxRecDepth 100000 in
theorem zc_X_find (l : Launch) (dC : Nat → ClassId) (dI : Nat → Nat → Nat) (cI cZ : ClassId) (a : Nat → Nat) (u : zs_X) (n : Int32) : Met l zy_X_find (.code zy_X_find zb_X_find 2 (some .int) :: zs_w) ({ frames := 1, cells := 0, slots := 0, locals := 22 }) (va_Pc [.ref (a 0), .int n] (zs_r dC dI cI cZ (zs_wX cI cZ a u))) (vp_Si (fun r => r = zs_find u n)) 0 0 (fun _ => False) := by
  obtain ⟨up, ⟨nm, hi, ln, op, wd⟩, ⟨nm2, hi2, ln2, op2, wd2⟩⟩ := u
  refine Met.ofW (cc := zb_X_find) (maxL := 2) (ret := (some .int)) (by decide) rfl ?_
  intro p e s m args below meth c s₁ B hml hv
  obtain ⟨rfl, hP, hk⟩ := hv
  have hx := B.exec
  have hb := B.bytes
  have hr := B.returns
  have hts := atoms_spec (ws := .code zy_X_find zb_X_find 2 (some .int) :: zs_w) B.pre
  have hz : ∀ w ∈ zs_w, w.before _ s = true := fun w h => hts w (List.mem_cons_of_mem _ h)
  have hown : s.vm.findClass "ZoneShelf" = some m.cls := findClass_of_methodNamed B.named
  have hlocks := B.notSynchronized
  have hP : va_P (dC, dI) zs_cl [(a 0, .inr (0, [.ref (a 1), .ref (a 7), .int (zs_b up)])), (a 1, .inr (1, [.ref (a 2), .ref (a 3), .ref (a 4), .ref (a 5), .ref (a 6)])), (a 2, .inl (cI, 24, .inl nm)), (a 3, .inl (cI, 24, .inl hi)), (a 4, .inl (cI, 24, .inl ln)), (a 5, .inl (cZ, 24, .inl op)), (a 6, .inl (cI, 1536, .inl wd)), (a 7, .inr (1, [.ref (a 8), .ref (a 9), .ref (a 10), .ref (a 11), .ref (a 12)])), (a 8, .inl (cI, 24, .inl nm2)), (a 9, .inl (cI, 24, .inl hi2)), (a 10, .inl (cI, 24, .inl ln2)), (a 11, .inl (cZ, 24, .inl op2)), (a 12, .inl (cI, 1536, .inl wd2))] s.heap := hP
  have hl := lv_entry ([.ref (a 0), .int n]) (n := 2) (Nat.le_of_ble_eq_true rfl)
  rw [lg_entry_eq]
  generalize (lg_sl ([.ref (a 0), .int n]) ++ List.replicate (2 - (lg_sl ([.ref (a 0), .int n])).length) Slot.unset).toArray = ls at hl ⊢
  have hl : lv_has ls 2 [(0, .ref (a 0)), (1, .int n)] := hl
  refine lv_aload_n hx hb zd_X_find_0 rfl (lv_at hl 0 rfl) ?_
  refine va_get (D := (dC, dI)) (ci := 0) (v := .int (zs_b up)) (C := "ZoneShelf") (T := zs_T_X) (N := 3) hx hb hz zs_in_X hown hk.1 hP 0 rfl rfl 2 (by decide) (hz _ zq_54) (fun _ h9 => h9) rfl zd_X_find_1 ?_
  refine zi_eq (tgt := 25) hx hb zd_X_find_4 rfl (fun h1 => ?_) (fun h1 => ?_)
  · subst h1
    refine lv_iconst (v := (-1)) hx hb zd_X_find_25 (by decide) ?_
    exact zr_iret hx hb hr hlocks zd_X_find_26 (show (-1) = zs_find (false, (nm, hi, ln, op, wd), (nm2, hi2, ln2, op2, wd2)) n from by simp [zs_find])
  · subst h1
    refine lv_iload_n hx hb zd_X_find_7 rfl (lv_at hl 1 rfl) ?_
    refine zc_rS (rest := []) [.int n] hx hb hml hown hz (zc_X_isName l dC dI cI cZ n) zf_X_isName rfl rfl zq_65 zq_66 ⟨Nat.le_of_ble_eq_true rfl, Nat.le_of_ble_eq_true rfl⟩ rfl hl.1 rfl (Nat.le_of_ble_eq_true rfl) zd_X_find_8 ⟨Nat.zero_le _, Nat.zero_le _⟩ (fun r2 e3 => ?_)
    obtain rfl : r2 = zs_b (zs_nam n) := e3
    refine zi_eq (tgt := 25) hx hb zd_X_find_11 rfl (fun h4 => ?_) (fun h4 => ?_)
    · refine lv_iconst (v := (-1)) hx hb zd_X_find_25 (by decide) ?_
      exact zr_iret hx hb hr hlocks zd_X_find_26 (show (-1) = zs_find (true, (nm, hi, ln, op, wd), (nm2, hi2, ln2, op2, wd2)) n from by simp [zs_find, h4])
    · refine lv_aload_n hx hb zd_X_find_14 rfl (lv_at hl 0 rfl) ?_
      refine va_get (D := (dC, dI)) (ci := 0) (v := .ref (a 1)) (C := "ZoneShelf") (T := zs_T_X) (N := 3) hx hb hz zs_in_X hown hk.1 hP 0 rfl rfl 0 (by decide) (hz _ zq_52) (fun _ h9 => h9) rfl zd_X_find_15 ?_
      refine lv_iload_n hx hb zd_X_find_18 rfl (lv_at hl 1 rfl) ?_
      refine zc_rN (rest := []) [.int n] hx hb hml hown hz (zc_C_numberOf l dC dI cI cZ (a 1) (a 2) (a 3) (a 4) (a 5) (a 6) (nm, hi, ln, op, wd) n) zf_C_numberOf rfl rfl zv_6 zq_68 zq_1 ⟨Nat.le_of_ble_eq_true rfl, Nat.le_of_ble_eq_true rfl⟩ hk (hP.sub [1, 2, 3, 4, 5, 6] rfl) 0 1 rfl rfl rfl rfl hl.1 rfl (Nat.le_of_ble_eq_true rfl) zd_X_find_19 ⟨Nat.zero_le _, Nat.zero_le _⟩ (fun r5 e6 => ?_)
      obtain rfl : r5 = zs_num nm n 24 0 := e6
      refine lv_goto (tgt := 26) hx hb zd_X_find_22 rfl ?_
      exact zr_iret hx hb hr hlocks zd_X_find_26 (show (zs_num nm n 24 0) = zs_find (true, (nm, hi, ln, op, wd), (nm2, hi2, ln2, op2, wd2)) n from by simp [zs_find, h4])
set_option maxHeartbeats 4000000 in
set_option maxRecDepth 100000 in
theorem zc_X_list (l : Launch) (dC : Nat → ClassId) (dI : Nat → Nat → Nat) (cI cZ : ClassId) (a : Nat → Nat) (u : zs_X) (k : Int32) : Met l zy_X_list (.code zy_X_list zb_X_list 2 (some .int) :: zs_w) ({ frames := 3, cells := 0, slots := 0, locals := 66 }) (va_Pc [.ref (a 0), .int k] (zs_r dC dI cI cZ (zs_wX cI cZ a u))) (vp_Si (fun r => r = zs_list u k)) 0 0 (fun _ => False) := by
  obtain ⟨up, ⟨nm, hi, ln, op, wd⟩, ⟨nm2, hi2, ln2, op2, wd2⟩⟩ := u
  refine Met.ofW (cc := zb_X_list) (maxL := 2) (ret := (some .int)) (by decide) rfl ?_
  intro p e s m args below meth c s₁ B hml hv
  obtain ⟨rfl, hP, hk⟩ := hv
  have hx := B.exec
  have hb := B.bytes
  have hr := B.returns
  have hts := atoms_spec (ws := .code zy_X_list zb_X_list 2 (some .int) :: zs_w) B.pre
  have hz : ∀ w ∈ zs_w, w.before _ s = true := fun w h => hts w (List.mem_cons_of_mem _ h)
  have hown : s.vm.findClass "ZoneShelf" = some m.cls := findClass_of_methodNamed B.named
  have hlocks := B.notSynchronized
  have hP : va_P (dC, dI) zs_cl [(a 0, .inr (0, [.ref (a 1), .ref (a 7), .int (zs_b up)])), (a 1, .inr (1, [.ref (a 2), .ref (a 3), .ref (a 4), .ref (a 5), .ref (a 6)])), (a 2, .inl (cI, 24, .inl nm)), (a 3, .inl (cI, 24, .inl hi)), (a 4, .inl (cI, 24, .inl ln)), (a 5, .inl (cZ, 24, .inl op)), (a 6, .inl (cI, 1536, .inl wd)), (a 7, .inr (1, [.ref (a 8), .ref (a 9), .ref (a 10), .ref (a 11), .ref (a 12)])), (a 8, .inl (cI, 24, .inl nm2)), (a 9, .inl (cI, 24, .inl hi2)), (a 10, .inl (cI, 24, .inl ln2)), (a 11, .inl (cZ, 24, .inl op2)), (a 12, .inl (cI, 1536, .inl wd2))] s.heap := hP
  have hl := lv_entry ([.ref (a 0), .int k]) (n := 2) (Nat.le_of_ble_eq_true rfl)
  rw [lg_entry_eq]
  generalize (lg_sl ([.ref (a 0), .int k]) ++ List.replicate (2 - (lg_sl ([.ref (a 0), .int k])).length) Slot.unset).toArray = ls at hl ⊢
  have hl : lv_has ls 2 [(0, .ref (a 0)), (1, .int k)] := hl
  refine lv_aload_n hx hb zd_X_list_0 rfl (lv_at hl 0 rfl) ?_
  refine va_get (D := (dC, dI)) (ci := 0) (v := .int (zs_b up)) (C := "ZoneShelf") (T := zs_T_X) (N := 3) hx hb hz zs_in_X hown hk.1 hP 0 rfl rfl 2 (by decide) (hz _ zq_54) (fun _ h9 => h9) rfl zd_X_list_1 ?_
  refine zi_eq (tgt := 18) hx hb zd_X_list_4 rfl (fun h1 => ?_) (fun h1 => ?_)
  · subst h1
    refine lv_iconst (v := (-1)) hx hb zd_X_list_18 (by decide) ?_
    exact zr_iret hx hb hr hlocks zd_X_list_19 (show (-1) = zs_list (false, (nm, hi, ln, op, wd), (nm2, hi2, ln2, op2, wd2)) k from by simp [zs_list])
  · subst h1
    refine lv_aload_n hx hb zd_X_list_7 rfl (lv_at hl 0 rfl) ?_
    refine va_get (D := (dC, dI)) (ci := 0) (v := .ref (a 1)) (C := "ZoneShelf") (T := zs_T_X) (N := 3) hx hb hz zs_in_X hown hk.1 hP 0 rfl rfl 0 (by decide) (hz _ zq_52) (fun _ h9 => h9) rfl zd_X_list_8 ?_
    refine lv_iload_n hx hb zd_X_list_11 rfl (lv_at hl 1 rfl) ?_
    refine zc_rN (rest := []) [.int k] hx hb hml hown hz (zc_C_numberAtRank l dC dI cI cZ (a 1) (a 2) (a 3) (a 4) (a 5) (a 6) (nm, hi, ln, op, wd) k) zf_C_numberAtRank rfl rfl zv_15 zq_172 zq_12 ⟨Nat.le_of_ble_eq_true rfl, Nat.le_of_ble_eq_true rfl⟩ hk (hP.sub [1, 2, 3, 4, 5, 6] rfl) 0 1 rfl rfl rfl rfl hl.1 rfl (Nat.le_of_ble_eq_true rfl) zd_X_list_12 ⟨Nat.zero_le _, Nat.zero_le _⟩ (fun r2 e3 => ?_)
    obtain rfl : r2 = zs_rank nm k 24 0 := e3
    refine lv_goto (tgt := 19) hx hb zd_X_list_15 rfl ?_
    exact zr_iret hx hb hr hlocks zd_X_list_19 (show (zs_rank nm k 24 0) = zs_list (true, (nm, hi, ln, op, wd), (nm2, hi2, ln2, op2, wd2)) k from by simp [zs_list])
set_option maxHeartbeats 4000000 in
set_option maxRecDepth 100000 in
theorem zc_X_object (l : Launch) (dC : Nat → ClassId) (dI : Nat → Nat → Nat) (cI cZ : ClassId) (a : Nat → Nat) (u : zs_X) (o w : Int32) : Met l zy_X_object (.code zy_X_object zb_X_object 3 (some .int) :: zs_w) ({ frames := 2, cells := 0, slots := 0, locals := 42 }) (va_Pc [.ref (a 0), .int o, .int w] (zs_r dC dI cI cZ (zs_wX cI cZ a u))) (vp_Si (fun r => r = zs_object u o w)) 0 0 (fun _ => False) := by
  obtain ⟨up, ⟨nm, hi, ln, op, wd⟩, ⟨nm2, hi2, ln2, op2, wd2⟩⟩ := u
  refine Met.ofW (cc := zb_X_object) (maxL := 3) (ret := (some .int)) (by decide) rfl ?_
  intro p e s m args below meth c s₁ B hml hv
  obtain ⟨rfl, hP, hk⟩ := hv
  have hx := B.exec
  have hb := B.bytes
  have hr := B.returns
  have hts := atoms_spec (ws := .code zy_X_object zb_X_object 3 (some .int) :: zs_w) B.pre
  have hz : ∀ w ∈ zs_w, w.before _ s = true := fun w h => hts w (List.mem_cons_of_mem _ h)
  have hown : s.vm.findClass "ZoneShelf" = some m.cls := findClass_of_methodNamed B.named
  have hlocks := B.notSynchronized
  have hP : va_P (dC, dI) zs_cl [(a 0, .inr (0, [.ref (a 1), .ref (a 7), .int (zs_b up)])), (a 1, .inr (1, [.ref (a 2), .ref (a 3), .ref (a 4), .ref (a 5), .ref (a 6)])), (a 2, .inl (cI, 24, .inl nm)), (a 3, .inl (cI, 24, .inl hi)), (a 4, .inl (cI, 24, .inl ln)), (a 5, .inl (cZ, 24, .inl op)), (a 6, .inl (cI, 1536, .inl wd)), (a 7, .inr (1, [.ref (a 8), .ref (a 9), .ref (a 10), .ref (a 11), .ref (a 12)])), (a 8, .inl (cI, 24, .inl nm2)), (a 9, .inl (cI, 24, .inl hi2)), (a 10, .inl (cI, 24, .inl ln2)), (a 11, .inl (cZ, 24, .inl op2)), (a 12, .inl (cI, 1536, .inl wd2))] s.heap := hP
  have hl := lv_entry ([.ref (a 0), .int o, .int w]) (n := 3) (Nat.le_of_ble_eq_true rfl)
  rw [lg_entry_eq]
  generalize (lg_sl ([.ref (a 0), .int o, .int w]) ++ List.replicate (3 - (lg_sl ([.ref (a 0), .int o, .int w])).length) Slot.unset).toArray = ls at hl ⊢
  have hl : lv_has ls 3 [(0, .ref (a 0)), (1, .int o), (2, .int w)] := hl
  refine lv_aload_n hx hb zd_X_object_0 rfl (lv_at hl 0 rfl) ?_
  refine lv_iload_n hx hb zd_X_object_1 rfl (lv_at hl 1 rfl) ?_
  refine zc_rV (rest := []) [.int o] hx hb hml hown hz (zc_X_isThere l dC dI cI cZ a (up, (nm, hi, ln, op, wd), (nm2, hi2, ln2, op2, wd2)) o) zf_X_isThere rfl rfl zq_88 zq_89 zq_5 ⟨Nat.le_of_ble_eq_true rfl, Nat.le_of_ble_eq_true rfl⟩ hk (hP.sub [0, 1, 2, 3, 4, 5, 6, 7, 8, 9, 10, 11, 12] rfl) 0 0 rfl rfl rfl rfl hl.1 rfl (Nat.le_of_ble_eq_true rfl) zd_X_object_2 ⟨Nat.zero_le _, Nat.zero_le _⟩ (fun r1 e2 => ?_)
  obtain rfl : r1 = zs_b (zs_is up nm o) := e2
  refine zi_ne (tgt := 10) hx hb zd_X_object_5 rfl (fun h3 => ?_) (fun h3 => ?_)
  · obtain ⟨j, hj, rfl, hup, htk⟩ := zs_is_t h3
    refine lv_iload_n hx hb zd_X_object_10 rfl (lv_at hl 2 rfl) ?_
    by_cases c0 : w = 0
    · refine lv_tableIn (off := 29) (tgt := 40) hx hb zd_X_object_11 (by rw [c0]; decide) (by rw [c0]; decide) (by rw [c0]; rfl) rfl ?_
      refine lv_aload_n hx hb zd_X_object_40 rfl (lv_at hl 0 rfl) ?_
      refine va_get (D := (dC, dI)) (ci := 0) (v := .ref (a 1)) (C := "ZoneShelf") (T := zs_T_X) (N := 3) hx hb hz zs_in_X hown hk.1 hP 0 rfl rfl 0 (by decide) (hz _ zq_52) (fun _ h9 => h9) rfl zd_X_object_41 ?_
      refine va_getN (D := (dC, dI)) (ci := 1) (v := .ref (a 2)) (C := "ZoneShelf$Contents") (T := zs_T_C) (N := 5) hx hb hz zs_in_C hown hk.1 hP 1 rfl rfl 0 (by decide) (va_Nw.use rfl (hk.2 _ zv_1)) (fun _ h9 => h9) rfl zd_X_object_44 ?_
      refine lv_iload_n hx hb zd_X_object_47 rfl (lv_at hl 1 rfl) ?_
      refine zi_ald hx hb hk hP 2 (j := j) rfl (by omega) (by decide) zd_X_object_48 ?_
      exact zr_iret hx hb hr hlocks zd_X_object_49 (show (nm j) = zs_object (up, (nm, hi, ln, op, wd), (nm2, hi2, ln2, op2, wd2)) (nI j) w from by simp only [zs_object]; rw [if_pos h3, if_pos c0, nI_clamp (show j < 2 ^ 31 by omega)])
    · by_cases c1 : w = 1
      · refine lv_tableIn (off := 39) (tgt := 50) hx hb zd_X_object_11 (by rw [c1]; decide) (by rw [c1]; decide) (by rw [c1]; rfl) rfl ?_
        refine lv_aload_n hx hb zd_X_object_50 rfl (lv_at hl 0 rfl) ?_
        refine va_get (D := (dC, dI)) (ci := 0) (v := .ref (a 1)) (C := "ZoneShelf") (T := zs_T_X) (N := 3) hx hb hz zs_in_X hown hk.1 hP 0 rfl rfl 0 (by decide) (hz _ zq_52) (fun _ h9 => h9) rfl zd_X_object_51 ?_
        refine va_getN (D := (dC, dI)) (ci := 1) (v := .ref (a 3)) (C := "ZoneShelf$Contents") (T := zs_T_C) (N := 5) hx hb hz zs_in_C hown hk.1 hP 1 rfl rfl 1 (by decide) (va_Nw.use rfl (hk.2 _ zv_2)) (fun _ h9 => h9) rfl zd_X_object_54 ?_
        refine lv_iload_n hx hb zd_X_object_57 rfl (lv_at hl 1 rfl) ?_
        refine zi_ald hx hb hk hP 3 (j := j) rfl (by omega) (by decide) zd_X_object_58 ?_
        exact zr_iret hx hb hr hlocks zd_X_object_59 (show (hi j) = zs_object (up, (nm, hi, ln, op, wd), (nm2, hi2, ln2, op2, wd2)) (nI j) w from by simp only [zs_object]; rw [if_pos h3, if_neg c0, if_pos c1, nI_clamp (show j < 2 ^ 31 by omega)])
      · by_cases c2 : w = 2
        · refine lv_tableIn (off := 49) (tgt := 60) hx hb zd_X_object_11 (by rw [c2]; decide) (by rw [c2]; decide) (by rw [c2]; rfl) rfl ?_
          refine lv_aload_n hx hb zd_X_object_60 rfl (lv_at hl 0 rfl) ?_
          refine va_get (D := (dC, dI)) (ci := 0) (v := .ref (a 1)) (C := "ZoneShelf") (T := zs_T_X) (N := 3) hx hb hz zs_in_X hown hk.1 hP 0 rfl rfl 0 (by decide) (hz _ zq_52) (fun _ h9 => h9) rfl zd_X_object_61 ?_
          refine va_getN (D := (dC, dI)) (ci := 1) (v := .ref (a 4)) (C := "ZoneShelf$Contents") (T := zs_T_C) (N := 5) hx hb hz zs_in_C hown hk.1 hP 1 rfl rfl 2 (by decide) (va_Nw.use rfl (hk.2 _ zv_3)) (fun _ h9 => h9) rfl zd_X_object_64 ?_
          refine lv_iload_n hx hb zd_X_object_67 rfl (lv_at hl 1 rfl) ?_
          refine zi_ald hx hb hk hP 4 (j := j) rfl (by omega) (by decide) zd_X_object_68 ?_
          exact zr_iret hx hb hr hlocks zd_X_object_69 (show (ln j) = zs_object (up, (nm, hi, ln, op, wd), (nm2, hi2, ln2, op2, wd2)) (nI j) w from by simp only [zs_object]; rw [if_pos h3, if_neg c0, if_neg c1, if_pos c2, nI_clamp (show j < 2 ^ 31 by omega)])
        · by_cases c3 : w = 3
          · refine lv_tableIn (off := 59) (tgt := 70) hx hb zd_X_object_11 (by rw [c3]; decide) (by rw [c3]; decide) (by rw [c3]; rfl) rfl ?_
            refine lv_aload_n hx hb zd_X_object_70 rfl (lv_at hl 0 rfl) ?_
            refine va_get (D := (dC, dI)) (ci := 0) (v := .ref (a 1)) (C := "ZoneShelf") (T := zs_T_X) (N := 3) hx hb hz zs_in_X hown hk.1 hP 0 rfl rfl 0 (by decide) (hz _ zq_52) (fun _ h9 => h9) rfl zd_X_object_71 ?_
            refine va_getN (D := (dC, dI)) (ci := 1) (v := .ref (a 5)) (C := "ZoneShelf$Contents") (T := zs_T_C) (N := 5) hx hb hz zs_in_C hown hk.1 hP 1 rfl rfl 3 (by decide) (va_Nw.use rfl (hk.2 _ zv_4)) (fun _ h9 => h9) rfl zd_X_object_74 ?_
            refine lv_iload_n hx hb zd_X_object_77 rfl (lv_at hl 1 rfl) ?_
            refine zi_zld hx hb hk hP 5 (j := j) rfl (by omega) (by decide) zd_X_object_78 ?_
            refine lv_if_eq (tgt := 86) hx hb zd_X_object_79 rfl (fun h4 => ?_) (fun h4 => ?_)
            · refine lv_iconst (v := 0) hx hb zd_X_object_86 (by decide) ?_
              exact zr_iret hx hb hr hlocks zd_X_object_87 (show 0 = zs_object (up, (nm, hi, ln, op, wd), (nm2, hi2, ln2, op2, wd2)) (nI j) w from by simp only [zs_object]; rw [if_pos h3, if_neg c0, if_neg c1, if_neg c2, if_pos c3, nI_clamp (show j < 2 ^ 31 by omega), if_pos h4])
            · refine lv_iconst (v := 1) hx hb zd_X_object_82 (by decide) ?_
              refine lv_goto (tgt := 87) hx hb zd_X_object_83 rfl ?_
              exact zr_iret hx hb hr hlocks zd_X_object_87 (show 1 = zs_object (up, (nm, hi, ln, op, wd), (nm2, hi2, ln2, op2, wd2)) (nI j) w from by simp only [zs_object]; rw [if_pos h3, if_neg c0, if_neg c1, if_neg c2, if_pos c3, nI_clamp (show j < 2 ^ 31 by omega), if_neg h4])
          · refine lv_tableOut (tgt := 88) hx hb zd_X_object_11 (zs_sw4 c0 c1 c2 c3) rfl ?_
            refine lv_iconst (v := (-1)) hx hb zd_X_object_88 (by decide) ?_
            exact zr_iret hx hb hr hlocks zd_X_object_89 (show (-1) = zs_object (up, (nm, hi, ln, op, wd), (nm2, hi2, ln2, op2, wd2)) (nI j) w from by simp only [zs_object]; rw [if_pos h3, if_neg c0, if_neg c1, if_neg c2, if_neg c3])
  · refine lv_iconst (v := (-1)) hx hb zd_X_object_8 (by decide) ?_
    exact zr_iret hx hb hr hlocks zd_X_object_9 (show (-1) = zs_object (up, (nm, hi, ln, op, wd), (nm2, hi2, ln2, op2, wd2)) o w from by simp [zs_object, h3])
set_option maxHeartbeats 4000000 in
set_option maxRecDepth 100000 in
theorem zc_X_word (l : Launch) (dC : Nat → ClassId) (dI : Nat → Nat → Nat) (cI cZ : ClassId) (a : Nat → Nat) (u : zs_X) (hok : zs_ok u) (o i : Int32) : Met l zy_X_word (.code zy_X_word zb_X_word 3 (some .int) :: zs_w) ({ frames := 2, cells := 0, slots := 0, locals := 42 }) (va_Pc [.ref (a 0), .int o, .int i] (zs_r dC dI cI cZ (zs_wX cI cZ a u))) (vp_Si (fun r => r = zs_word u o i)) 0 0 (fun _ => False) := by
  obtain ⟨up, ⟨nm, hi, ln, op, wd⟩, ⟨nm2, hi2, ln2, op2, wd2⟩⟩ := u
  have hok : ∀ j, j < 24 → ∃ q : Nat, q ≤ 64 ∧ ln j = nI q := hok
  refine Met.ofW (cc := zb_X_word) (maxL := 3) (ret := (some .int)) (by decide) rfl ?_
  intro p e s m args below meth c s₁ B hml hv
  obtain ⟨rfl, hP, hk⟩ := hv
  have hx := B.exec
  have hb := B.bytes
  have hr := B.returns
  have hts := atoms_spec (ws := .code zy_X_word zb_X_word 3 (some .int) :: zs_w) B.pre
  have hz : ∀ w ∈ zs_w, w.before _ s = true := fun w h => hts w (List.mem_cons_of_mem _ h)
  have hown : s.vm.findClass "ZoneShelf" = some m.cls := findClass_of_methodNamed B.named
  have hlocks := B.notSynchronized
  have hP : va_P (dC, dI) zs_cl [(a 0, .inr (0, [.ref (a 1), .ref (a 7), .int (zs_b up)])), (a 1, .inr (1, [.ref (a 2), .ref (a 3), .ref (a 4), .ref (a 5), .ref (a 6)])), (a 2, .inl (cI, 24, .inl nm)), (a 3, .inl (cI, 24, .inl hi)), (a 4, .inl (cI, 24, .inl ln)), (a 5, .inl (cZ, 24, .inl op)), (a 6, .inl (cI, 1536, .inl wd)), (a 7, .inr (1, [.ref (a 8), .ref (a 9), .ref (a 10), .ref (a 11), .ref (a 12)])), (a 8, .inl (cI, 24, .inl nm2)), (a 9, .inl (cI, 24, .inl hi2)), (a 10, .inl (cI, 24, .inl ln2)), (a 11, .inl (cZ, 24, .inl op2)), (a 12, .inl (cI, 1536, .inl wd2))] s.heap := hP
  have hl := lv_entry ([.ref (a 0), .int o, .int i]) (n := 3) (Nat.le_of_ble_eq_true rfl)
  rw [lg_entry_eq]
  generalize (lg_sl ([.ref (a 0), .int o, .int i]) ++ List.replicate (3 - (lg_sl ([.ref (a 0), .int o, .int i])).length) Slot.unset).toArray = ls at hl ⊢
  have hl : lv_has ls 3 [(0, .ref (a 0)), (1, .int o), (2, .int i)] := hl
  refine lv_aload_n hx hb zd_X_word_0 rfl (lv_at hl 0 rfl) ?_
  refine lv_iload_n hx hb zd_X_word_1 rfl (lv_at hl 1 rfl) ?_
  refine zc_rV (rest := []) [.int o] hx hb hml hown hz (zc_X_isThere l dC dI cI cZ a (up, (nm, hi, ln, op, wd), (nm2, hi2, ln2, op2, wd2)) o) zf_X_isThere rfl rfl zq_88 zq_89 zq_5 ⟨Nat.le_of_ble_eq_true rfl, Nat.le_of_ble_eq_true rfl⟩ hk (hP.sub [0, 1, 2, 3, 4, 5, 6, 7, 8, 9, 10, 11, 12] rfl) 0 0 rfl rfl rfl rfl hl.1 rfl (Nat.le_of_ble_eq_true rfl) zd_X_word_2 ⟨Nat.zero_le _, Nat.zero_le _⟩ (fun r1 e2 => ?_)
  obtain rfl : r1 = zs_b (zs_is up nm o) := e2
  refine zi_eq (tgt := 25) hx hb zd_X_word_5 rfl (fun h3 => ?_) (fun h3 => ?_)
  · refine lv_iconst (v := 0) hx hb zd_X_word_25 (by decide) ?_
    exact zr_iret hx hb hr hlocks zd_X_word_26 (show 0 = zs_word (up, (nm, hi, ln, op, wd), (nm2, hi2, ln2, op2, wd2)) o i from by simp [zs_word, h3])
  · obtain ⟨j, hj, rfl, hup, htk⟩ := zs_is_t h3
    refine lv_iload_n hx hb zd_X_word_8 rfl (lv_at hl 2 rfl) ?_
    refine lv_if_lt (tgt := 25) hx hb zd_X_word_9 rfl (fun h4 => ?_) (fun h4 => ?_)
    · refine lv_iconst (v := 0) hx hb zd_X_word_25 (by decide) ?_
      exact zr_iret hx hb hr hlocks zd_X_word_26 (show 0 = zs_word (up, (nm, hi, ln, op, wd), (nm2, hi2, ln2, op2, wd2)) (nI j) i from by simp only [zs_word]; rw [if_neg (fun q => q.2.1 h4)])
    · refine lv_iload_n hx hb zd_X_word_12 rfl (lv_at hl 2 rfl) ?_
      refine lv_aload_n hx hb zd_X_word_13 rfl (lv_at hl 0 rfl) ?_
      refine va_get (D := (dC, dI)) (ci := 0) (v := .ref (a 1)) (C := "ZoneShelf") (T := zs_T_X) (N := 3) hx hb hz zs_in_X hown hk.1 hP 0 rfl rfl 0 (by decide) (hz _ zq_52) (fun _ h9 => h9) rfl zd_X_word_14 ?_
      refine va_getN (D := (dC, dI)) (ci := 1) (v := .ref (a 4)) (C := "ZoneShelf$Contents") (T := zs_T_C) (N := 5) hx hb hz zs_in_C hown hk.1 hP 1 rfl rfl 2 (by decide) (va_Nw.use rfl (hk.2 _ zv_3)) (fun _ h9 => h9) rfl zd_X_word_17 ?_
      refine lv_iload_n hx hb zd_X_word_20 rfl (lv_at hl 1 rfl) ?_
      refine zi_ald hx hb hk hP 4 (j := j) rfl (by omega) (by decide) zd_X_word_21 ?_
      refine lv_icmp_lt (tgt := 27) hx hb zd_X_word_22 rfl (fun h5 => ?_) (fun h5 => ?_)
      · obtain ⟨q, hq6, hq⟩ := hok j hj
        have hq : ln j = nI q := hq
        obtain ⟨i, hi6, rfl⟩ := zs_wix h4 (hq ▸ h5) hq6
        refine lv_aload_n hx hb zd_X_word_27 rfl (lv_at hl 0 rfl) ?_
        refine va_get (D := (dC, dI)) (ci := 0) (v := .ref (a 1)) (C := "ZoneShelf") (T := zs_T_X) (N := 3) hx hb hz zs_in_X hown hk.1 hP 0 rfl rfl 0 (by decide) (hz _ zq_52) (fun _ h9 => h9) rfl zd_X_word_28 ?_
        refine va_getN (D := (dC, dI)) (ci := 1) (v := .ref (a 6)) (C := "ZoneShelf$Contents") (T := zs_T_C) (N := 5) hx hb hz zs_in_C hown hk.1 hP 1 rfl rfl 4 (by decide) (va_Nw.use rfl (hk.2 _ zv_5)) (fun _ h9 => h9) rfl zd_X_word_31 ?_
        refine lv_iload_n hx hb zd_X_word_34 rfl (lv_at hl 1 rfl) ?_
        refine lv_bipush (v := 64) hx hb zd_X_word_35 (by decide) ?_
        refine lv_imul hx hb zd_X_word_37 ?_
        refine lv_iload_n hx hb zd_X_word_38 rfl (lv_at hl 2 rfl) ?_
        refine lv_iadd hx hb zd_X_word_39 ?_
        refine zi_top (y := nI (j * 64 + i)) (by rw [show (64 : Int32) = nI 64 from rfl, pk_mul, nI_add]) ?_
        refine zi_ald hx hb hk hP 6 (j := (j * 64 + i)) rfl (by omega) (by decide) zd_X_word_40 ?_
        exact zr_iret hx hb hr hlocks zd_X_word_41 (show (wd (j * 64 + i)) = zs_word (up, (nm, hi, ln, op, wd), (nm2, hi2, ln2, op2, wd2)) (nI j) (nI i) from by simp only [zs_word, nI_clamp (show j < 2 ^ 31 by omega), nI_clamp (show i < 2 ^ 31 by omega)]; rw [if_pos ⟨h3, h4, h5⟩])
      · refine lv_iconst (v := 0) hx hb zd_X_word_25 (by decide) ?_
        exact zr_iret hx hb hr hlocks zd_X_word_26 (show 0 = zs_word (up, (nm, hi, ln, op, wd), (nm2, hi2, ln2, op2, wd2)) (nI j) i from by simp only [zs_word, nI_clamp (show j < 2 ^ 31 by omega)]; rw [if_neg (fun q => h5 q.2.2)])
set_option maxHeartbeats 4000000 in
set_option maxRecDepth 100000 in
theorem zc_X_create (l : Launch) (dC : Nat → ClassId) (dI : Nat → Nat → Nat) (cI cZ : ClassId) (a : Nat → Nat) (u : zs_X) (sz : Nat) (n h : Int32) : Met l zy_X_create (.code zy_X_create zb_X_create 4 (some .int) :: zs_w) ({ frames := 2, cells := 0, slots := 0, locals := 43 }) (va_Pc [.ref (a 0), .int n, .int h] (zs_s dC dI cI cZ sz (zs_wX cI cZ a u))) (va_Qi (fun r (v : zs_X) => (r, v) = zs_create u n h) (zs_e dC dI (zs_wX cI cZ a) (va_A (zs_wX cI cZ a u) sz)) (va_A (zs_wX cI cZ a u) sz)) 0 0 (va_A (zs_wX cI cZ a u) sz) := by
  obtain ⟨up, ⟨nm, hi, ln, op, wd⟩, ⟨nm2, hi2, ln2, op2, wd2⟩⟩ := u
  refine Met.ofW (cc := zb_X_create) (maxL := 4) (ret := (some .int)) (by decide) rfl ?_
  intro p e s m args below meth c s₁ B hml hv
  obtain ⟨rfl, hsz, hP, hk, hD0⟩ := hv
  have hx := B.exec
  have hb := B.bytes
  have hr := B.returns
  have hts := atoms_spec (ws := .code zy_X_create zb_X_create 4 (some .int) :: zs_w) B.pre
  have hz : ∀ w ∈ zs_w, w.before _ s = true := fun w h => hts w (List.mem_cons_of_mem _ h)
  have hown : s.vm.findClass "ZoneShelf" = some m.cls := findClass_of_methodNamed B.named
  have hlocks := B.notSynchronized
  subst hsz
  have hD := hD0.self (sz := s.heap.size)
  generalize hAe : va_A (zs_wX cI cZ a (up, (nm, hi, ln, op, wd), (nm2, hi2, ln2, op2, wd2))) s.heap.size = A at hD ⊢
  have hA : ∀ q : Nat, s.heap.size ≤ q → A q := fun q h => by rw [← hAe]; exact Or.inr h
  have hS : va_S A s.heap s.heap [] := va_S.rf
  have hP : va_P (dC, dI) zs_cl [(a 0, .inr (0, [.ref (a 1), .ref (a 7), .int (zs_b up)])), (a 1, .inr (1, [.ref (a 2), .ref (a 3), .ref (a 4), .ref (a 5), .ref (a 6)])), (a 2, .inl (cI, 24, .inl nm)), (a 3, .inl (cI, 24, .inl hi)), (a 4, .inl (cI, 24, .inl ln)), (a 5, .inl (cZ, 24, .inl op)), (a 6, .inl (cI, 1536, .inl wd)), (a 7, .inr (1, [.ref (a 8), .ref (a 9), .ref (a 10), .ref (a 11), .ref (a 12)])), (a 8, .inl (cI, 24, .inl nm2)), (a 9, .inl (cI, 24, .inl hi2)), (a 10, .inl (cI, 24, .inl ln2)), (a 11, .inl (cZ, 24, .inl op2)), (a 12, .inl (cI, 1536, .inl wd2))] s.heap := hP
  have hD : va_D A [(a 0, .inr (0, [.ref (a 1), .ref (a 7), .int (zs_b up)])), (a 1, .inr (1, [.ref (a 2), .ref (a 3), .ref (a 4), .ref (a 5), .ref (a 6)])), (a 2, .inl (cI, 24, .inl nm)), (a 3, .inl (cI, 24, .inl hi)), (a 4, .inl (cI, 24, .inl ln)), (a 5, .inl (cZ, 24, .inl op)), (a 6, .inl (cI, 1536, .inl wd)), (a 7, .inr (1, [.ref (a 8), .ref (a 9), .ref (a 10), .ref (a 11), .ref (a 12)])), (a 8, .inl (cI, 24, .inl nm2)), (a 9, .inl (cI, 24, .inl hi2)), (a 10, .inl (cI, 24, .inl ln2)), (a 11, .inl (cZ, 24, .inl op2)), (a 12, .inl (cI, 1536, .inl wd2))] := hD
  have hl := lv_entry ([.ref (a 0), .int n, .int h]) (n := 4) (Nat.le_of_ble_eq_true rfl)
  rw [lg_entry_eq]
  generalize (lg_sl ([.ref (a 0), .int n, .int h]) ++ List.replicate (4 - (lg_sl ([.ref (a 0), .int n, .int h])).length) Slot.unset).toArray = ls at hl ⊢
  have hl : lv_has ls 4 [(0, .ref (a 0)), (1, .int n), (2, .int h)] := hl
  refine lv_aload_n hx hb zd_X_create_0 rfl (lv_at hl 0 rfl) ?_
  refine va_get (D := (dC, dI)) (ci := 0) (v := .int (zs_b up)) (C := "ZoneShelf") (T := zs_T_X) (N := 3) hx hb hz zs_in_X hown hk.1 hP 0 rfl rfl 2 (by decide) (hz _ zq_54) (fun _ h9 => h9) rfl zd_X_create_1 ?_
  refine zi_eq (tgt := 22) hx hb zd_X_create_4 rfl (fun h1 => ?_) (fun h1 => ?_)
  · subst h1
    refine lv_iconst (v := (-1)) hx hb zd_X_create_22 (by decide) ?_
    exact zw_iret (false, (nm, hi, ln, op, wd), (nm2, hi2, ln2, op2, wd2)) hx hb hr hlocks zd_X_create_23  (show ((-1), (false, (nm, hi, ln, op, wd), (nm2, hi2, ln2, op2, wd2))) = zs_create (false, (nm, hi, ln, op, wd), (nm2, hi2, ln2, op2, wd2)) n h from by simp [zs_create]) hP hD hS
  · subst h1
    refine lv_aload_n hx hb zd_X_create_7 rfl (lv_at hl 0 rfl) ?_
    refine lv_iload_n hx hb zd_X_create_8 rfl (lv_at hl 1 rfl) ?_
    refine zc_rV (rest := []) [.int n] hx hb hml hown hz (zc_X_isFreeName l dC dI cI cZ a (true, (nm, hi, ln, op, wd), (nm2, hi2, ln2, op2, wd2)) n) zf_X_isFreeName rfl rfl zq_62 zq_63 zq_0 ⟨Nat.le_of_ble_eq_true rfl, Nat.le_of_ble_eq_true rfl⟩ hk (hP.sub [0, 1, 2, 3, 4, 5, 6, 7, 8, 9, 10, 11, 12] rfl) 0 0 rfl rfl rfl rfl hl.1 rfl (Nat.le_of_ble_eq_true rfl) zd_X_create_9 ⟨Nat.zero_le _, Nat.zero_le _⟩ (fun r2 e3 => ?_)
    obtain rfl : r2 = zs_b (zs_fr nm n) := e3
    refine zi_eq (tgt := 22) hx hb zd_X_create_12 rfl (fun h4 => ?_) (fun h4 => ?_)
    · refine lv_iconst (v := (-1)) hx hb zd_X_create_22 (by decide) ?_
      exact zw_iret (true, (nm, hi, ln, op, wd), (nm2, hi2, ln2, op2, wd2)) hx hb hr hlocks zd_X_create_23  (show ((-1), (true, (nm, hi, ln, op, wd), (nm2, hi2, ln2, op2, wd2))) = zs_create (true, (nm, hi, ln, op, wd), (nm2, hi2, ln2, op2, wd2)) n h from by simp [zs_create, h4]) hP hD hS
    · refine lv_iload_n hx hb zd_X_create_15 rfl (lv_at hl 2 rfl) ?_
      refine zc_rS (rest := []) [.int h] hx hb hml hown hz (zc_X_isHint l dC dI cI cZ h) zf_X_isHint rfl rfl zq_70 zq_71 ⟨Nat.le_of_ble_eq_true rfl, Nat.le_of_ble_eq_true rfl⟩ rfl hl.1 rfl (Nat.le_of_ble_eq_true rfl) zd_X_create_16 ⟨Nat.zero_le _, Nat.zero_le _⟩ (fun r5 e6 => ?_)
      obtain rfl : r5 = zs_b (zs_hin h) := e6
      refine zi_ne (tgt := 24) hx hb zd_X_create_19 rfl (fun h7 => ?_) (fun h7 => ?_)
      · refine lv_aload_n hx hb zd_X_create_24 rfl (lv_at hl 0 rfl) ?_
        refine va_get (D := (dC, dI)) (ci := 0) (v := .ref (a 1)) (C := "ZoneShelf") (T := zs_T_X) (N := 3) hx hb hz zs_in_X hown hk.1 hP 0 rfl rfl 0 (by decide) (hz _ zq_52) (fun _ h9 => h9) rfl zd_X_create_25 ?_
        refine zc_rN (rest := []) [] hx hb hml hown hz (zc_C_leastFreeNumber l dC dI cI cZ (a 1) (a 2) (a 3) (a 4) (a 5) (a 6) (nm, hi, ln, op, wd) ) zf_C_leastFreeNumber rfl rfl zv_7 zq_73 zq_2 ⟨Nat.le_of_ble_eq_true rfl, Nat.le_of_ble_eq_true rfl⟩ hk (hP.sub [1, 2, 3, 4, 5, 6] rfl) 0 1 rfl rfl rfl rfl hl.1 rfl (Nat.le_of_ble_eq_true rfl) zd_X_create_28 ⟨Nat.zero_le _, Nat.zero_le _⟩ (fun r8 e9 => ?_)
        obtain rfl : r8 = zs_free nm 24 0 := e9
        refine lv_istore_n (lv' := [(3, .int (zs_free nm 24 0)), (0, .ref (a 0)), (1, .int n), (2, .int h)]) hx hb zd_X_create_31 rfl hl (by decide) rfl (fun ls hl => ?_)
        refine lv_iload_n hx hb zd_X_create_32 rfl (lv_at hl 0 rfl) ?_
        refine lv_iconst (v := (-1)) hx hb zd_X_create_33 (by decide) ?_
        refine lv_icmp_eq (tgt := 47) hx hb zd_X_create_34 rfl (fun h10 => ?_) (fun h10 => ?_)
        · refine lv_iload_n hx hb zd_X_create_47 rfl (lv_at hl 0 rfl) ?_
          exact zw_iret (true, (nm, hi, ln, op, wd), (nm2, hi2, ln2, op2, wd2)) hx hb hr hlocks zd_X_create_48  (show (zs_free nm 24 0, (true, (nm, hi, ln, op, wd), (nm2, hi2, ln2, op2, wd2))) = zs_create (true, (nm, hi, ln, op, wd), (nm2, hi2, ln2, op2, wd2)) n h from by simp [zs_create, h4, h7, h10]) hP hD hS
        · obtain ⟨j, hj, hfj⟩ := zs_free_in h10
          have hne : ¬ nI j = -1 := fun z => h10 (hfj.trans z)
          rw [hfj] at hl
          refine lv_aload_n hx hb zd_X_create_37 rfl (lv_at hl 1 rfl) ?_
          refine va_get (D := (dC, dI)) (ci := 0) (v := .ref (a 1)) (C := "ZoneShelf") (T := zs_T_X) (N := 3) hx hb hz zs_in_X hown hk.1 hP 0 rfl rfl 0 (by decide) (hz _ zq_52) (fun _ h9 => h9) rfl zd_X_create_38 ?_
          refine lv_iload_n hx hb zd_X_create_41 rfl (lv_at hl 0 rfl) ?_
          refine lv_iload_n hx hb zd_X_create_42 rfl (lv_at hl 2 rfl) ?_
          refine lv_iload_n hx hb zd_X_create_43 rfl (lv_at hl 3 rfl) ?_
          refine zc_wN (rest := []) (wr := [(a 0, .inr (0, [.ref (a 1), .ref (a 7), .int (zs_b true)])), (a 7, .inr (1, [.ref (a 8), .ref (a 9), .ref (a 10), .ref (a 11), .ref (a 12)])), (a 8, .inl (cI, 24, .inl nm2)), (a 9, .inl (cI, 24, .inl hi2)), (a 10, .inl (cI, 24, .inl ln2)), (a 11, .inl (cZ, 24, .inl op2)), (a 12, .inl (cI, 1536, .inl wd2))]) [.int (nI j), .int n, .int h] hx hb hml hown hz (zc_C_place l dC dI cI cZ (a 1) (a 2) (a 3) (a 4) (a 5) (a 6) (nm, hi, ln, op, wd) s.heap.size j hj n h) zf_C_place rfl rfl zv_8 zq_78 zq_4 ⟨Nat.le_of_ble_eq_true rfl, Nat.le_of_ble_eq_true rfl⟩ hk hP hD hS hA [1, 2, 3, 4, 5, 6] [0, 7, 8, 9, 10, 11, 12] rfl rfl (by decide) (by decide) (by decide) 0 1 rfl rfl rfl rfl hl.1 rfl (Nat.le_of_ble_eq_true rfl) zd_X_create_44 ⟨Nat.zero_le _, Nat.zero_le _⟩ (fun u13 H locs e12 hP hD hS => ?_)
          obtain rfl : u13 = (upd nm j n, upd hi j h, ln, upd op j (vp_nar .boolean 1), wd) := e12
          have hP : va_P (dC, dI) zs_cl [(a 0, .inr (0, [.ref (a 1), .ref (a 7), .int (zs_b true)])), (a 7, .inr (1, [.ref (a 8), .ref (a 9), .ref (a 10), .ref (a 11), .ref (a 12)])), (a 8, .inl (cI, 24, .inl nm2)), (a 9, .inl (cI, 24, .inl hi2)), (a 10, .inl (cI, 24, .inl ln2)), (a 11, .inl (cZ, 24, .inl op2)), (a 12, .inl (cI, 1536, .inl wd2)), (a 1, .inr (1, [.ref (a 2), .ref (a 3), .ref (a 4), .ref (a 5), .ref (a 6)])), (a 2, .inl (cI, 24, .inl (upd nm j n))), (a 3, .inl (cI, 24, .inl (upd hi j h))), (a 4, .inl (cI, 24, .inl ln)), (a 5, .inl (cZ, 24, .inl (upd op j (vp_nar .boolean 1)))), (a 6, .inl (cI, 1536, .inl wd))] H := hP
          have hD : va_D A [(a 0, .inr (0, [.ref (a 1), .ref (a 7), .int (zs_b true)])), (a 7, .inr (1, [.ref (a 8), .ref (a 9), .ref (a 10), .ref (a 11), .ref (a 12)])), (a 8, .inl (cI, 24, .inl nm2)), (a 9, .inl (cI, 24, .inl hi2)), (a 10, .inl (cI, 24, .inl ln2)), (a 11, .inl (cZ, 24, .inl op2)), (a 12, .inl (cI, 1536, .inl wd2)), (a 1, .inr (1, [.ref (a 2), .ref (a 3), .ref (a 4), .ref (a 5), .ref (a 6)])), (a 2, .inl (cI, 24, .inl (upd nm j n))), (a 3, .inl (cI, 24, .inl (upd hi j h))), (a 4, .inl (cI, 24, .inl ln)), (a 5, .inl (cZ, 24, .inl (upd op j (vp_nar .boolean 1)))), (a 6, .inl (cI, 1536, .inl wd))] := hD
          refine lv_iload_n hx hb zd_X_create_47 rfl (lv_at hl 0 rfl) ?_
          exact zw_iret (true, (upd nm j n, upd hi j h, ln, upd op j (vp_nar .boolean 1), wd), (nm2, hi2, ln2, op2, wd2)) hx hb hr hlocks zd_X_create_48  (show (nI j, (true, (upd nm j n, upd hi j h, ln, upd op j (vp_nar .boolean 1), wd), (nm2, hi2, ln2, op2, wd2))) = zs_create (true, (nm, hi, ln, op, wd), (nm2, hi2, ln2, op2, wd2)) n h from by simp [zs_create, h4, h7, hne, hfj, nI_clamp (show j < 2 ^ 31 by omega)]) (hP.sub [0, 7, 8, 9, 10, 11, 12, 1, 2, 3, 4, 5, 6] rfl) (hD.sub [0, 7, 8, 9, 10, 11, 12, 1, 2, 3, 4, 5, 6] (by decide) rfl) hS
      · refine lv_iconst (v := (-1)) hx hb zd_X_create_22 (by decide) ?_
        exact zw_iret (true, (nm, hi, ln, op, wd), (nm2, hi2, ln2, op2, wd2)) hx hb hr hlocks zd_X_create_23  (show ((-1), (true, (nm, hi, ln, op, wd), (nm2, hi2, ln2, op2, wd2))) = zs_create (true, (nm, hi, ln, op, wd), (nm2, hi2, ln2, op2, wd2)) n h from by simp [zs_create, h4, h7]) hP hD hS
set_option maxHeartbeats 4000000 in
set_option maxRecDepth 100000 in
theorem zc_X_appendRow (l : Launch) (dC : Nat → ClassId) (dI : Nat → Nat → Nat) (cI cZ : ClassId) (a : Nat → Nat) (u : zs_X) (sz : Nat) (hok : zs_ok u) (o w k : Int32) : Met l zy_X_appendRow (.code zy_X_appendRow zb_X_appendRow 4 (some .boolean) :: zs_w) ({ frames := 2, cells := 0, slots := 0, locals := 43 }) (va_Pc [.ref (a 0), .int o, .int w, .int k] (zs_s dC dI cI cZ sz (zs_wX cI cZ a u))) (va_Qi (fun r (v : zs_X) => (r, v) = zs_appendRow u o w k) (zs_e dC dI (zs_wX cI cZ a) (va_A (zs_wX cI cZ a u) sz)) (va_A (zs_wX cI cZ a u) sz)) 0 0 (va_A (zs_wX cI cZ a u) sz) := by
  obtain ⟨up, ⟨nm, hi, ln, op, wd⟩, ⟨nm2, hi2, ln2, op2, wd2⟩⟩ := u
  have hok : ∀ j, j < 24 → ∃ q : Nat, q ≤ 64 ∧ ln j = nI q := hok
  refine Met.ofW (cc := zb_X_appendRow) (maxL := 4) (ret := (some .boolean)) (by decide) rfl ?_
  intro p e s m args below meth c s₁ B hml hv
  obtain ⟨rfl, hsz, hP, hk, hD0⟩ := hv
  have hx := B.exec
  have hb := B.bytes
  have hr := B.returns
  have hts := atoms_spec (ws := .code zy_X_appendRow zb_X_appendRow 4 (some .boolean) :: zs_w) B.pre
  have hz : ∀ w ∈ zs_w, w.before _ s = true := fun w h => hts w (List.mem_cons_of_mem _ h)
  have hown : s.vm.findClass "ZoneShelf" = some m.cls := findClass_of_methodNamed B.named
  have hlocks := B.notSynchronized
  subst hsz
  have hD := hD0.self (sz := s.heap.size)
  generalize hAe : va_A (zs_wX cI cZ a (up, (nm, hi, ln, op, wd), (nm2, hi2, ln2, op2, wd2))) s.heap.size = A at hD ⊢
  have hA : ∀ q : Nat, s.heap.size ≤ q → A q := fun q h => by rw [← hAe]; exact Or.inr h
  have hS : va_S A s.heap s.heap [] := va_S.rf
  have hP : va_P (dC, dI) zs_cl [(a 0, .inr (0, [.ref (a 1), .ref (a 7), .int (zs_b up)])), (a 1, .inr (1, [.ref (a 2), .ref (a 3), .ref (a 4), .ref (a 5), .ref (a 6)])), (a 2, .inl (cI, 24, .inl nm)), (a 3, .inl (cI, 24, .inl hi)), (a 4, .inl (cI, 24, .inl ln)), (a 5, .inl (cZ, 24, .inl op)), (a 6, .inl (cI, 1536, .inl wd)), (a 7, .inr (1, [.ref (a 8), .ref (a 9), .ref (a 10), .ref (a 11), .ref (a 12)])), (a 8, .inl (cI, 24, .inl nm2)), (a 9, .inl (cI, 24, .inl hi2)), (a 10, .inl (cI, 24, .inl ln2)), (a 11, .inl (cZ, 24, .inl op2)), (a 12, .inl (cI, 1536, .inl wd2))] s.heap := hP
  have hD : va_D A [(a 0, .inr (0, [.ref (a 1), .ref (a 7), .int (zs_b up)])), (a 1, .inr (1, [.ref (a 2), .ref (a 3), .ref (a 4), .ref (a 5), .ref (a 6)])), (a 2, .inl (cI, 24, .inl nm)), (a 3, .inl (cI, 24, .inl hi)), (a 4, .inl (cI, 24, .inl ln)), (a 5, .inl (cZ, 24, .inl op)), (a 6, .inl (cI, 1536, .inl wd)), (a 7, .inr (1, [.ref (a 8), .ref (a 9), .ref (a 10), .ref (a 11), .ref (a 12)])), (a 8, .inl (cI, 24, .inl nm2)), (a 9, .inl (cI, 24, .inl hi2)), (a 10, .inl (cI, 24, .inl ln2)), (a 11, .inl (cZ, 24, .inl op2)), (a 12, .inl (cI, 1536, .inl wd2))] := hD
  have hl := lv_entry ([.ref (a 0), .int o, .int w, .int k]) (n := 4) (Nat.le_of_ble_eq_true rfl)
  rw [lg_entry_eq]
  generalize (lg_sl ([.ref (a 0), .int o, .int w, .int k]) ++ List.replicate (4 - (lg_sl ([.ref (a 0), .int o, .int w, .int k])).length) Slot.unset).toArray = ls at hl ⊢
  have hl : lv_has ls 4 [(0, .ref (a 0)), (1, .int o), (2, .int w), (3, .int k)] := hl
  refine lv_aload_n hx hb zd_X_appendRow_0 rfl (lv_at hl 0 rfl) ?_
  refine lv_iload_n hx hb zd_X_appendRow_1 rfl (lv_at hl 1 rfl) ?_
  refine zc_rV (rest := []) [.int o] hx hb hml hown hz (zc_X_isThere l dC dI cI cZ a (up, (nm, hi, ln, op, wd), (nm2, hi2, ln2, op2, wd2)) o) zf_X_isThere rfl rfl zq_88 zq_89 zq_5 ⟨Nat.le_of_ble_eq_true rfl, Nat.le_of_ble_eq_true rfl⟩ hk (hP.sub [0, 1, 2, 3, 4, 5, 6, 7, 8, 9, 10, 11, 12] rfl) 0 0 rfl rfl rfl rfl hl.1 rfl (Nat.le_of_ble_eq_true rfl) zd_X_appendRow_2 ⟨Nat.zero_le _, Nat.zero_le _⟩ (fun r1 e2 => ?_)
  obtain rfl : r1 = zs_b (zs_is up nm o) := e2
  refine zi_eq (tgt := 34) hx hb zd_X_appendRow_5 rfl (fun h3 => ?_) (fun h3 => ?_)
  · refine lv_iconst (v := 0) hx hb zd_X_appendRow_34 (by decide) ?_
    exact zw_zret (up, (nm, hi, ln, op, wd), (nm2, hi2, ln2, op2, wd2)) hx hb hr hlocks zd_X_appendRow_35 rfl (show (0, (up, (nm, hi, ln, op, wd), (nm2, hi2, ln2, op2, wd2))) = zs_appendRow (up, (nm, hi, ln, op, wd), (nm2, hi2, ln2, op2, wd2)) o w k from by simp [zs_appendRow, zs_okr, h3]) hP hD hS
  · obtain ⟨j, hj, rfl, hup, htk⟩ := zs_is_t h3
    refine lv_aload_n hx hb zd_X_appendRow_8 rfl (lv_at hl 0 rfl) ?_
    refine va_get (D := (dC, dI)) (ci := 0) (v := .ref (a 1)) (C := "ZoneShelf") (T := zs_T_X) (N := 3) hx hb hz zs_in_X hown hk.1 hP 0 rfl rfl 0 (by decide) (hz _ zq_52) (fun _ h9 => h9) rfl zd_X_appendRow_9 ?_
    refine va_getN (D := (dC, dI)) (ci := 1) (v := .ref (a 5)) (C := "ZoneShelf$Contents") (T := zs_T_C) (N := 5) hx hb hz zs_in_C hown hk.1 hP 1 rfl rfl 3 (by decide) (va_Nw.use rfl (hk.2 _ zv_4)) (fun _ h9 => h9) rfl zd_X_appendRow_12 ?_
    refine lv_iload_n hx hb zd_X_appendRow_15 rfl (lv_at hl 1 rfl) ?_
    refine zi_zld hx hb hk hP 5 (j := j) rfl (by omega) (by decide) zd_X_appendRow_16 ?_
    refine lv_if_eq (tgt := 34) hx hb zd_X_appendRow_17 rfl (fun h4 => ?_) (fun h4 => ?_)
    · refine lv_iconst (v := 0) hx hb zd_X_appendRow_34 (by decide) ?_
      exact zw_zret (up, (nm, hi, ln, op, wd), (nm2, hi2, ln2, op2, wd2)) hx hb hr hlocks zd_X_appendRow_35 rfl (show (0, (up, (nm, hi, ln, op, wd), (nm2, hi2, ln2, op2, wd2))) = zs_appendRow (up, (nm, hi, ln, op, wd), (nm2, hi2, ln2, op2, wd2)) (nI j) w k from by simp [zs_appendRow, zs_okr, h3, nI_clamp (show j < 2 ^ 31 by omega), h4]) hP hD hS
    · refine lv_iload_n hx hb zd_X_appendRow_20 rfl (lv_at hl 3 rfl) ?_
      refine lv_iconst (v := 1) hx hb zd_X_appendRow_21 (by decide) ?_
      refine lv_icmp_lt (tgt := 34) hx hb zd_X_appendRow_22 rfl (fun h5 => ?_) (fun h5 => ?_)
      · refine lv_iconst (v := 0) hx hb zd_X_appendRow_34 (by decide) ?_
        exact zw_zret (up, (nm, hi, ln, op, wd), (nm2, hi2, ln2, op2, wd2)) hx hb hr hlocks zd_X_appendRow_35 rfl (show (0, (up, (nm, hi, ln, op, wd), (nm2, hi2, ln2, op2, wd2))) = zs_appendRow (up, (nm, hi, ln, op, wd), (nm2, hi2, ln2, op2, wd2)) (nI j) w k from by simp [zs_appendRow, zs_okr, h3, nI_clamp (show j < 2 ^ 31 by omega), h4, h5]) hP hD hS
      · refine lv_iload_n hx hb zd_X_appendRow_25 rfl (lv_at hl 3 rfl) ?_
        refine lv_aload_n hx hb zd_X_appendRow_26 rfl (lv_at hl 0 rfl) ?_
        refine lv_iload_n hx hb zd_X_appendRow_27 rfl (lv_at hl 1 rfl) ?_
        refine zc_rV (rest := [.int k]) [.int (nI j)] hx hb hml hown hz (zc_X_roomIn l dC dI cI cZ a (up, (nm, hi, ln, op, wd), (nm2, hi2, ln2, op2, wd2)) j hj) zf_X_roomIn rfl rfl zq_91 zq_92 zq_6 ⟨Nat.le_of_ble_eq_true rfl, Nat.le_of_ble_eq_true rfl⟩ hk (hP.sub [0, 1, 2, 3, 4, 5, 6, 7, 8, 9, 10, 11, 12] rfl) 0 0 rfl rfl rfl rfl hl.1 rfl (Nat.le_of_ble_eq_true rfl) zd_X_appendRow_28 ⟨Nat.zero_le _, Nat.zero_le _⟩ (fun r6 e7 => ?_)
        obtain rfl : r6 = zs_rm ln j := e7
        refine lv_icmp_le (tgt := 36) hx hb zd_X_appendRow_31 rfl (fun h8 => ?_) (fun h8 => ?_)
        · obtain ⟨q, hq6, hq⟩ := hok j hj
          obtain ⟨k, hkk, rfl⟩ := zs_fit hq hq6 h5 h8
          refine lv_aload_n hx hb zd_X_appendRow_36 rfl (lv_at hl 0 rfl) ?_
          refine va_get (D := (dC, dI)) (ci := 0) (v := .ref (a 1)) (C := "ZoneShelf") (T := zs_T_X) (N := 3) hx hb hz zs_in_X hown hk.1 hP 0 rfl rfl 0 (by decide) (hz _ zq_52) (fun _ h9 => h9) rfl zd_X_appendRow_37 ?_
          refine lv_iload_n hx hb zd_X_appendRow_40 rfl (lv_at hl 1 rfl) ?_
          refine lv_iload_n hx hb zd_X_appendRow_41 rfl (lv_at hl 2 rfl) ?_
          refine lv_iload_n hx hb zd_X_appendRow_42 rfl (lv_at hl 3 rfl) ?_
          refine zc_wN (rest := []) (wr := [(a 0, .inr (0, [.ref (a 1), .ref (a 7), .int (zs_b up)])), (a 7, .inr (1, [.ref (a 8), .ref (a 9), .ref (a 10), .ref (a 11), .ref (a 12)])), (a 8, .inl (cI, 24, .inl nm2)), (a 9, .inl (cI, 24, .inl hi2)), (a 10, .inl (cI, 24, .inl ln2)), (a 11, .inl (cZ, 24, .inl op2)), (a 12, .inl (cI, 1536, .inl wd2))]) [.int (nI j), .int w, .int (nI k)] hx hb hml hown hz (zc_C_addRow l dC dI cI cZ (a 1) (a 2) (a 3) (a 4) (a 5) (a 6) (nm, hi, ln, op, wd) s.heap.size j q k w hj hq hkk) zf_C_addRow rfl rfl zv_11 zq_99 zq_8 ⟨Nat.le_of_ble_eq_true rfl, Nat.le_of_ble_eq_true rfl⟩ hk hP hD hS hA [1, 2, 3, 4, 5, 6] [0, 7, 8, 9, 10, 11, 12] rfl rfl (by decide) (by decide) (by decide) 0 1 rfl rfl rfl rfl hl.1 rfl (Nat.le_of_ble_eq_true rfl) zd_X_appendRow_43 ⟨Nat.zero_le _, Nat.zero_le _⟩ (fun u11 H locs e10 hP hD hS => ?_)
          obtain rfl : u11 = (nm, hi, upd ln j (nI (q + k)), op, zs_row wd (j * 64 + q) w k) := e10
          have hP : va_P (dC, dI) zs_cl [(a 0, .inr (0, [.ref (a 1), .ref (a 7), .int (zs_b up)])), (a 7, .inr (1, [.ref (a 8), .ref (a 9), .ref (a 10), .ref (a 11), .ref (a 12)])), (a 8, .inl (cI, 24, .inl nm2)), (a 9, .inl (cI, 24, .inl hi2)), (a 10, .inl (cI, 24, .inl ln2)), (a 11, .inl (cZ, 24, .inl op2)), (a 12, .inl (cI, 1536, .inl wd2)), (a 1, .inr (1, [.ref (a 2), .ref (a 3), .ref (a 4), .ref (a 5), .ref (a 6)])), (a 2, .inl (cI, 24, .inl nm)), (a 3, .inl (cI, 24, .inl hi)), (a 4, .inl (cI, 24, .inl (upd ln j (nI (q + k))))), (a 5, .inl (cZ, 24, .inl op)), (a 6, .inl (cI, 1536, .inl (zs_row wd (j * 64 + q) w k)))] H := hP
          have hD : va_D A [(a 0, .inr (0, [.ref (a 1), .ref (a 7), .int (zs_b up)])), (a 7, .inr (1, [.ref (a 8), .ref (a 9), .ref (a 10), .ref (a 11), .ref (a 12)])), (a 8, .inl (cI, 24, .inl nm2)), (a 9, .inl (cI, 24, .inl hi2)), (a 10, .inl (cI, 24, .inl ln2)), (a 11, .inl (cZ, 24, .inl op2)), (a 12, .inl (cI, 1536, .inl wd2)), (a 1, .inr (1, [.ref (a 2), .ref (a 3), .ref (a 4), .ref (a 5), .ref (a 6)])), (a 2, .inl (cI, 24, .inl nm)), (a 3, .inl (cI, 24, .inl hi)), (a 4, .inl (cI, 24, .inl (upd ln j (nI (q + k))))), (a 5, .inl (cZ, 24, .inl op)), (a 6, .inl (cI, 1536, .inl (zs_row wd (j * 64 + q) w k)))] := hD
          refine lv_iconst (v := 1) hx hb zd_X_appendRow_46 (by decide) ?_
          exact zw_zret (up, (nm, hi, upd ln j (nI (q + k)), op, zs_row wd (j * 64 + q) w k), (nm2, hi2, ln2, op2, wd2)) hx hb hr hlocks zd_X_appendRow_47 rfl (show (1, (up, (nm, hi, upd ln j (nI (q + k)), op, zs_row wd (j * 64 + q) w k), (nm2, hi2, ln2, op2, wd2))) = zs_appendRow (up, (nm, hi, ln, op, wd), (nm2, hi2, ln2, op2, wd2)) (nI j) w (nI k) from by simp [zs_appendRow, zs_okr, h3, nI_clamp (show j < 2 ^ 31 by omega), h4, h5, h8, hq, nI_clamp (show q < 2 ^ 31 by omega), nI_clamp (show k < 2 ^ 31 by omega)]) (hP.sub [0, 7, 8, 9, 10, 11, 12, 1, 2, 3, 4, 5, 6] rfl) (hD.sub [0, 7, 8, 9, 10, 11, 12, 1, 2, 3, 4, 5, 6] (by decide) rfl) hS
        · refine lv_iconst (v := 0) hx hb zd_X_appendRow_34 (by decide) ?_
          exact zw_zret (up, (nm, hi, ln, op, wd), (nm2, hi2, ln2, op2, wd2)) hx hb hr hlocks zd_X_appendRow_35 rfl (show (0, (up, (nm, hi, ln, op, wd), (nm2, hi2, ln2, op2, wd2))) = zs_appendRow (up, (nm, hi, ln, op, wd), (nm2, hi2, ln2, op2, wd2)) (nI j) w k from by simp [zs_appendRow, zs_okr, h3, nI_clamp (show j < 2 ^ 31 by omega), h4, h5, h8]) hP hD hS
set_option maxHeartbeats 4000000 in
set_option maxRecDepth 100000 in
theorem zc_X_open (l : Launch) (dC : Nat → ClassId) (dI : Nat → Nat → Nat) (cI cZ : ClassId) (a : Nat → Nat) (u : zs_X) (sz : Nat) (o b : Int32) : Met l zy_X_open (.code zy_X_open zb_X_open 3 (some .boolean) :: zs_w) ({ frames := 2, cells := 0, slots := 0, locals := 42 }) (va_Pc [.ref (a 0), .int o, .int b] (zs_s dC dI cI cZ sz (zs_wX cI cZ a u))) (va_Qi (fun r (v : zs_X) => (r, v) = zs_open u o b) (zs_e dC dI (zs_wX cI cZ a) (va_A (zs_wX cI cZ a u) sz)) (va_A (zs_wX cI cZ a u) sz)) 0 0 (va_A (zs_wX cI cZ a u) sz) := by
  obtain ⟨up, ⟨nm, hi, ln, op, wd⟩, ⟨nm2, hi2, ln2, op2, wd2⟩⟩ := u
  refine Met.ofW (cc := zb_X_open) (maxL := 3) (ret := (some .boolean)) (by decide) rfl ?_
  intro p e s m args below meth c s₁ B hml hv
  obtain ⟨rfl, hsz, hP, hk, hD0⟩ := hv
  have hx := B.exec
  have hb := B.bytes
  have hr := B.returns
  have hts := atoms_spec (ws := .code zy_X_open zb_X_open 3 (some .boolean) :: zs_w) B.pre
  have hz : ∀ w ∈ zs_w, w.before _ s = true := fun w h => hts w (List.mem_cons_of_mem _ h)
  have hown : s.vm.findClass "ZoneShelf" = some m.cls := findClass_of_methodNamed B.named
  have hlocks := B.notSynchronized
  subst hsz
  have hD := hD0.self (sz := s.heap.size)
  generalize hAe : va_A (zs_wX cI cZ a (up, (nm, hi, ln, op, wd), (nm2, hi2, ln2, op2, wd2))) s.heap.size = A at hD ⊢
  have hA : ∀ q : Nat, s.heap.size ≤ q → A q := fun q h => by rw [← hAe]; exact Or.inr h
  have hS : va_S A s.heap s.heap [] := va_S.rf
  have hP : va_P (dC, dI) zs_cl [(a 0, .inr (0, [.ref (a 1), .ref (a 7), .int (zs_b up)])), (a 1, .inr (1, [.ref (a 2), .ref (a 3), .ref (a 4), .ref (a 5), .ref (a 6)])), (a 2, .inl (cI, 24, .inl nm)), (a 3, .inl (cI, 24, .inl hi)), (a 4, .inl (cI, 24, .inl ln)), (a 5, .inl (cZ, 24, .inl op)), (a 6, .inl (cI, 1536, .inl wd)), (a 7, .inr (1, [.ref (a 8), .ref (a 9), .ref (a 10), .ref (a 11), .ref (a 12)])), (a 8, .inl (cI, 24, .inl nm2)), (a 9, .inl (cI, 24, .inl hi2)), (a 10, .inl (cI, 24, .inl ln2)), (a 11, .inl (cZ, 24, .inl op2)), (a 12, .inl (cI, 1536, .inl wd2))] s.heap := hP
  have hD : va_D A [(a 0, .inr (0, [.ref (a 1), .ref (a 7), .int (zs_b up)])), (a 1, .inr (1, [.ref (a 2), .ref (a 3), .ref (a 4), .ref (a 5), .ref (a 6)])), (a 2, .inl (cI, 24, .inl nm)), (a 3, .inl (cI, 24, .inl hi)), (a 4, .inl (cI, 24, .inl ln)), (a 5, .inl (cZ, 24, .inl op)), (a 6, .inl (cI, 1536, .inl wd)), (a 7, .inr (1, [.ref (a 8), .ref (a 9), .ref (a 10), .ref (a 11), .ref (a 12)])), (a 8, .inl (cI, 24, .inl nm2)), (a 9, .inl (cI, 24, .inl hi2)), (a 10, .inl (cI, 24, .inl ln2)), (a 11, .inl (cZ, 24, .inl op2)), (a 12, .inl (cI, 1536, .inl wd2))] := hD
  have hl := lv_entry ([.ref (a 0), .int o, .int b]) (n := 3) (Nat.le_of_ble_eq_true rfl)
  rw [lg_entry_eq]
  generalize (lg_sl ([.ref (a 0), .int o, .int b]) ++ List.replicate (3 - (lg_sl ([.ref (a 0), .int o, .int b])).length) Slot.unset).toArray = ls at hl ⊢
  have hl : lv_has ls 3 [(0, .ref (a 0)), (1, .int o), (2, .int b)] := hl
  refine lv_aload_n hx hb zd_X_open_0 rfl (lv_at hl 0 rfl) ?_
  refine lv_iload_n hx hb zd_X_open_1 rfl (lv_at hl 1 rfl) ?_
  refine zc_rV (rest := []) [.int o] hx hb hml hown hz (zc_X_isThere l dC dI cI cZ a (up, (nm, hi, ln, op, wd), (nm2, hi2, ln2, op2, wd2)) o) zf_X_isThere rfl rfl zq_88 zq_89 zq_5 ⟨Nat.le_of_ble_eq_true rfl, Nat.le_of_ble_eq_true rfl⟩ hk (hP.sub [0, 1, 2, 3, 4, 5, 6, 7, 8, 9, 10, 11, 12] rfl) 0 0 rfl rfl rfl rfl hl.1 rfl (Nat.le_of_ble_eq_true rfl) zd_X_open_2 ⟨Nat.zero_le _, Nat.zero_le _⟩ (fun r1 e2 => ?_)
  obtain rfl : r1 = zs_b (zs_is up nm o) := e2
  refine zi_ne (tgt := 10) hx hb zd_X_open_5 rfl (fun h3 => ?_) (fun h3 => ?_)
  · obtain ⟨j, hj, rfl, hup, htk⟩ := zs_is_t h3
    refine lv_aload_n hx hb zd_X_open_10 rfl (lv_at hl 0 rfl) ?_
    refine va_get (D := (dC, dI)) (ci := 0) (v := .ref (a 1)) (C := "ZoneShelf") (T := zs_T_X) (N := 3) hx hb hz zs_in_X hown hk.1 hP 0 rfl rfl 0 (by decide) (hz _ zq_52) (fun _ h9 => h9) rfl zd_X_open_11 ?_
    refine va_getN (D := (dC, dI)) (ci := 1) (v := .ref (a 5)) (C := "ZoneShelf$Contents") (T := zs_T_C) (N := 5) hx hb hz zs_in_C hown hk.1 hP 1 rfl rfl 3 (by decide) (va_Nw.use rfl (hk.2 _ zv_4)) (fun _ h9 => h9) rfl zd_X_open_14 ?_
    refine lv_iload_n hx hb zd_X_open_17 rfl (lv_at hl 1 rfl) ?_
    refine lv_iload_n hx hb zd_X_open_18 rfl (lv_at hl 2 rfl) ?_
    refine zi_zst hx hb hk hP hD hS 5 (j := j) rfl (by omega) (by decide) zd_X_open_19 (fun H locs hP hD hS => ?_)
    have hP : va_P (dC, dI) zs_cl [(a 0, .inr (0, [.ref (a 1), .ref (a 7), .int (zs_b up)])), (a 1, .inr (1, [.ref (a 2), .ref (a 3), .ref (a 4), .ref (a 5), .ref (a 6)])), (a 2, .inl (cI, 24, .inl nm)), (a 3, .inl (cI, 24, .inl hi)), (a 4, .inl (cI, 24, .inl ln)), (a 5, .inl (cZ, 24, .inl (upd op j (vp_nar .boolean b)))), (a 6, .inl (cI, 1536, .inl wd)), (a 7, .inr (1, [.ref (a 8), .ref (a 9), .ref (a 10), .ref (a 11), .ref (a 12)])), (a 8, .inl (cI, 24, .inl nm2)), (a 9, .inl (cI, 24, .inl hi2)), (a 10, .inl (cI, 24, .inl ln2)), (a 11, .inl (cZ, 24, .inl op2)), (a 12, .inl (cI, 1536, .inl wd2))] H := hP
    have hD : va_D A [(a 0, .inr (0, [.ref (a 1), .ref (a 7), .int (zs_b up)])), (a 1, .inr (1, [.ref (a 2), .ref (a 3), .ref (a 4), .ref (a 5), .ref (a 6)])), (a 2, .inl (cI, 24, .inl nm)), (a 3, .inl (cI, 24, .inl hi)), (a 4, .inl (cI, 24, .inl ln)), (a 5, .inl (cZ, 24, .inl (upd op j (vp_nar .boolean b)))), (a 6, .inl (cI, 1536, .inl wd)), (a 7, .inr (1, [.ref (a 8), .ref (a 9), .ref (a 10), .ref (a 11), .ref (a 12)])), (a 8, .inl (cI, 24, .inl nm2)), (a 9, .inl (cI, 24, .inl hi2)), (a 10, .inl (cI, 24, .inl ln2)), (a 11, .inl (cZ, 24, .inl op2)), (a 12, .inl (cI, 1536, .inl wd2))] := hD
    refine lv_iconst (v := 1) hx hb zd_X_open_20 (by decide) ?_
    exact zw_zret (up, (nm, hi, ln, upd op j (vp_nar .boolean b), wd), (nm2, hi2, ln2, op2, wd2)) hx hb hr hlocks zd_X_open_21 rfl (show (1, (up, (nm, hi, ln, upd op j (vp_nar .boolean b), wd), (nm2, hi2, ln2, op2, wd2))) = zs_open (up, (nm, hi, ln, op, wd), (nm2, hi2, ln2, op2, wd2)) (nI j) b from by simp [zs_open, h3, nI_clamp (show j < 2 ^ 31 by omega)]) hP hD hS
  · refine lv_iconst (v := 0) hx hb zd_X_open_8 (by decide) ?_
    exact zw_zret (up, (nm, hi, ln, op, wd), (nm2, hi2, ln2, op2, wd2)) hx hb hr hlocks zd_X_open_9 rfl (show (0, (up, (nm, hi, ln, op, wd), (nm2, hi2, ln2, op2, wd2))) = zs_open (up, (nm, hi, ln, op, wd), (nm2, hi2, ln2, op2, wd2)) o b from by simp [zs_open, h3]) hP hD hS
set_option maxHeartbeats 4000000 in
set_option maxRecDepth 100000 in
theorem zc_X_remove (l : Launch) (dC : Nat → ClassId) (dI : Nat → Nat → Nat) (cI cZ : ClassId) (a : Nat → Nat) (u : zs_X) (sz : Nat) (o : Int32) : Met l zy_X_remove (.code zy_X_remove zb_X_remove 2 (some .boolean) :: zs_w) ({ frames := 2, cells := 0, slots := 0, locals := 42 }) (va_Pc [.ref (a 0), .int o] (zs_s dC dI cI cZ sz (zs_wX cI cZ a u))) (va_Qi (fun r (v : zs_X) => (r, v) = zs_remove u o) (zs_e dC dI (zs_wX cI cZ a) (va_A (zs_wX cI cZ a u) sz)) (va_A (zs_wX cI cZ a u) sz)) 0 0 (va_A (zs_wX cI cZ a u) sz) := by
  obtain ⟨up, ⟨nm, hi, ln, op, wd⟩, ⟨nm2, hi2, ln2, op2, wd2⟩⟩ := u
  refine Met.ofW (cc := zb_X_remove) (maxL := 2) (ret := (some .boolean)) (by decide) rfl ?_
  intro p e s m args below meth c s₁ B hml hv
  obtain ⟨rfl, hsz, hP, hk, hD0⟩ := hv
  have hx := B.exec
  have hb := B.bytes
  have hr := B.returns
  have hts := atoms_spec (ws := .code zy_X_remove zb_X_remove 2 (some .boolean) :: zs_w) B.pre
  have hz : ∀ w ∈ zs_w, w.before _ s = true := fun w h => hts w (List.mem_cons_of_mem _ h)
  have hown : s.vm.findClass "ZoneShelf" = some m.cls := findClass_of_methodNamed B.named
  have hlocks := B.notSynchronized
  subst hsz
  have hD := hD0.self (sz := s.heap.size)
  generalize hAe : va_A (zs_wX cI cZ a (up, (nm, hi, ln, op, wd), (nm2, hi2, ln2, op2, wd2))) s.heap.size = A at hD ⊢
  have hA : ∀ q : Nat, s.heap.size ≤ q → A q := fun q h => by rw [← hAe]; exact Or.inr h
  have hS : va_S A s.heap s.heap [] := va_S.rf
  have hP : va_P (dC, dI) zs_cl [(a 0, .inr (0, [.ref (a 1), .ref (a 7), .int (zs_b up)])), (a 1, .inr (1, [.ref (a 2), .ref (a 3), .ref (a 4), .ref (a 5), .ref (a 6)])), (a 2, .inl (cI, 24, .inl nm)), (a 3, .inl (cI, 24, .inl hi)), (a 4, .inl (cI, 24, .inl ln)), (a 5, .inl (cZ, 24, .inl op)), (a 6, .inl (cI, 1536, .inl wd)), (a 7, .inr (1, [.ref (a 8), .ref (a 9), .ref (a 10), .ref (a 11), .ref (a 12)])), (a 8, .inl (cI, 24, .inl nm2)), (a 9, .inl (cI, 24, .inl hi2)), (a 10, .inl (cI, 24, .inl ln2)), (a 11, .inl (cZ, 24, .inl op2)), (a 12, .inl (cI, 1536, .inl wd2))] s.heap := hP
  have hD : va_D A [(a 0, .inr (0, [.ref (a 1), .ref (a 7), .int (zs_b up)])), (a 1, .inr (1, [.ref (a 2), .ref (a 3), .ref (a 4), .ref (a 5), .ref (a 6)])), (a 2, .inl (cI, 24, .inl nm)), (a 3, .inl (cI, 24, .inl hi)), (a 4, .inl (cI, 24, .inl ln)), (a 5, .inl (cZ, 24, .inl op)), (a 6, .inl (cI, 1536, .inl wd)), (a 7, .inr (1, [.ref (a 8), .ref (a 9), .ref (a 10), .ref (a 11), .ref (a 12)])), (a 8, .inl (cI, 24, .inl nm2)), (a 9, .inl (cI, 24, .inl hi2)), (a 10, .inl (cI, 24, .inl ln2)), (a 11, .inl (cZ, 24, .inl op2)), (a 12, .inl (cI, 1536, .inl wd2))] := hD
  have hl := lv_entry ([.ref (a 0), .int o]) (n := 2) (Nat.le_of_ble_eq_true rfl)
  rw [lg_entry_eq]
  generalize (lg_sl ([.ref (a 0), .int o]) ++ List.replicate (2 - (lg_sl ([.ref (a 0), .int o])).length) Slot.unset).toArray = ls at hl ⊢
  have hl : lv_has ls 2 [(0, .ref (a 0)), (1, .int o)] := hl
  refine lv_aload_n hx hb zd_X_remove_0 rfl (lv_at hl 0 rfl) ?_
  refine lv_iload_n hx hb zd_X_remove_1 rfl (lv_at hl 1 rfl) ?_
  refine zc_rV (rest := []) [.int o] hx hb hml hown hz (zc_X_isThere l dC dI cI cZ a (up, (nm, hi, ln, op, wd), (nm2, hi2, ln2, op2, wd2)) o) zf_X_isThere rfl rfl zq_88 zq_89 zq_5 ⟨Nat.le_of_ble_eq_true rfl, Nat.le_of_ble_eq_true rfl⟩ hk (hP.sub [0, 1, 2, 3, 4, 5, 6, 7, 8, 9, 10, 11, 12] rfl) 0 0 rfl rfl rfl rfl hl.1 rfl (Nat.le_of_ble_eq_true rfl) zd_X_remove_2 ⟨Nat.zero_le _, Nat.zero_le _⟩ (fun r1 e2 => ?_)
  obtain rfl : r1 = zs_b (zs_is up nm o) := e2
  refine zi_ne (tgt := 10) hx hb zd_X_remove_5 rfl (fun h3 => ?_) (fun h3 => ?_)
  · obtain ⟨j, hj, rfl, hup, htk⟩ := zs_is_t h3
    refine lv_aload_n hx hb zd_X_remove_10 rfl (lv_at hl 0 rfl) ?_
    refine va_get (D := (dC, dI)) (ci := 0) (v := .ref (a 1)) (C := "ZoneShelf") (T := zs_T_X) (N := 3) hx hb hz zs_in_X hown hk.1 hP 0 rfl rfl 0 (by decide) (hz _ zq_52) (fun _ h9 => h9) rfl zd_X_remove_11 ?_
    refine lv_iload_n hx hb zd_X_remove_14 rfl (lv_at hl 1 rfl) ?_
    refine zc_wN (rest := []) (wr := [(a 0, .inr (0, [.ref (a 1), .ref (a 7), .int (zs_b up)])), (a 7, .inr (1, [.ref (a 8), .ref (a 9), .ref (a 10), .ref (a 11), .ref (a 12)])), (a 8, .inl (cI, 24, .inl nm2)), (a 9, .inl (cI, 24, .inl hi2)), (a 10, .inl (cI, 24, .inl ln2)), (a 11, .inl (cZ, 24, .inl op2)), (a 12, .inl (cI, 1536, .inl wd2))]) [.int (nI j)] hx hb hml hown hz (zc_C_takeAway l dC dI cI cZ (a 1) (a 2) (a 3) (a 4) (a 5) (a 6) (nm, hi, ln, op, wd) s.heap.size j hj) zf_C_takeAway rfl rfl zv_12 zq_110 zq_9 ⟨Nat.le_of_ble_eq_true rfl, Nat.le_of_ble_eq_true rfl⟩ hk hP hD hS hA [1, 2, 3, 4, 5, 6] [0, 7, 8, 9, 10, 11, 12] rfl rfl (by decide) (by decide) (by decide) 0 1 rfl rfl rfl rfl hl.1 rfl (Nat.le_of_ble_eq_true rfl) zd_X_remove_15 ⟨Nat.zero_le _, Nat.zero_le _⟩ (fun u6 H locs e5 hP hD hS => ?_)
    obtain rfl : u6 = (upd nm j (-1), hi, upd ln j 0, op, wd) := e5
    have hP : va_P (dC, dI) zs_cl [(a 0, .inr (0, [.ref (a 1), .ref (a 7), .int (zs_b up)])), (a 7, .inr (1, [.ref (a 8), .ref (a 9), .ref (a 10), .ref (a 11), .ref (a 12)])), (a 8, .inl (cI, 24, .inl nm2)), (a 9, .inl (cI, 24, .inl hi2)), (a 10, .inl (cI, 24, .inl ln2)), (a 11, .inl (cZ, 24, .inl op2)), (a 12, .inl (cI, 1536, .inl wd2)), (a 1, .inr (1, [.ref (a 2), .ref (a 3), .ref (a 4), .ref (a 5), .ref (a 6)])), (a 2, .inl (cI, 24, .inl (upd nm j (-1)))), (a 3, .inl (cI, 24, .inl hi)), (a 4, .inl (cI, 24, .inl (upd ln j 0))), (a 5, .inl (cZ, 24, .inl op)), (a 6, .inl (cI, 1536, .inl wd))] H := hP
    have hD : va_D A [(a 0, .inr (0, [.ref (a 1), .ref (a 7), .int (zs_b up)])), (a 7, .inr (1, [.ref (a 8), .ref (a 9), .ref (a 10), .ref (a 11), .ref (a 12)])), (a 8, .inl (cI, 24, .inl nm2)), (a 9, .inl (cI, 24, .inl hi2)), (a 10, .inl (cI, 24, .inl ln2)), (a 11, .inl (cZ, 24, .inl op2)), (a 12, .inl (cI, 1536, .inl wd2)), (a 1, .inr (1, [.ref (a 2), .ref (a 3), .ref (a 4), .ref (a 5), .ref (a 6)])), (a 2, .inl (cI, 24, .inl (upd nm j (-1)))), (a 3, .inl (cI, 24, .inl hi)), (a 4, .inl (cI, 24, .inl (upd ln j 0))), (a 5, .inl (cZ, 24, .inl op)), (a 6, .inl (cI, 1536, .inl wd))] := hD
    refine lv_iconst (v := 1) hx hb zd_X_remove_18 (by decide) ?_
    exact zw_zret (up, (upd nm j (-1), hi, upd ln j 0, op, wd), (nm2, hi2, ln2, op2, wd2)) hx hb hr hlocks zd_X_remove_19 rfl (show (1, (up, (upd nm j (-1), hi, upd ln j 0, op, wd), (nm2, hi2, ln2, op2, wd2))) = zs_remove (up, (nm, hi, ln, op, wd), (nm2, hi2, ln2, op2, wd2)) (nI j)  from by simp [zs_remove, h3, nI_clamp (show j < 2 ^ 31 by omega)]) (hP.sub [0, 7, 8, 9, 10, 11, 12, 1, 2, 3, 4, 5, 6] rfl) (hD.sub [0, 7, 8, 9, 10, 11, 12, 1, 2, 3, 4, 5, 6] (by decide) rfl) hS
  · refine lv_iconst (v := 0) hx hb zd_X_remove_8 (by decide) ?_
    exact zw_zret (up, (nm, hi, ln, op, wd), (nm2, hi2, ln2, op2, wd2)) hx hb hr hlocks zd_X_remove_9 rfl (show (0, (up, (nm, hi, ln, op, wd), (nm2, hi2, ln2, op2, wd2))) = zs_remove (up, (nm, hi, ln, op, wd), (nm2, hi2, ln2, op2, wd2)) o  from by simp [zs_remove, h3]) hP hD hS
set_option maxHeartbeats 4000000 in
set_option maxRecDepth 100000 in
theorem zc_X_rename (l : Launch) (dC : Nat → ClassId) (dI : Nat → Nat → Nat) (cI cZ : ClassId) (a : Nat → Nat) (u : zs_X) (sz : Nat) (o n : Int32) : Met l zy_X_rename (.code zy_X_rename zb_X_rename 3 (some .boolean) :: zs_w) ({ frames := 2, cells := 0, slots := 0, locals := 43 }) (va_Pc [.ref (a 0), .int o, .int n] (zs_s dC dI cI cZ sz (zs_wX cI cZ a u))) (va_Qi (fun r (v : zs_X) => (r, v) = zs_rename u o n) (zs_e dC dI (zs_wX cI cZ a) (va_A (zs_wX cI cZ a u) sz)) (va_A (zs_wX cI cZ a u) sz)) 0 0 (va_A (zs_wX cI cZ a u) sz) := by
  obtain ⟨up, ⟨nm, hi, ln, op, wd⟩, ⟨nm2, hi2, ln2, op2, wd2⟩⟩ := u
  refine Met.ofW (cc := zb_X_rename) (maxL := 3) (ret := (some .boolean)) (by decide) rfl ?_
  intro p e s m args below meth c s₁ B hml hv
  obtain ⟨rfl, hsz, hP, hk, hD0⟩ := hv
  have hx := B.exec
  have hb := B.bytes
  have hr := B.returns
  have hts := atoms_spec (ws := .code zy_X_rename zb_X_rename 3 (some .boolean) :: zs_w) B.pre
  have hz : ∀ w ∈ zs_w, w.before _ s = true := fun w h => hts w (List.mem_cons_of_mem _ h)
  have hown : s.vm.findClass "ZoneShelf" = some m.cls := findClass_of_methodNamed B.named
  have hlocks := B.notSynchronized
  subst hsz
  have hD := hD0.self (sz := s.heap.size)
  generalize hAe : va_A (zs_wX cI cZ a (up, (nm, hi, ln, op, wd), (nm2, hi2, ln2, op2, wd2))) s.heap.size = A at hD ⊢
  have hA : ∀ q : Nat, s.heap.size ≤ q → A q := fun q h => by rw [← hAe]; exact Or.inr h
  have hS : va_S A s.heap s.heap [] := va_S.rf
  have hP : va_P (dC, dI) zs_cl [(a 0, .inr (0, [.ref (a 1), .ref (a 7), .int (zs_b up)])), (a 1, .inr (1, [.ref (a 2), .ref (a 3), .ref (a 4), .ref (a 5), .ref (a 6)])), (a 2, .inl (cI, 24, .inl nm)), (a 3, .inl (cI, 24, .inl hi)), (a 4, .inl (cI, 24, .inl ln)), (a 5, .inl (cZ, 24, .inl op)), (a 6, .inl (cI, 1536, .inl wd)), (a 7, .inr (1, [.ref (a 8), .ref (a 9), .ref (a 10), .ref (a 11), .ref (a 12)])), (a 8, .inl (cI, 24, .inl nm2)), (a 9, .inl (cI, 24, .inl hi2)), (a 10, .inl (cI, 24, .inl ln2)), (a 11, .inl (cZ, 24, .inl op2)), (a 12, .inl (cI, 1536, .inl wd2))] s.heap := hP
  have hD : va_D A [(a 0, .inr (0, [.ref (a 1), .ref (a 7), .int (zs_b up)])), (a 1, .inr (1, [.ref (a 2), .ref (a 3), .ref (a 4), .ref (a 5), .ref (a 6)])), (a 2, .inl (cI, 24, .inl nm)), (a 3, .inl (cI, 24, .inl hi)), (a 4, .inl (cI, 24, .inl ln)), (a 5, .inl (cZ, 24, .inl op)), (a 6, .inl (cI, 1536, .inl wd)), (a 7, .inr (1, [.ref (a 8), .ref (a 9), .ref (a 10), .ref (a 11), .ref (a 12)])), (a 8, .inl (cI, 24, .inl nm2)), (a 9, .inl (cI, 24, .inl hi2)), (a 10, .inl (cI, 24, .inl ln2)), (a 11, .inl (cZ, 24, .inl op2)), (a 12, .inl (cI, 1536, .inl wd2))] := hD
  have hl := lv_entry ([.ref (a 0), .int o, .int n]) (n := 3) (Nat.le_of_ble_eq_true rfl)
  rw [lg_entry_eq]
  generalize (lg_sl ([.ref (a 0), .int o, .int n]) ++ List.replicate (3 - (lg_sl ([.ref (a 0), .int o, .int n])).length) Slot.unset).toArray = ls at hl ⊢
  have hl : lv_has ls 3 [(0, .ref (a 0)), (1, .int o), (2, .int n)] := hl
  refine lv_aload_n hx hb zd_X_rename_0 rfl (lv_at hl 0 rfl) ?_
  refine lv_iload_n hx hb zd_X_rename_1 rfl (lv_at hl 1 rfl) ?_
  refine zc_rV (rest := []) [.int o] hx hb hml hown hz (zc_X_isThere l dC dI cI cZ a (up, (nm, hi, ln, op, wd), (nm2, hi2, ln2, op2, wd2)) o) zf_X_isThere rfl rfl zq_88 zq_89 zq_5 ⟨Nat.le_of_ble_eq_true rfl, Nat.le_of_ble_eq_true rfl⟩ hk (hP.sub [0, 1, 2, 3, 4, 5, 6, 7, 8, 9, 10, 11, 12] rfl) 0 0 rfl rfl rfl rfl hl.1 rfl (Nat.le_of_ble_eq_true rfl) zd_X_rename_2 ⟨Nat.zero_le _, Nat.zero_le _⟩ (fun r1 e2 => ?_)
  obtain rfl : r1 = zs_b (zs_is up nm o) := e2
  refine zi_eq (tgt := 16) hx hb zd_X_rename_5 rfl (fun h3 => ?_) (fun h3 => ?_)
  · refine lv_iconst (v := 0) hx hb zd_X_rename_16 (by decide) ?_
    exact zw_zret (up, (nm, hi, ln, op, wd), (nm2, hi2, ln2, op2, wd2)) hx hb hr hlocks zd_X_rename_17 rfl (show (0, (up, (nm, hi, ln, op, wd), (nm2, hi2, ln2, op2, wd2))) = zs_rename (up, (nm, hi, ln, op, wd), (nm2, hi2, ln2, op2, wd2)) o n from by simp [zs_rename, h3]) hP hD hS
  · obtain ⟨j, hj, rfl, hup, htk⟩ := zs_is_t h3
    refine lv_aload_n hx hb zd_X_rename_8 rfl (lv_at hl 0 rfl) ?_
    refine lv_iload_n hx hb zd_X_rename_9 rfl (lv_at hl 2 rfl) ?_
    refine zc_rV (rest := []) [.int n] hx hb hml hown hz (zc_X_isFreeName l dC dI cI cZ a (up, (nm, hi, ln, op, wd), (nm2, hi2, ln2, op2, wd2)) n) zf_X_isFreeName rfl rfl zq_62 zq_63 zq_0 ⟨Nat.le_of_ble_eq_true rfl, Nat.le_of_ble_eq_true rfl⟩ hk (hP.sub [0, 1, 2, 3, 4, 5, 6, 7, 8, 9, 10, 11, 12] rfl) 0 0 rfl rfl rfl rfl hl.1 rfl (Nat.le_of_ble_eq_true rfl) zd_X_rename_10 ⟨Nat.zero_le _, Nat.zero_le _⟩ (fun r4 e5 => ?_)
    obtain rfl : r4 = zs_b (zs_fr nm n) := e5
    refine zi_ne (tgt := 18) hx hb zd_X_rename_13 rfl (fun h6 => ?_) (fun h6 => ?_)
    · refine lv_aload_n hx hb zd_X_rename_18 rfl (lv_at hl 0 rfl) ?_
      refine va_get (D := (dC, dI)) (ci := 0) (v := .ref (a 1)) (C := "ZoneShelf") (T := zs_T_X) (N := 3) hx hb hz zs_in_X hown hk.1 hP 0 rfl rfl 0 (by decide) (hz _ zq_52) (fun _ h9 => h9) rfl zd_X_rename_19 ?_
      refine va_getN (D := (dC, dI)) (ci := 1) (v := .ref (a 2)) (C := "ZoneShelf$Contents") (T := zs_T_C) (N := 5) hx hb hz zs_in_C hown hk.1 hP 1 rfl rfl 0 (by decide) (va_Nw.use rfl (hk.2 _ zv_1)) (fun _ h9 => h9) rfl zd_X_rename_22 ?_
      refine lv_iload_n hx hb zd_X_rename_25 rfl (lv_at hl 1 rfl) ?_
      refine lv_iload_n hx hb zd_X_rename_26 rfl (lv_at hl 2 rfl) ?_
      refine zi_ast hx hb hk hP hD hS 2 (j := j) rfl (by omega) (by decide) zd_X_rename_27 (fun H locs hP hD hS => ?_)
      have hP : va_P (dC, dI) zs_cl [(a 0, .inr (0, [.ref (a 1), .ref (a 7), .int (zs_b up)])), (a 1, .inr (1, [.ref (a 2), .ref (a 3), .ref (a 4), .ref (a 5), .ref (a 6)])), (a 2, .inl (cI, 24, .inl (upd nm j n))), (a 3, .inl (cI, 24, .inl hi)), (a 4, .inl (cI, 24, .inl ln)), (a 5, .inl (cZ, 24, .inl op)), (a 6, .inl (cI, 1536, .inl wd)), (a 7, .inr (1, [.ref (a 8), .ref (a 9), .ref (a 10), .ref (a 11), .ref (a 12)])), (a 8, .inl (cI, 24, .inl nm2)), (a 9, .inl (cI, 24, .inl hi2)), (a 10, .inl (cI, 24, .inl ln2)), (a 11, .inl (cZ, 24, .inl op2)), (a 12, .inl (cI, 1536, .inl wd2))] H := hP
      have hD : va_D A [(a 0, .inr (0, [.ref (a 1), .ref (a 7), .int (zs_b up)])), (a 1, .inr (1, [.ref (a 2), .ref (a 3), .ref (a 4), .ref (a 5), .ref (a 6)])), (a 2, .inl (cI, 24, .inl (upd nm j n))), (a 3, .inl (cI, 24, .inl hi)), (a 4, .inl (cI, 24, .inl ln)), (a 5, .inl (cZ, 24, .inl op)), (a 6, .inl (cI, 1536, .inl wd)), (a 7, .inr (1, [.ref (a 8), .ref (a 9), .ref (a 10), .ref (a 11), .ref (a 12)])), (a 8, .inl (cI, 24, .inl nm2)), (a 9, .inl (cI, 24, .inl hi2)), (a 10, .inl (cI, 24, .inl ln2)), (a 11, .inl (cZ, 24, .inl op2)), (a 12, .inl (cI, 1536, .inl wd2))] := hD
      refine lv_iconst (v := 1) hx hb zd_X_rename_28 (by decide) ?_
      exact zw_zret (up, (upd nm j n, hi, ln, op, wd), (nm2, hi2, ln2, op2, wd2)) hx hb hr hlocks zd_X_rename_29 rfl (show (1, (up, (upd nm j n, hi, ln, op, wd), (nm2, hi2, ln2, op2, wd2))) = zs_rename (up, (nm, hi, ln, op, wd), (nm2, hi2, ln2, op2, wd2)) (nI j) n from by simp [zs_rename, h3, nI_clamp (show j < 2 ^ 31 by omega), h6]) hP hD hS
    · refine lv_iconst (v := 0) hx hb zd_X_rename_16 (by decide) ?_
      exact zw_zret (up, (nm, hi, ln, op, wd), (nm2, hi2, ln2, op2, wd2)) hx hb hr hlocks zd_X_rename_17 rfl (show (0, (up, (nm, hi, ln, op, wd), (nm2, hi2, ln2, op2, wd2))) = zs_rename (up, (nm, hi, ln, op, wd), (nm2, hi2, ln2, op2, wd2)) (nI j) n from by simp [zs_rename, h3, nI_clamp (show j < 2 ^ 31 by omega), h6]) hP hD hS
set_option maxHeartbeats 4000000 in
set_option maxRecDepth 100000 in
theorem zc_X_sync (l : Launch) (dC : Nat → ClassId) (dI : Nat → Nat → Nat) (cI cZ : ClassId) (a : Nat → Nat) (u : zs_X) (sz : Nat)  : Met l zy_X_sync (.code zy_X_sync zb_X_sync 1 (some .boolean) :: zs_w) ({ frames := 2, cells := 0, slots := 0, locals := 48 }) (va_Pc [.ref (a 0)] (zs_s dC dI cI cZ sz (zs_wX cI cZ a u))) (va_Qi (fun r (v : zs_X) => (r, v) = zs_sync u) (zs_e dC dI (zs_wX cI cZ a) (va_A (zs_wX cI cZ a u) sz)) (va_A (zs_wX cI cZ a u) sz)) 0 0 (va_A (zs_wX cI cZ a u) sz) := by
  obtain ⟨up, ⟨nm, hi, ln, op, wd⟩, ⟨nm2, hi2, ln2, op2, wd2⟩⟩ := u
  refine Met.ofW (cc := zb_X_sync) (maxL := 1) (ret := (some .boolean)) (by decide) rfl ?_
  intro p e s m args below meth c s₁ B hml hv
  obtain ⟨rfl, hsz, hP, hk, hD0⟩ := hv
  have hx := B.exec
  have hb := B.bytes
  have hr := B.returns
  have hts := atoms_spec (ws := .code zy_X_sync zb_X_sync 1 (some .boolean) :: zs_w) B.pre
  have hz : ∀ w ∈ zs_w, w.before _ s = true := fun w h => hts w (List.mem_cons_of_mem _ h)
  have hown : s.vm.findClass "ZoneShelf" = some m.cls := findClass_of_methodNamed B.named
  have hlocks := B.notSynchronized
  subst hsz
  have hD := hD0.self (sz := s.heap.size)
  generalize hAe : va_A (zs_wX cI cZ a (up, (nm, hi, ln, op, wd), (nm2, hi2, ln2, op2, wd2))) s.heap.size = A at hD ⊢
  have hA : ∀ q : Nat, s.heap.size ≤ q → A q := fun q h => by rw [← hAe]; exact Or.inr h
  have hS : va_S A s.heap s.heap [] := va_S.rf
  have hP : va_P (dC, dI) zs_cl [(a 0, .inr (0, [.ref (a 1), .ref (a 7), .int (zs_b up)])), (a 1, .inr (1, [.ref (a 2), .ref (a 3), .ref (a 4), .ref (a 5), .ref (a 6)])), (a 2, .inl (cI, 24, .inl nm)), (a 3, .inl (cI, 24, .inl hi)), (a 4, .inl (cI, 24, .inl ln)), (a 5, .inl (cZ, 24, .inl op)), (a 6, .inl (cI, 1536, .inl wd)), (a 7, .inr (1, [.ref (a 8), .ref (a 9), .ref (a 10), .ref (a 11), .ref (a 12)])), (a 8, .inl (cI, 24, .inl nm2)), (a 9, .inl (cI, 24, .inl hi2)), (a 10, .inl (cI, 24, .inl ln2)), (a 11, .inl (cZ, 24, .inl op2)), (a 12, .inl (cI, 1536, .inl wd2))] s.heap := hP
  have hD : va_D A [(a 0, .inr (0, [.ref (a 1), .ref (a 7), .int (zs_b up)])), (a 1, .inr (1, [.ref (a 2), .ref (a 3), .ref (a 4), .ref (a 5), .ref (a 6)])), (a 2, .inl (cI, 24, .inl nm)), (a 3, .inl (cI, 24, .inl hi)), (a 4, .inl (cI, 24, .inl ln)), (a 5, .inl (cZ, 24, .inl op)), (a 6, .inl (cI, 1536, .inl wd)), (a 7, .inr (1, [.ref (a 8), .ref (a 9), .ref (a 10), .ref (a 11), .ref (a 12)])), (a 8, .inl (cI, 24, .inl nm2)), (a 9, .inl (cI, 24, .inl hi2)), (a 10, .inl (cI, 24, .inl ln2)), (a 11, .inl (cZ, 24, .inl op2)), (a 12, .inl (cI, 1536, .inl wd2))] := hD
  have hl := lv_entry ([.ref (a 0)]) (n := 1) (Nat.le_of_ble_eq_true rfl)
  rw [lg_entry_eq]
  generalize (lg_sl ([.ref (a 0)]) ++ List.replicate (1 - (lg_sl ([.ref (a 0)])).length) Slot.unset).toArray = ls at hl ⊢
  have hl : lv_has ls 1 [(0, .ref (a 0))] := hl
  refine lv_aload_n hx hb zd_X_sync_0 rfl (lv_at hl 0 rfl) ?_
  refine va_get (D := (dC, dI)) (ci := 0) (v := .int (zs_b up)) (C := "ZoneShelf") (T := zs_T_X) (N := 3) hx hb hz zs_in_X hown hk.1 hP 0 rfl rfl 2 (by decide) (hz _ zq_54) (fun _ h9 => h9) rfl zd_X_sync_1 ?_
  refine zi_ne (tgt := 9) hx hb zd_X_sync_4 rfl (fun h1 => ?_) (fun h1 => ?_)
  · subst h1
    refine lv_aload_n hx hb zd_X_sync_9 rfl (lv_at hl 0 rfl) ?_
    refine va_get (D := (dC, dI)) (ci := 0) (v := .ref (a 7)) (C := "ZoneShelf") (T := zs_T_X) (N := 3) hx hb hz zs_in_X hown hk.1 hP 0 rfl rfl 1 (by decide) (hz _ zq_53) (fun _ h9 => h9) rfl zd_X_sync_10 ?_
    refine lv_aload_n hx hb zd_X_sync_13 rfl (lv_at hl 0 rfl) ?_
    refine va_get (D := (dC, dI)) (ci := 0) (v := .ref (a 1)) (C := "ZoneShelf") (T := zs_T_X) (N := 3) hx hb hz zs_in_X hown hk.1 hP 0 rfl rfl 0 (by decide) (hz _ zq_52) (fun _ h9 => h9) rfl zd_X_sync_14 ?_
    refine zc_wN (rest := []) (wr := [(a 0, .inr (0, [.ref (a 1), .ref (a 7), .int (zs_b true)]))]) [.ref (a 1)] hx hb hml hown hz (zc_C_copyFrom l dC dI cI cZ (a 7) (a 8) (a 9) (a 10) (a 11) (a 12) (a 1) (a 2) (a 3) (a 4) (a 5) (a 6) (nm2, hi2, ln2, op2, wd2) (nm, hi, ln, op, wd) s.heap.size) zf_C_copyFrom rfl rfl zv_13 zq_120 zq_10 ⟨Nat.le_of_ble_eq_true rfl, Nat.le_of_ble_eq_true rfl⟩ hk hP hD hS hA [7, 8, 9, 10, 11, 12, 1, 2, 3, 4, 5, 6] [0] rfl rfl (by decide) (by decide) (by decide) 0 1 rfl rfl rfl rfl hl.1 rfl (Nat.le_of_ble_eq_true rfl) zd_X_sync_17 ⟨Nat.zero_le _, Nat.zero_le _⟩ (fun u4 H locs e3 hP hD hS => ?_)
    obtain rfl : u4 = zs_copy (nm, hi, ln, op, wd) (nm2, hi2, ln2, op2, wd2) := e3
    have hP : va_P (dC, dI) zs_cl [(a 0, .inr (0, [.ref (a 1), .ref (a 7), .int (zs_b true)])), (a 7, .inr (1, [.ref (a 8), .ref (a 9), .ref (a 10), .ref (a 11), .ref (a 12)])), (a 8, .inl (cI, 24, .inl (zs_cp nm nm2 24))), (a 9, .inl (cI, 24, .inl (zs_cp hi hi2 24))), (a 10, .inl (cI, 24, .inl (zs_cp ln ln2 24))), (a 11, .inl (cZ, 24, .inl (zs_cz op op2 24))), (a 12, .inl (cI, 1536, .inl (va_cpy wd wd2 0 0 1536))), (a 1, .inr (1, [.ref (a 2), .ref (a 3), .ref (a 4), .ref (a 5), .ref (a 6)])), (a 2, .inl (cI, 24, .inl nm)), (a 3, .inl (cI, 24, .inl hi)), (a 4, .inl (cI, 24, .inl ln)), (a 5, .inl (cZ, 24, .inl op)), (a 6, .inl (cI, 1536, .inl wd))] H := hP
    have hD : va_D A [(a 0, .inr (0, [.ref (a 1), .ref (a 7), .int (zs_b true)])), (a 7, .inr (1, [.ref (a 8), .ref (a 9), .ref (a 10), .ref (a 11), .ref (a 12)])), (a 8, .inl (cI, 24, .inl (zs_cp nm nm2 24))), (a 9, .inl (cI, 24, .inl (zs_cp hi hi2 24))), (a 10, .inl (cI, 24, .inl (zs_cp ln ln2 24))), (a 11, .inl (cZ, 24, .inl (zs_cz op op2 24))), (a 12, .inl (cI, 1536, .inl (va_cpy wd wd2 0 0 1536))), (a 1, .inr (1, [.ref (a 2), .ref (a 3), .ref (a 4), .ref (a 5), .ref (a 6)])), (a 2, .inl (cI, 24, .inl nm)), (a 3, .inl (cI, 24, .inl hi)), (a 4, .inl (cI, 24, .inl ln)), (a 5, .inl (cZ, 24, .inl op)), (a 6, .inl (cI, 1536, .inl wd))] := hD
    refine lv_iconst (v := 1) hx hb zd_X_sync_20 (by decide) ?_
    exact zw_zret (true, (nm, hi, ln, op, wd), (zs_cp nm nm2 24, zs_cp hi hi2 24, zs_cp ln ln2 24, zs_cz op op2 24, va_cpy wd wd2 0 0 1536)) hx hb hr hlocks zd_X_sync_21 rfl (show (1, (true, (nm, hi, ln, op, wd), (zs_cp nm nm2 24, zs_cp hi hi2 24, zs_cp ln ln2 24, zs_cz op op2 24, va_cpy wd wd2 0 0 1536))) = zs_sync (true, (nm, hi, ln, op, wd), (nm2, hi2, ln2, op2, wd2)) from by simp [zs_sync, zs_copy]) (hP.sub [0, 7, 8, 9, 10, 11, 12, 1, 2, 3, 4, 5, 6] rfl) (hD.sub [0, 7, 8, 9, 10, 11, 12, 1, 2, 3, 4, 5, 6] (by decide) rfl) hS
  · subst h1
    refine lv_iconst (v := 0) hx hb zd_X_sync_7 (by decide) ?_
    exact zw_zret (false, (nm, hi, ln, op, wd), (nm2, hi2, ln2, op2, wd2)) hx hb hr hlocks zd_X_sync_8 rfl (show (0, (false, (nm, hi, ln, op, wd), (nm2, hi2, ln2, op2, wd2))) = zs_sync (false, (nm, hi, ln, op, wd), (nm2, hi2, ln2, op2, wd2)) from by simp [zs_sync, zs_copy]) hP hD hS
set_option maxHeartbeats 4000000 in
set_option maxRecDepth 100000 in
theorem zc_X_cut (l : Launch) (dC : Nat → ClassId) (dI : Nat → Nat → Nat) (cI cZ : ClassId) (a : Nat → Nat) (u : zs_X) (sz : Nat)  : Met l zy_X_cut (.code zy_X_cut zb_X_cut 1 (some .boolean) :: zs_w) ({ frames := 0, cells := 0, slots := 0, locals := 0 }) (va_Pc [.ref (a 0)] (zs_s dC dI cI cZ sz (zs_wX cI cZ a u))) (va_Qi (fun r (v : zs_X) => (r, v) = zs_cut u) (zs_e dC dI (zs_wX cI cZ a) (va_A (zs_wX cI cZ a u) sz)) (va_A (zs_wX cI cZ a u) sz)) 0 0 (va_A (zs_wX cI cZ a u) sz) := by
  obtain ⟨up, ⟨nm, hi, ln, op, wd⟩, ⟨nm2, hi2, ln2, op2, wd2⟩⟩ := u
  refine Met.ofW (cc := zb_X_cut) (maxL := 1) (ret := (some .boolean)) (by decide) rfl ?_
  intro p e s m args below meth c s₁ B hml hv
  obtain ⟨rfl, hsz, hP, hk, hD0⟩ := hv
  have hx := B.exec
  have hb := B.bytes
  have hr := B.returns
  have hts := atoms_spec (ws := .code zy_X_cut zb_X_cut 1 (some .boolean) :: zs_w) B.pre
  have hz : ∀ w ∈ zs_w, w.before _ s = true := fun w h => hts w (List.mem_cons_of_mem _ h)
  have hown : s.vm.findClass "ZoneShelf" = some m.cls := findClass_of_methodNamed B.named
  have hlocks := B.notSynchronized
  subst hsz
  have hD := hD0.self (sz := s.heap.size)
  generalize hAe : va_A (zs_wX cI cZ a (up, (nm, hi, ln, op, wd), (nm2, hi2, ln2, op2, wd2))) s.heap.size = A at hD ⊢
  have hA : ∀ q : Nat, s.heap.size ≤ q → A q := fun q h => by rw [← hAe]; exact Or.inr h
  have hS : va_S A s.heap s.heap [] := va_S.rf
  have hP : va_P (dC, dI) zs_cl [(a 0, .inr (0, [.ref (a 1), .ref (a 7), .int (zs_b up)])), (a 1, .inr (1, [.ref (a 2), .ref (a 3), .ref (a 4), .ref (a 5), .ref (a 6)])), (a 2, .inl (cI, 24, .inl nm)), (a 3, .inl (cI, 24, .inl hi)), (a 4, .inl (cI, 24, .inl ln)), (a 5, .inl (cZ, 24, .inl op)), (a 6, .inl (cI, 1536, .inl wd)), (a 7, .inr (1, [.ref (a 8), .ref (a 9), .ref (a 10), .ref (a 11), .ref (a 12)])), (a 8, .inl (cI, 24, .inl nm2)), (a 9, .inl (cI, 24, .inl hi2)), (a 10, .inl (cI, 24, .inl ln2)), (a 11, .inl (cZ, 24, .inl op2)), (a 12, .inl (cI, 1536, .inl wd2))] s.heap := hP
  have hD : va_D A [(a 0, .inr (0, [.ref (a 1), .ref (a 7), .int (zs_b up)])), (a 1, .inr (1, [.ref (a 2), .ref (a 3), .ref (a 4), .ref (a 5), .ref (a 6)])), (a 2, .inl (cI, 24, .inl nm)), (a 3, .inl (cI, 24, .inl hi)), (a 4, .inl (cI, 24, .inl ln)), (a 5, .inl (cZ, 24, .inl op)), (a 6, .inl (cI, 1536, .inl wd)), (a 7, .inr (1, [.ref (a 8), .ref (a 9), .ref (a 10), .ref (a 11), .ref (a 12)])), (a 8, .inl (cI, 24, .inl nm2)), (a 9, .inl (cI, 24, .inl hi2)), (a 10, .inl (cI, 24, .inl ln2)), (a 11, .inl (cZ, 24, .inl op2)), (a 12, .inl (cI, 1536, .inl wd2))] := hD
  have hl := lv_entry ([.ref (a 0)]) (n := 1) (Nat.le_of_ble_eq_true rfl)
  rw [lg_entry_eq]
  generalize (lg_sl ([.ref (a 0)]) ++ List.replicate (1 - (lg_sl ([.ref (a 0)])).length) Slot.unset).toArray = ls at hl ⊢
  have hl : lv_has ls 1 [(0, .ref (a 0))] := hl
  refine lv_aload_n hx hb zd_X_cut_0 rfl (lv_at hl 0 rfl) ?_
  refine va_get (D := (dC, dI)) (ci := 0) (v := .int (zs_b up)) (C := "ZoneShelf") (T := zs_T_X) (N := 3) hx hb hz zs_in_X hown hk.1 hP 0 rfl rfl 2 (by decide) (hz _ zq_54) (fun _ h9 => h9) rfl zd_X_cut_1 ?_
  refine zi_ne (tgt := 9) hx hb zd_X_cut_4 rfl (fun h1 => ?_) (fun h1 => ?_)
  · subst h1
    refine lv_aload_n hx hb zd_X_cut_9 rfl (lv_at hl 0 rfl) ?_
    refine lv_iconst (v := 0) hx hb zd_X_cut_10 (by decide) ?_
    refine va_put (D := (dC, dI)) (ci := 0) (v := .int 0) (ty := .boolean) (C := "ZoneShelf") (T := zs_T_X) (N := 3) hx hb hz zs_in_X zs_t_X zs_tok_X zs_nok_X hown hk.1 hP hD hS 0 rfl rfl 2 (by decide) (hz _ zq_54) (fun _ h9 => h9) rfl (by decide +kernel) rfl rfl (Nat.le_of_ble_eq_true rfl) zd_X_cut_11 (fun H locs hP hD hS => ?_)
    have hP : va_P (dC, dI) zs_cl [(a 0, .inr (0, [.ref (a 1), .ref (a 7), .int (zs_b false)])), (a 1, .inr (1, [.ref (a 2), .ref (a 3), .ref (a 4), .ref (a 5), .ref (a 6)])), (a 2, .inl (cI, 24, .inl nm)), (a 3, .inl (cI, 24, .inl hi)), (a 4, .inl (cI, 24, .inl ln)), (a 5, .inl (cZ, 24, .inl op)), (a 6, .inl (cI, 1536, .inl wd)), (a 7, .inr (1, [.ref (a 8), .ref (a 9), .ref (a 10), .ref (a 11), .ref (a 12)])), (a 8, .inl (cI, 24, .inl nm2)), (a 9, .inl (cI, 24, .inl hi2)), (a 10, .inl (cI, 24, .inl ln2)), (a 11, .inl (cZ, 24, .inl op2)), (a 12, .inl (cI, 1536, .inl wd2))] H := hP
    have hD : va_D A [(a 0, .inr (0, [.ref (a 1), .ref (a 7), .int (zs_b false)])), (a 1, .inr (1, [.ref (a 2), .ref (a 3), .ref (a 4), .ref (a 5), .ref (a 6)])), (a 2, .inl (cI, 24, .inl nm)), (a 3, .inl (cI, 24, .inl hi)), (a 4, .inl (cI, 24, .inl ln)), (a 5, .inl (cZ, 24, .inl op)), (a 6, .inl (cI, 1536, .inl wd)), (a 7, .inr (1, [.ref (a 8), .ref (a 9), .ref (a 10), .ref (a 11), .ref (a 12)])), (a 8, .inl (cI, 24, .inl nm2)), (a 9, .inl (cI, 24, .inl hi2)), (a 10, .inl (cI, 24, .inl ln2)), (a 11, .inl (cZ, 24, .inl op2)), (a 12, .inl (cI, 1536, .inl wd2))] := hD
    refine lv_iconst (v := 1) hx hb zd_X_cut_14 (by decide) ?_
    exact zw_zret (false, (nm, hi, ln, op, wd), (nm2, hi2, ln2, op2, wd2)) hx hb hr hlocks zd_X_cut_15 rfl (show (1, (false, (nm, hi, ln, op, wd), (nm2, hi2, ln2, op2, wd2))) = zs_cut (true, (nm, hi, ln, op, wd), (nm2, hi2, ln2, op2, wd2)) from by simp [zs_cut]) hP hD hS
  · subst h1
    refine lv_iconst (v := 0) hx hb zd_X_cut_7 (by decide) ?_
    exact zw_zret (false, (nm, hi, ln, op, wd), (nm2, hi2, ln2, op2, wd2)) hx hb hr hlocks zd_X_cut_8 rfl (show (0, (false, (nm, hi, ln, op, wd), (nm2, hi2, ln2, op2, wd2))) = zs_cut (false, (nm, hi, ln, op, wd), (nm2, hi2, ln2, op2, wd2)) from by simp [zs_cut]) hP hD hS
set_option maxHeartbeats 4000000 in
set_option maxRecDepth 100000 in
theorem zc_X_mount (l : Launch) (dC : Nat → ClassId) (dI : Nat → Nat → Nat) (cI cZ : ClassId) (a : Nat → Nat) (u : zs_X) (sz : Nat)  : Met l zy_X_mount (.code zy_X_mount zb_X_mount 1 (some .boolean) :: zs_w) ({ frames := 2, cells := 0, slots := 0, locals := 48 }) (va_Pc [.ref (a 0)] (zs_s dC dI cI cZ sz (zs_wX cI cZ a u))) (va_Qi (fun r (v : zs_X) => (r, v) = zs_mount u) (zs_e dC dI (zs_wX cI cZ a) (va_A (zs_wX cI cZ a u) sz)) (va_A (zs_wX cI cZ a u) sz)) 0 0 (va_A (zs_wX cI cZ a u) sz) := by
  obtain ⟨up, ⟨nm, hi, ln, op, wd⟩, ⟨nm2, hi2, ln2, op2, wd2⟩⟩ := u
  refine Met.ofW (cc := zb_X_mount) (maxL := 1) (ret := (some .boolean)) (by decide) rfl ?_
  intro p e s m args below meth c s₁ B hml hv
  obtain ⟨rfl, hsz, hP, hk, hD0⟩ := hv
  have hx := B.exec
  have hb := B.bytes
  have hr := B.returns
  have hts := atoms_spec (ws := .code zy_X_mount zb_X_mount 1 (some .boolean) :: zs_w) B.pre
  have hz : ∀ w ∈ zs_w, w.before _ s = true := fun w h => hts w (List.mem_cons_of_mem _ h)
  have hown : s.vm.findClass "ZoneShelf" = some m.cls := findClass_of_methodNamed B.named
  have hlocks := B.notSynchronized
  subst hsz
  have hD := hD0.self (sz := s.heap.size)
  generalize hAe : va_A (zs_wX cI cZ a (up, (nm, hi, ln, op, wd), (nm2, hi2, ln2, op2, wd2))) s.heap.size = A at hD ⊢
  have hA : ∀ q : Nat, s.heap.size ≤ q → A q := fun q h => by rw [← hAe]; exact Or.inr h
  have hS : va_S A s.heap s.heap [] := va_S.rf
  have hP : va_P (dC, dI) zs_cl [(a 0, .inr (0, [.ref (a 1), .ref (a 7), .int (zs_b up)])), (a 1, .inr (1, [.ref (a 2), .ref (a 3), .ref (a 4), .ref (a 5), .ref (a 6)])), (a 2, .inl (cI, 24, .inl nm)), (a 3, .inl (cI, 24, .inl hi)), (a 4, .inl (cI, 24, .inl ln)), (a 5, .inl (cZ, 24, .inl op)), (a 6, .inl (cI, 1536, .inl wd)), (a 7, .inr (1, [.ref (a 8), .ref (a 9), .ref (a 10), .ref (a 11), .ref (a 12)])), (a 8, .inl (cI, 24, .inl nm2)), (a 9, .inl (cI, 24, .inl hi2)), (a 10, .inl (cI, 24, .inl ln2)), (a 11, .inl (cZ, 24, .inl op2)), (a 12, .inl (cI, 1536, .inl wd2))] s.heap := hP
  have hD : va_D A [(a 0, .inr (0, [.ref (a 1), .ref (a 7), .int (zs_b up)])), (a 1, .inr (1, [.ref (a 2), .ref (a 3), .ref (a 4), .ref (a 5), .ref (a 6)])), (a 2, .inl (cI, 24, .inl nm)), (a 3, .inl (cI, 24, .inl hi)), (a 4, .inl (cI, 24, .inl ln)), (a 5, .inl (cZ, 24, .inl op)), (a 6, .inl (cI, 1536, .inl wd)), (a 7, .inr (1, [.ref (a 8), .ref (a 9), .ref (a 10), .ref (a 11), .ref (a 12)])), (a 8, .inl (cI, 24, .inl nm2)), (a 9, .inl (cI, 24, .inl hi2)), (a 10, .inl (cI, 24, .inl ln2)), (a 11, .inl (cZ, 24, .inl op2)), (a 12, .inl (cI, 1536, .inl wd2))] := hD
  have hl := lv_entry ([.ref (a 0)]) (n := 1) (Nat.le_of_ble_eq_true rfl)
  rw [lg_entry_eq]
  generalize (lg_sl ([.ref (a 0)]) ++ List.replicate (1 - (lg_sl ([.ref (a 0)])).length) Slot.unset).toArray = ls at hl ⊢
  have hl : lv_has ls 1 [(0, .ref (a 0))] := hl
  refine lv_aload_n hx hb zd_X_mount_0 rfl (lv_at hl 0 rfl) ?_
  refine va_get (D := (dC, dI)) (ci := 0) (v := .int (zs_b up)) (C := "ZoneShelf") (T := zs_T_X) (N := 3) hx hb hz zs_in_X hown hk.1 hP 0 rfl rfl 2 (by decide) (hz _ zq_54) (fun _ h9 => h9) rfl zd_X_mount_1 ?_
  refine zi_eq (tgt := 9) hx hb zd_X_mount_4 rfl (fun h1 => ?_) (fun h1 => ?_)
  · subst h1
    refine lv_aload_n hx hb zd_X_mount_9 rfl (lv_at hl 0 rfl) ?_
    refine va_get (D := (dC, dI)) (ci := 0) (v := .ref (a 1)) (C := "ZoneShelf") (T := zs_T_X) (N := 3) hx hb hz zs_in_X hown hk.1 hP 0 rfl rfl 0 (by decide) (hz _ zq_52) (fun _ h9 => h9) rfl zd_X_mount_10 ?_
    refine lv_aload_n hx hb zd_X_mount_13 rfl (lv_at hl 0 rfl) ?_
    refine va_get (D := (dC, dI)) (ci := 0) (v := .ref (a 7)) (C := "ZoneShelf") (T := zs_T_X) (N := 3) hx hb hz zs_in_X hown hk.1 hP 0 rfl rfl 1 (by decide) (hz _ zq_53) (fun _ h9 => h9) rfl zd_X_mount_14 ?_
    refine zc_wN (rest := []) (wr := [(a 0, .inr (0, [.ref (a 1), .ref (a 7), .int (zs_b false)]))]) [.ref (a 7)] hx hb hml hown hz (zc_C_copyFrom l dC dI cI cZ (a 1) (a 2) (a 3) (a 4) (a 5) (a 6) (a 7) (a 8) (a 9) (a 10) (a 11) (a 12) (nm, hi, ln, op, wd) (nm2, hi2, ln2, op2, wd2) s.heap.size) zf_C_copyFrom rfl rfl zv_13 zq_120 zq_10 ⟨Nat.le_of_ble_eq_true rfl, Nat.le_of_ble_eq_true rfl⟩ hk hP hD hS hA [1, 2, 3, 4, 5, 6, 7, 8, 9, 10, 11, 12] [0] rfl rfl (by decide) (by decide) (by decide) 0 1 rfl rfl rfl rfl hl.1 rfl (Nat.le_of_ble_eq_true rfl) zd_X_mount_17 ⟨Nat.zero_le _, Nat.zero_le _⟩ (fun u4 H locs e3 hP hD hS => ?_)
    obtain rfl : u4 = zs_copy (nm2, hi2, ln2, op2, wd2) (nm, hi, ln, op, wd) := e3
    have hP : va_P (dC, dI) zs_cl [(a 0, .inr (0, [.ref (a 1), .ref (a 7), .int (zs_b false)])), (a 1, .inr (1, [.ref (a 2), .ref (a 3), .ref (a 4), .ref (a 5), .ref (a 6)])), (a 2, .inl (cI, 24, .inl (zs_cp nm2 nm 24))), (a 3, .inl (cI, 24, .inl (zs_cp hi2 hi 24))), (a 4, .inl (cI, 24, .inl (zs_cp ln2 ln 24))), (a 5, .inl (cZ, 24, .inl (zs_cz op2 op 24))), (a 6, .inl (cI, 1536, .inl (va_cpy wd2 wd 0 0 1536))), (a 7, .inr (1, [.ref (a 8), .ref (a 9), .ref (a 10), .ref (a 11), .ref (a 12)])), (a 8, .inl (cI, 24, .inl nm2)), (a 9, .inl (cI, 24, .inl hi2)), (a 10, .inl (cI, 24, .inl ln2)), (a 11, .inl (cZ, 24, .inl op2)), (a 12, .inl (cI, 1536, .inl wd2))] H := hP
    have hD : va_D A [(a 0, .inr (0, [.ref (a 1), .ref (a 7), .int (zs_b false)])), (a 1, .inr (1, [.ref (a 2), .ref (a 3), .ref (a 4), .ref (a 5), .ref (a 6)])), (a 2, .inl (cI, 24, .inl (zs_cp nm2 nm 24))), (a 3, .inl (cI, 24, .inl (zs_cp hi2 hi 24))), (a 4, .inl (cI, 24, .inl (zs_cp ln2 ln 24))), (a 5, .inl (cZ, 24, .inl (zs_cz op2 op 24))), (a 6, .inl (cI, 1536, .inl (va_cpy wd2 wd 0 0 1536))), (a 7, .inr (1, [.ref (a 8), .ref (a 9), .ref (a 10), .ref (a 11), .ref (a 12)])), (a 8, .inl (cI, 24, .inl nm2)), (a 9, .inl (cI, 24, .inl hi2)), (a 10, .inl (cI, 24, .inl ln2)), (a 11, .inl (cZ, 24, .inl op2)), (a 12, .inl (cI, 1536, .inl wd2))] := hD
    refine lv_aload_n hx hb zd_X_mount_20 rfl (lv_at hl 0 rfl) ?_
    refine lv_iconst (v := 1) hx hb zd_X_mount_21 (by decide) ?_
    refine va_put (D := (dC, dI)) (ci := 0) (v := .int 1) (ty := .boolean) (C := "ZoneShelf") (T := zs_T_X) (N := 3) hx hb hz zs_in_X zs_t_X zs_tok_X zs_nok_X hown hk.1 hP hD hS 0 rfl rfl 2 (by decide) (hz _ zq_54) (fun _ h9 => h9) rfl (by decide +kernel) rfl rfl (Nat.le_of_ble_eq_true rfl) zd_X_mount_22 (fun H locs hP hD hS => ?_)
    have hP : va_P (dC, dI) zs_cl [(a 0, .inr (0, [.ref (a 1), .ref (a 7), .int (zs_b true)])), (a 1, .inr (1, [.ref (a 2), .ref (a 3), .ref (a 4), .ref (a 5), .ref (a 6)])), (a 2, .inl (cI, 24, .inl (zs_cp nm2 nm 24))), (a 3, .inl (cI, 24, .inl (zs_cp hi2 hi 24))), (a 4, .inl (cI, 24, .inl (zs_cp ln2 ln 24))), (a 5, .inl (cZ, 24, .inl (zs_cz op2 op 24))), (a 6, .inl (cI, 1536, .inl (va_cpy wd2 wd 0 0 1536))), (a 7, .inr (1, [.ref (a 8), .ref (a 9), .ref (a 10), .ref (a 11), .ref (a 12)])), (a 8, .inl (cI, 24, .inl nm2)), (a 9, .inl (cI, 24, .inl hi2)), (a 10, .inl (cI, 24, .inl ln2)), (a 11, .inl (cZ, 24, .inl op2)), (a 12, .inl (cI, 1536, .inl wd2))] H := hP
    have hD : va_D A [(a 0, .inr (0, [.ref (a 1), .ref (a 7), .int (zs_b true)])), (a 1, .inr (1, [.ref (a 2), .ref (a 3), .ref (a 4), .ref (a 5), .ref (a 6)])), (a 2, .inl (cI, 24, .inl (zs_cp nm2 nm 24))), (a 3, .inl (cI, 24, .inl (zs_cp hi2 hi 24))), (a 4, .inl (cI, 24, .inl (zs_cp ln2 ln 24))), (a 5, .inl (cZ, 24, .inl (zs_cz op2 op 24))), (a 6, .inl (cI, 1536, .inl (va_cpy wd2 wd 0 0 1536))), (a 7, .inr (1, [.ref (a 8), .ref (a 9), .ref (a 10), .ref (a 11), .ref (a 12)])), (a 8, .inl (cI, 24, .inl nm2)), (a 9, .inl (cI, 24, .inl hi2)), (a 10, .inl (cI, 24, .inl ln2)), (a 11, .inl (cZ, 24, .inl op2)), (a 12, .inl (cI, 1536, .inl wd2))] := hD
    refine lv_iconst (v := 1) hx hb zd_X_mount_25 (by decide) ?_
    exact zw_zret (true, (zs_cp nm2 nm 24, zs_cp hi2 hi 24, zs_cp ln2 ln 24, zs_cz op2 op 24, va_cpy wd2 wd 0 0 1536), (nm2, hi2, ln2, op2, wd2)) hx hb hr hlocks zd_X_mount_26 rfl (show (1, (true, (zs_cp nm2 nm 24, zs_cp hi2 hi 24, zs_cp ln2 ln 24, zs_cz op2 op 24, va_cpy wd2 wd 0 0 1536), (nm2, hi2, ln2, op2, wd2))) = zs_mount (false, (nm, hi, ln, op, wd), (nm2, hi2, ln2, op2, wd2)) from by simp [zs_mount, zs_copy]) hP hD hS
  · subst h1
    refine lv_iconst (v := 0) hx hb zd_X_mount_7 (by decide) ?_
    exact zw_zret (true, (nm, hi, ln, op, wd), (nm2, hi2, ln2, op2, wd2)) hx hb hr hlocks zd_X_mount_8 rfl (show (0, (true, (nm, hi, ln, op, wd), (nm2, hi2, ln2, op2, wd2))) = zs_mount (true, (nm, hi, ln, op, wd), (nm2, hi2, ln2, op2, wd2)) from by simp [zs_mount, zs_copy]) hP hD hS
set_option maxHeartbeats 4000000 in
set_option maxRecDepth 100000 in
theorem zc_X_append (l : Launch) (dC : Nat → ClassId) (dI : Nat → Nat → Nat) (cI cZ : ClassId) (a : Nat → Nat) (u : zs_X) (sz : Nat) (hok : zs_ok u) (o w : Int32) : Met l zy_X_append (.code zy_X_append zb_X_append 3 (some .boolean) :: zs_w) ({ frames := 3, cells := 0, slots := 0, locals := 66 }) (va_Pc [.ref (a 0), .int o, .int w] (zs_s dC dI cI cZ sz (zs_wX cI cZ a u))) (va_Qi (fun r (v : zs_X) => (r, v) = zs_appendRow u o w 1) (zs_e dC dI (zs_wX cI cZ a) (va_A (zs_wX cI cZ a u) sz)) (va_A (zs_wX cI cZ a u) sz)) 0 0 (va_A (zs_wX cI cZ a u) sz) := by
  obtain ⟨up, ⟨nm, hi, ln, op, wd⟩, ⟨nm2, hi2, ln2, op2, wd2⟩⟩ := u
  refine Met.ofW (cc := zb_X_append) (maxL := 3) (ret := (some .boolean)) (by decide) rfl ?_
  intro p e s m args below meth c s₁ B hml hv
  obtain ⟨rfl, hsz, hP, hk, hD0⟩ := hv
  have hx := B.exec
  have hb := B.bytes
  have hr := B.returns
  have hts := atoms_spec (ws := .code zy_X_append zb_X_append 3 (some .boolean) :: zs_w) B.pre
  have hz : ∀ w ∈ zs_w, w.before _ s = true := fun w h => hts w (List.mem_cons_of_mem _ h)
  have hown : s.vm.findClass "ZoneShelf" = some m.cls := findClass_of_methodNamed B.named
  have hlocks := B.notSynchronized
  subst hsz
  have hD := hD0.self (sz := s.heap.size)
  generalize hAe : va_A (zs_wX cI cZ a (up, (nm, hi, ln, op, wd), (nm2, hi2, ln2, op2, wd2))) s.heap.size = A at hD ⊢
  have hA : ∀ q : Nat, s.heap.size ≤ q → A q := fun q h => by rw [← hAe]; exact Or.inr h
  have hS : va_S A s.heap s.heap [] := va_S.rf
  have hP : va_P (dC, dI) zs_cl [(a 0, .inr (0, [.ref (a 1), .ref (a 7), .int (zs_b up)])), (a 1, .inr (1, [.ref (a 2), .ref (a 3), .ref (a 4), .ref (a 5), .ref (a 6)])), (a 2, .inl (cI, 24, .inl nm)), (a 3, .inl (cI, 24, .inl hi)), (a 4, .inl (cI, 24, .inl ln)), (a 5, .inl (cZ, 24, .inl op)), (a 6, .inl (cI, 1536, .inl wd)), (a 7, .inr (1, [.ref (a 8), .ref (a 9), .ref (a 10), .ref (a 11), .ref (a 12)])), (a 8, .inl (cI, 24, .inl nm2)), (a 9, .inl (cI, 24, .inl hi2)), (a 10, .inl (cI, 24, .inl ln2)), (a 11, .inl (cZ, 24, .inl op2)), (a 12, .inl (cI, 1536, .inl wd2))] s.heap := hP
  have hD : va_D A [(a 0, .inr (0, [.ref (a 1), .ref (a 7), .int (zs_b up)])), (a 1, .inr (1, [.ref (a 2), .ref (a 3), .ref (a 4), .ref (a 5), .ref (a 6)])), (a 2, .inl (cI, 24, .inl nm)), (a 3, .inl (cI, 24, .inl hi)), (a 4, .inl (cI, 24, .inl ln)), (a 5, .inl (cZ, 24, .inl op)), (a 6, .inl (cI, 1536, .inl wd)), (a 7, .inr (1, [.ref (a 8), .ref (a 9), .ref (a 10), .ref (a 11), .ref (a 12)])), (a 8, .inl (cI, 24, .inl nm2)), (a 9, .inl (cI, 24, .inl hi2)), (a 10, .inl (cI, 24, .inl ln2)), (a 11, .inl (cZ, 24, .inl op2)), (a 12, .inl (cI, 1536, .inl wd2))] := hD
  have hl := lv_entry ([.ref (a 0), .int o, .int w]) (n := 3) (Nat.le_of_ble_eq_true rfl)
  rw [lg_entry_eq]
  generalize (lg_sl ([.ref (a 0), .int o, .int w]) ++ List.replicate (3 - (lg_sl ([.ref (a 0), .int o, .int w])).length) Slot.unset).toArray = ls at hl ⊢
  have hl : lv_has ls 3 [(0, .ref (a 0)), (1, .int o), (2, .int w)] := hl
  refine lv_aload_n hx hb zd_X_append_0 rfl (lv_at hl 0 rfl) ?_
  refine lv_iload_n hx hb zd_X_append_1 rfl (lv_at hl 1 rfl) ?_
  refine lv_iload_n hx hb zd_X_append_2 rfl (lv_at hl 2 rfl) ?_
  refine lv_iconst (v := 1) hx hb zd_X_append_3 (by decide) ?_
  refine zc_wV (rest := []) (wr := []) [.int o, .int w, .int 1] hx hb hml hown hz (zc_X_appendRow l dC dI cI cZ a (up, (nm, hi, ln, op, wd), (nm2, hi2, ln2, op2, wd2)) s.heap.size hok o w 1) zf_X_appendRow rfl rfl zq_84 zq_85 zq_86 ⟨Nat.le_of_ble_eq_true rfl, Nat.le_of_ble_eq_true rfl⟩ hk hP hD hS hA [0, 1, 2, 3, 4, 5, 6, 7, 8, 9, 10, 11, 12] [] rfl rfl (by decide) (by decide) (by decide) 0 0 rfl rfl rfl rfl hl.1 rfl (Nat.le_of_ble_eq_true rfl) zd_X_append_4 ⟨Nat.zero_le _, Nat.zero_le _⟩ (fun r1 u3 H locs e2 hP hD hS => ?_)
  exact zw_zret u3 hx hb hr hlocks zd_X_append_7 (by rw [show r1 = (zs_appendRow (up, (nm, hi, ln, op, wd), (nm2, hi2, ln2, op2, wd2)) o w 1).1 from congrArg Prod.fst e2]; exact zs_appendRow_n _ _ _ _) (show (r1, u3) = zs_appendRow (up, (nm, hi, ln, op, wd), (nm2, hi2, ln2, op2, wd2)) o w 1 from e2) hP hD hS
set_option maxHeartbeats 4000000 in
set_option maxRecDepth 100000 in
theorem zc_X_tear (l : Launch) (dC : Nat → ClassId) (dI : Nat → Nat → Nat) (cI cZ : ClassId) (a : Nat → Nat) (u : zs_X) (sz : Nat)  : Met l zy_X_tear (.code zy_X_tear zb_X_tear 1 (some .boolean) :: zs_w) ({ frames := 1, cells := 0, slots := 0, locals := 20 }) (va_Pc [.ref (a 0)] (zs_s dC dI cI cZ sz (zs_wX cI cZ a u))) (va_Qi (fun r (v : zs_X) => (r, v) = zs_cut u) (zs_e dC dI (zs_wX cI cZ a) (va_A (zs_wX cI cZ a u) sz)) (va_A (zs_wX cI cZ a u) sz)) 0 0 (va_A (zs_wX cI cZ a u) sz) := by
  obtain ⟨up, ⟨nm, hi, ln, op, wd⟩, ⟨nm2, hi2, ln2, op2, wd2⟩⟩ := u
  refine Met.ofW (cc := zb_X_tear) (maxL := 1) (ret := (some .boolean)) (by decide) rfl ?_
  intro p e s m args below meth c s₁ B hml hv
  obtain ⟨rfl, hsz, hP, hk, hD0⟩ := hv
  have hx := B.exec
  have hb := B.bytes
  have hr := B.returns
  have hts := atoms_spec (ws := .code zy_X_tear zb_X_tear 1 (some .boolean) :: zs_w) B.pre
  have hz : ∀ w ∈ zs_w, w.before _ s = true := fun w h => hts w (List.mem_cons_of_mem _ h)
  have hown : s.vm.findClass "ZoneShelf" = some m.cls := findClass_of_methodNamed B.named
  have hlocks := B.notSynchronized
  subst hsz
  have hD := hD0.self (sz := s.heap.size)
  generalize hAe : va_A (zs_wX cI cZ a (up, (nm, hi, ln, op, wd), (nm2, hi2, ln2, op2, wd2))) s.heap.size = A at hD ⊢
  have hA : ∀ q : Nat, s.heap.size ≤ q → A q := fun q h => by rw [← hAe]; exact Or.inr h
  have hS : va_S A s.heap s.heap [] := va_S.rf
  have hP : va_P (dC, dI) zs_cl [(a 0, .inr (0, [.ref (a 1), .ref (a 7), .int (zs_b up)])), (a 1, .inr (1, [.ref (a 2), .ref (a 3), .ref (a 4), .ref (a 5), .ref (a 6)])), (a 2, .inl (cI, 24, .inl nm)), (a 3, .inl (cI, 24, .inl hi)), (a 4, .inl (cI, 24, .inl ln)), (a 5, .inl (cZ, 24, .inl op)), (a 6, .inl (cI, 1536, .inl wd)), (a 7, .inr (1, [.ref (a 8), .ref (a 9), .ref (a 10), .ref (a 11), .ref (a 12)])), (a 8, .inl (cI, 24, .inl nm2)), (a 9, .inl (cI, 24, .inl hi2)), (a 10, .inl (cI, 24, .inl ln2)), (a 11, .inl (cZ, 24, .inl op2)), (a 12, .inl (cI, 1536, .inl wd2))] s.heap := hP
  have hD : va_D A [(a 0, .inr (0, [.ref (a 1), .ref (a 7), .int (zs_b up)])), (a 1, .inr (1, [.ref (a 2), .ref (a 3), .ref (a 4), .ref (a 5), .ref (a 6)])), (a 2, .inl (cI, 24, .inl nm)), (a 3, .inl (cI, 24, .inl hi)), (a 4, .inl (cI, 24, .inl ln)), (a 5, .inl (cZ, 24, .inl op)), (a 6, .inl (cI, 1536, .inl wd)), (a 7, .inr (1, [.ref (a 8), .ref (a 9), .ref (a 10), .ref (a 11), .ref (a 12)])), (a 8, .inl (cI, 24, .inl nm2)), (a 9, .inl (cI, 24, .inl hi2)), (a 10, .inl (cI, 24, .inl ln2)), (a 11, .inl (cZ, 24, .inl op2)), (a 12, .inl (cI, 1536, .inl wd2))] := hD
  have hl := lv_entry ([.ref (a 0)]) (n := 1) (Nat.le_of_ble_eq_true rfl)
  rw [lg_entry_eq]
  generalize (lg_sl ([.ref (a 0)]) ++ List.replicate (1 - (lg_sl ([.ref (a 0)])).length) Slot.unset).toArray = ls at hl ⊢
  have hl : lv_has ls 1 [(0, .ref (a 0))] := hl
  refine lv_aload_n hx hb zd_X_tear_0 rfl (lv_at hl 0 rfl) ?_
  refine zc_wV (rest := []) (wr := []) [] hx hb hml hown hz (zc_X_cut l dC dI cI cZ a (up, (nm, hi, ln, op, wd), (nm2, hi2, ln2, op2, wd2)) s.heap.size  ) zf_X_cut rfl rfl zq_129 zq_130 zq_131 ⟨Nat.le_of_ble_eq_true rfl, Nat.le_of_ble_eq_true rfl⟩ hk hP hD hS hA [0, 1, 2, 3, 4, 5, 6, 7, 8, 9, 10, 11, 12] [] rfl rfl (by decide) (by decide) (by decide) 0 0 rfl rfl rfl rfl hl.1 rfl (Nat.le_of_ble_eq_true rfl) zd_X_tear_1 ⟨Nat.zero_le _, Nat.zero_le _⟩ (fun r1 u3 H locs e2 hP hD hS => ?_)
  exact zw_zret u3 hx hb hr hlocks zd_X_tear_4 (by rw [show r1 = (zs_cut (up, (nm, hi, ln, op, wd), (nm2, hi2, ln2, op2, wd2)) ).1 from congrArg Prod.fst e2]; exact zs_cut_n _ ) (show (r1, u3) = zs_cut (up, (nm, hi, ln, op, wd), (nm2, hi2, ln2, op2, wd2))  from e2) hP hD hS
