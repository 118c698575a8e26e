set_option maxHeartbeats 4000000 in
set_option maxRecDepth 100000 in
theorem zc_M_isName (l : Launch) (dC : Nat → ClassId) (dI : Nat → Nat → Nat) (cI cZ : ClassId) (n : Int32) : Met l zy_M_isName (.code zy_M_isName zb_M_isName 1 (some .boolean) :: zs_w) ({ frames := 0, cells := 0, slots := 0, locals := 0 }) (va_Pc [.int n] (fun _ => True)) (vp_Si (fun r => r = zs_b (zs_nam n))) 0 0 (fun _ => False) := by
  refine Met.ofW (cc := zb_M_isName) (maxL := 1) (ret := (some .boolean)) (by decide) rfl ?_
  intro p e s m args below meth c s₁ B hml hv
  obtain ⟨rfl, -⟩ := hv
  have hx := B.exec
  have hb := B.bytes
  have hr := B.returns
  have hts := atoms_spec (ws := .code zy_M_isName zb_M_isName 1 (some .boolean) :: zs_w) B.pre
  have hz : ∀ w ∈ zs_w, w.before _ s = true := fun w h => hts w (List.mem_cons_of_mem _ h)
  have hown : s.vm.findClass "ZoneShelfModel" = some m.cls := findClass_of_methodNamed B.named
  have hlocks := B.notSynchronized
  have hl := lv_entry ([.int n]) (n := 1) (Nat.le_of_ble_eq_true rfl)
  rw [lg_entry_eq]
  generalize (lg_sl ([.int n]) ++ List.replicate (1 - (lg_sl ([.int n])).length) Slot.unset).toArray = ls at hl ⊢
  have hl : lv_has ls 1 [(0, .int n)] := hl
  refine lv_iload_n hx hb zd_M_isName_0 rfl (lv_at hl 0 rfl) ?_
  refine lv_if_lt (tgt := 15) hx hb zd_M_isName_1 rfl (fun h1 => ?_) (fun h1 => ?_)
  · refine lv_iconst (v := 0) hx hb zd_M_isName_15 (by decide) ?_
    exact zr_zret hx hb hr hlocks zd_M_isName_16 rfl (show 0 = zs_b (zs_nam n) from by simp [zs_nam, zs_b, h1])
  · refine lv_iload_n hx hb zd_M_isName_4 rfl (lv_at hl 0 rfl) ?_
    refine lv_sipush (v := 9999) hx hb zd_M_isName_5 (by decide) ?_
    refine lv_icmp_gt (tgt := 15) hx hb zd_M_isName_8 rfl (fun h2 => ?_) (fun h2 => ?_)
    · refine lv_iconst (v := 0) hx hb zd_M_isName_15 (by decide) ?_
      exact zr_zret hx hb hr hlocks zd_M_isName_16 rfl (show 0 = zs_b (zs_nam n) from by simp [zs_nam, zs_b, h1, h2])
    · refine lv_iconst (v := 1) hx hb zd_M_isName_11 (by decide) ?_
      refine lv_goto (tgt := 16) hx hb zd_M_isName_12 rfl ?_
      exact zr_zret hx hb hr hlocks zd_M_isName_16 rfl (show 1 = zs_b (zs_nam n) from by simp [zs_nam, zs_b, h1, h2])
set_option maxHeartbeats 4000000 in
set_option maxRecDepth 100000 in
theorem zc_M_tidy (l : Launch) (dC : Nat → ClassId) (dI : Nat → Nat → Nat) (cI cZ : ClassId) (a : Nat → Nat) (u : zs_X)  : Met l zy_M_tidy (.code zy_M_tidy zb_M_tidy 1 (some .boolean) :: zs_w) ({ frames := 0, cells := 0, slots := 0, locals := 0 }) (va_Pc [.ref (a 0)] (zs_r dC dI cI cZ (zs_wM cI cZ a u))) (vp_Si (fun r => r = zs_b u.1)) 0 0 (fun _ => False) := by
  obtain ⟨up, ⟨nm, hi, ln, op, wd⟩, ⟨nm2, hi2, ln2, op2, wd2⟩⟩ := u
  refine Met.ofW (cc := zb_M_tidy) (maxL := 1) (ret := (some .boolean)) (by decide) rfl ?_
  intro p e s m args below meth c s₁ B hml hv
  obtain ⟨rfl, hP, hk⟩ := hv
  have hx := B.exec
  have hb := B.bytes
  have hr := B.returns
  have hts := atoms_spec (ws := .code zy_M_tidy zb_M_tidy 1 (some .boolean) :: zs_w) B.pre
  have hz : ∀ w ∈ zs_w, w.before _ s = true := fun w h => hts w (List.mem_cons_of_mem _ h)
  have hown : s.vm.findClass "ZoneShelfModel" = some m.cls := findClass_of_methodNamed B.named
  have hlocks := B.notSynchronized
  have hP : va_P (dC, dI) zs_cl [(a 0, .inr (2, [.int (zs_b up), .ref (a 1), .ref (a 2), .ref (a 3), .ref (a 4), .ref (a 5), .ref (a 6), .ref (a 7), .ref (a 8), .ref (a 9), .ref (a 10)])), (a 1, .inl (cI, 24, .inl nm)), (a 2, .inl (cI, 24, .inl hi)), (a 3, .inl (cI, 24, .inl ln)), (a 4, .inl (cZ, 24, .inl op)), (a 5, .inl (cI, 1536, .inl wd)), (a 6, .inl (cI, 24, .inl nm2)), (a 7, .inl (cI, 24, .inl hi2)), (a 8, .inl (cI, 24, .inl ln2)), (a 9, .inl (cZ, 24, .inl op2)), (a 10, .inl (cI, 1536, .inl wd2))] s.heap := hP
  have hl := lv_entry ([.ref (a 0)]) (n := 1) (Nat.le_of_ble_eq_true rfl)
  rw [lg_entry_eq]
  generalize (lg_sl ([.ref (a 0)]) ++ List.replicate (1 - (lg_sl ([.ref (a 0)])).length) Slot.unset).toArray = ls at hl ⊢
  have hl : lv_has ls 1 [(0, .ref (a 0))] := hl
  refine lv_aload_n hx hb zd_M_tidy_0 rfl (lv_at hl 0 rfl) ?_
  refine va_get (D := (dC, dI)) (ci := 2) (v := .int (zs_b up)) (C := "ZoneShelfModel") (T := zs_T_M) (N := 11) hx hb hz zs_in_M hown hk.1 hP 0 rfl rfl 0 (by decide) (hz _ zq_183) (fun _ h9 => h9) rfl zd_M_tidy_1 ?_
  exact zr_zret hx hb hr hlocks zd_M_tidy_4 (zs_b_n _) (show (zs_b up) = zs_b up from by rfl)
set_option maxHeartbeats 4000000 in
set_option maxRecDepth 100000 in
theorem zc_M_isUp (l : Launch) (dC : Nat → ClassId) (dI : Nat → Nat → Nat) (cI cZ : ClassId) (a : Nat → Nat) (u : zs_X)  : Met l zy_M_isUp (.code zy_M_isUp zb_M_isUp 1 (some .boolean) :: zs_w) ({ frames := 0, cells := 0, slots := 0, locals := 0 }) (va_Pc [.ref (a 0)] (zs_r dC dI cI cZ (zs_wM cI cZ a u))) (vp_Si (fun r => r = zs_b u.1)) 0 0 (fun _ => False) := by
  obtain ⟨up, ⟨nm, hi, ln, op, wd⟩, ⟨nm2, hi2, ln2, op2, wd2⟩⟩ := u
  refine Met.ofW (cc := zb_M_isUp) (maxL := 1) (ret := (some .boolean)) (by decide) rfl ?_
  intro p e s m args below meth c s₁ B hml hv
  obtain ⟨rfl, hP, hk⟩ := hv
  have hx := B.exec
  have hb := B.bytes
  have hr := B.returns
  have hts := atoms_spec (ws := .code zy_M_isUp zb_M_isUp 1 (some .boolean) :: zs_w) B.pre
  have hz : ∀ w ∈ zs_w, w.before _ s = true := fun w h => hts w (List.mem_cons_of_mem _ h)
  have hown : s.vm.findClass "ZoneShelfModel" = some m.cls := findClass_of_methodNamed B.named
  have hlocks := B.notSynchronized
  have hP : va_P (dC, dI) zs_cl [(a 0, .inr (2, [.int (zs_b up), .ref (a 1), .ref (a 2), .ref (a 3), .ref (a 4), .ref (a 5), .ref (a 6), .ref (a 7), .ref (a 8), .ref (a 9), .ref (a 10)])), (a 1, .inl (cI, 24, .inl nm)), (a 2, .inl (cI, 24, .inl hi)), (a 3, .inl (cI, 24, .inl ln)), (a 4, .inl (cZ, 24, .inl op)), (a 5, .inl (cI, 1536, .inl wd)), (a 6, .inl (cI, 24, .inl nm2)), (a 7, .inl (cI, 24, .inl hi2)), (a 8, .inl (cI, 24, .inl ln2)), (a 9, .inl (cZ, 24, .inl op2)), (a 10, .inl (cI, 1536, .inl wd2))] s.heap := hP
  have hl := lv_entry ([.ref (a 0)]) (n := 1) (Nat.le_of_ble_eq_true rfl)
  rw [lg_entry_eq]
  generalize (lg_sl ([.ref (a 0)]) ++ List.replicate (1 - (lg_sl ([.ref (a 0)])).length) Slot.unset).toArray = ls at hl ⊢
  have hl : lv_has ls 1 [(0, .ref (a 0))] := hl
  refine lv_aload_n hx hb zd_M_isUp_0 rfl (lv_at hl 0 rfl) ?_
  refine va_get (D := (dC, dI)) (ci := 2) (v := .int (zs_b up)) (C := "ZoneShelfModel") (T := zs_T_M) (N := 11) hx hb hz zs_in_M hown hk.1 hP 0 rfl rfl 0 (by decide) (hz _ zq_183) (fun _ h9 => h9) rfl zd_M_isUp_1 ?_
  exact zr_zret hx hb hr hlocks zd_M_isUp_4 (zs_b_n _) (show (zs_b up) = zs_b up from by rfl)
set_option maxHeartbeats 4000000 in
set_option maxRecDepth 100000 in
theorem zc_M_is (l : Launch) (dC : Nat → ClassId) (dI : Nat → Nat → Nat) (cI cZ : ClassId) (a : Nat → Nat) (u : zs_X) (n : Int32) : Met l zy_M_is (.code zy_M_is zb_M_is 2 (some .boolean) :: zs_w) ({ frames := 0, cells := 0, slots := 0, locals := 0 }) (va_Pc [.ref (a 0), .int n] (zs_r dC dI cI cZ (zs_wM cI cZ a u))) (vp_Si (fun r => r = zs_b (zm_is u.1 u.2.1.1 n))) 0 0 (fun _ => False) := by
  obtain ⟨up, ⟨nm, hi, ln, op, wd⟩, ⟨nm2, hi2, ln2, op2, wd2⟩⟩ := u
  refine Met.ofW (cc := zb_M_is) (maxL := 2) (ret := (some .boolean)) (by decide) rfl ?_
  intro p e s m args below meth c s₁ B hml hv
  obtain ⟨rfl, hP, hk⟩ := hv
  have hx := B.exec
  have hb := B.bytes
  have hr := B.returns
  have hts := atoms_spec (ws := .code zy_M_is zb_M_is 2 (some .boolean) :: zs_w) B.pre
  have hz : ∀ w ∈ zs_w, w.before _ s = true := fun w h => hts w (List.mem_cons_of_mem _ h)
  have hown : s.vm.findClass "ZoneShelfModel" = some m.cls := findClass_of_methodNamed B.named
  have hlocks := B.notSynchronized
  have hP : va_P (dC, dI) zs_cl [(a 0, .inr (2, [.int (zs_b up), .ref (a 1), .ref (a 2), .ref (a 3), .ref (a 4), .ref (a 5), .ref (a 6), .ref (a 7), .ref (a 8), .ref (a 9), .ref (a 10)])), (a 1, .inl (cI, 24, .inl nm)), (a 2, .inl (cI, 24, .inl hi)), (a 3, .inl (cI, 24, .inl ln)), (a 4, .inl (cZ, 24, .inl op)), (a 5, .inl (cI, 1536, .inl wd)), (a 6, .inl (cI, 24, .inl nm2)), (a 7, .inl (cI, 24, .inl hi2)), (a 8, .inl (cI, 24, .inl ln2)), (a 9, .inl (cZ, 24, .inl op2)), (a 10, .inl (cI, 1536, .inl wd2))] s.heap := hP
  have hl := lv_entry ([.ref (a 0), .int n]) (n := 2) (Nat.le_of_ble_eq_true rfl)
  rw [lg_entry_eq]
  generalize (lg_sl ([.ref (a 0), .int n]) ++ List.replicate (2 - (lg_sl ([.ref (a 0), .int n])).length) Slot.unset).toArray = ls at hl ⊢
  have hl : lv_has ls 2 [(0, .ref (a 0)), (1, .int n)] := hl
  refine lv_aload_n hx hb zd_M_is_0 rfl (lv_at hl 0 rfl) ?_
  refine va_get (D := (dC, dI)) (ci := 2) (v := .int (zs_b up)) (C := "ZoneShelfModel") (T := zs_T_M) (N := 11) hx hb hz zs_in_M hown hk.1 hP 0 rfl rfl 0 (by decide) (hz _ zq_183) (fun _ h9 => h9) rfl zd_M_is_1 ?_
  refine zi_eq (tgt := 30) hx hb zd_M_is_4 rfl (fun h1 => ?_) (fun h1 => ?_)
  · subst h1
    refine lv_iconst (v := 0) hx hb zd_M_is_30 (by decide) ?_
    exact zr_zret hx hb hr hlocks zd_M_is_31 rfl (show 0 = zs_b (zm_is false nm n) from by simp [zm_is, zs_b])
  · subst h1
    refine lv_iload_n hx hb zd_M_is_7 rfl (lv_at hl 1 rfl) ?_
    refine lv_if_lt (tgt := 30) hx hb zd_M_is_8 rfl (fun h2 => ?_) (fun h2 => ?_)
    · refine lv_iconst (v := 0) hx hb zd_M_is_30 (by decide) ?_
      exact zr_zret hx hb hr hlocks zd_M_is_31 rfl (show 0 = zs_b (zm_is true nm n) from by simp [zm_is, zs_b, h2])
    · refine lv_iload_n hx hb zd_M_is_11 rfl (lv_at hl 1 rfl) ?_
      refine lv_bipush (v := 24) hx hb zd_M_is_12 (by decide) ?_
      refine lv_icmp_ge (tgt := 30) hx hb zd_M_is_14 rfl (fun h3 => ?_) (fun h3 => ?_)
      · refine lv_iconst (v := 0) hx hb zd_M_is_30 (by decide) ?_
        exact zr_zret hx hb hr hlocks zd_M_is_31 rfl (show 0 = zs_b (zm_is true nm n) from by simp [zm_is, zs_b, h2, h3])
      · obtain ⟨j, hj, rfl⟩ := zs_ix h2 h3
        refine lv_aload_n hx hb zd_M_is_17 rfl (lv_at hl 0 rfl) ?_
        refine va_get (D := (dC, dI)) (ci := 2) (v := .ref (a 1)) (C := "ZoneShelfModel") (T := zs_T_M) (N := 11) hx hb hz zs_in_M hown hk.1 hP 0 rfl rfl 1 (by decide) (hz _ zq_184) (fun _ h9 => h9) rfl zd_M_is_18 ?_
        refine lv_iload_n hx hb zd_M_is_21 rfl (lv_at hl 1 rfl) ?_
        refine zi_ald hx hb hk hP 1 (j := j) rfl (by omega) (by decide) zd_M_is_22 ?_
        refine lv_if_le (tgt := 30) hx hb zd_M_is_23 rfl (fun h4 => ?_) (fun h4 => ?_)
        · refine lv_iconst (v := 0) hx hb zd_M_is_30 (by decide) ?_
          exact zr_zret hx hb hr hlocks zd_M_is_31 rfl (show 0 = zs_b (zm_is true nm (nI j)) from by simp [zm_is, zs_b, h2, h3, nI_clamp (show j < 2 ^ 31 by omega), h4])
        · refine lv_iconst (v := 1) hx hb zd_M_is_26 (by decide) ?_
          refine lv_goto (tgt := 31) hx hb zd_M_is_27 rfl ?_
          exact zr_zret hx hb hr hlocks zd_M_is_31 rfl (show 1 = zs_b (zm_is true nm (nI j)) from by simp [zm_is, zs_b, h2, h3, nI_clamp (show j < 2 ^ 31 by omega), h4])
set_option maxHeartbeats 4000000 in
set_option maxRecDepth 100000 in
theorem zc_M_named (l : Launch) (dC : Nat → ClassId) (dI : Nat → Nat → Nat) (cI cZ : ClassId) (a : Nat → Nat) (u : zs_X) (x : Int32) : Met l zy_M_named (.code zy_M_named zb_M_named 4 (some .int) :: zs_w) ({ frames := 1, cells := 0, slots := 0, locals := 21 }) (va_Pc [.ref (a 0), .int x] (zs_r dC dI cI cZ (zs_wM cI cZ a u))) (vp_Si (fun r => r = zm_num u.1 u.2.1.1 x 24 0 (-1))) 0 0 (fun _ => False) := by
  obtain ⟨up, ⟨nm, hi, ln, op, wd⟩, ⟨nm2, hi2, ln2, op2, wd2⟩⟩ := u
  refine Met.ofW (cc := zb_M_named) (maxL := 4) (ret := (some .int)) (by decide) rfl ?_
  intro p e s m args below meth c s₁ B hml hv
  obtain ⟨rfl, hP, hk⟩ := hv
  have hx := B.exec
  have hb := B.bytes
  have hr := B.returns
  have hts := atoms_spec (ws := .code zy_M_named zb_M_named 4 (some .int) :: zs_w) B.pre
  have hz : ∀ w ∈ zs_w, w.before _ s = true := fun w h => hts w (List.mem_cons_of_mem _ h)
  have hown : s.vm.findClass "ZoneShelfModel" = some m.cls := findClass_of_methodNamed B.named
  have hlocks := B.notSynchronized
  have hP : va_P (dC, dI) zs_cl [(a 0, .inr (2, [.int (zs_b up), .ref (a 1), .ref (a 2), .ref (a 3), .ref (a 4), .ref (a 5), .ref (a 6), .ref (a 7), .ref (a 8), .ref (a 9), .ref (a 10)])), (a 1, .inl (cI, 24, .inl nm)), (a 2, .inl (cI, 24, .inl hi)), (a 3, .inl (cI, 24, .inl ln)), (a 4, .inl (cZ, 24, .inl op)), (a 5, .inl (cI, 1536, .inl wd)), (a 6, .inl (cI, 24, .inl nm2)), (a 7, .inl (cI, 24, .inl hi2)), (a 8, .inl (cI, 24, .inl ln2)), (a 9, .inl (cZ, 24, .inl op2)), (a 10, .inl (cI, 1536, .inl wd2))] s.heap := hP
  have hl := lv_entry ([.ref (a 0), .int x]) (n := 4) (Nat.le_of_ble_eq_true rfl)
  rw [lg_entry_eq]
  generalize (lg_sl ([.ref (a 0), .int x]) ++ List.replicate (4 - (lg_sl ([.ref (a 0), .int x])).length) Slot.unset).toArray = ls at hl ⊢
  have hl : lv_has ls 4 [(0, .ref (a 0)), (1, .int x)] := hl
  refine lv_iconst (v := (-1)) hx hb zd_M_named_0 (by decide) ?_
  refine lv_istore_n (lv' := [(2, .int (-1)), (0, .ref (a 0)), (1, .int x)]) hx hb zd_M_named_1 rfl hl (by decide) rfl (fun ls hl => ?_)
  refine lv_iconst (v := 0) hx hb zd_M_named_2 (by decide) ?_
  refine lv_istore_n (lv' := [(3, .int 0), (2, .int (-1)), (0, .ref (a 0)), (1, .int x)]) hx hb zd_M_named_3 rfl hl (by decide) rfl (fun ls hl => ?_)
  obtain ⟨v, hv0⟩ : ∃ v, v = zm_num up nm x 24 0 (-1) := ⟨_, rfl⟩
  refine zl_r (N := 24) (α := Int32) (fun kk ii xx ls => lv_has ls 4 [(3, .int (nI ii)), (2, .int xx), (0, .ref (a 0)), (1, .int x)] ∧ zm_num up nm x kk ii xx = v) (fun k1 i1 x1 ls e1 hv ih1 => ?_) (fun x1 ls hv => ?_) 24 0 (-1) ls rfl ⟨lv_sub hl [0, 1, 2, 3] rfl, hv0.symm⟩
  · obtain ⟨hl, hI1⟩ := hv
    have hl : lv_has ls 4 [(3, .int (nI i1)), (2, .int x1), (0, .ref (a 0)), (1, .int x)] := hl
    have hI1 : zm_num up nm x (k1 + 1) i1 x1 = v := hI1
    have hlt1 : i1 < 24 := by omega
    refine lv_iload_n hx hb zd_M_named_4 rfl (lv_at hl 0 rfl) ?_
    refine lv_bipush (v := 24) hx hb zd_M_named_5 (by decide) ?_
    refine zj_in (tgt := 49) (n := 24) hx hb zd_M_named_7 rfl (by decide) hlt1 (by decide) ?_
    refine lv_iload_n hx hb zd_M_named_10 rfl (lv_at hl 3 rfl) ?_
    refine zc_rS (rest := []) [.int x] hx hb hml hown hz (zc_M_isName l dC dI cI cZ x) zf_M_isName rfl rfl zq_209 zq_210 ⟨Nat.le_of_ble_eq_true rfl, Nat.le_of_ble_eq_true rfl⟩ rfl hl.1 rfl (Nat.le_of_ble_eq_true rfl) zd_M_named_11 ⟨Nat.zero_le _, Nat.zero_le _⟩ (fun r1 e2 => ?_)
    obtain rfl : r1 = zs_b (zs_nam x) := e2
    refine zi_eq (tgt := 41) hx hb zd_M_named_14 rfl (fun h3 => ?_) (fun h3 => ?_)
    · refine lv_iload_n hx hb zd_M_named_41 rfl (lv_at hl 1 rfl) ?_
      refine lv_istore_n (lv' := [(2, .int x1), (3, .int (nI i1)), (0, .ref (a 0)), (1, .int x)]) hx hb zd_M_named_42 rfl hl (by decide) rfl (fun ls hl => ?_)
      refine lv_iinc (k := 1) (v := nI (i1 + 1)) (lv' := [(3, .int (nI (i1 + 1))), (2, .int x1), (0, .ref (a 0)), (1, .int x)]) hx hb zd_M_named_43 hl rfl (zs_inc _) (by decide) rfl (fun ls hl => ?_)
      refine lv_goto (tgt := 4) hx hb zd_M_named_46 rfl ?_
      exact ih1 x1 ls ⟨lv_sub hl [0, 1, 2, 3] rfl, by rw [← hI1]; simp [zm_num, h3]⟩
    · refine lv_aload_n hx hb zd_M_named_17 rfl (lv_at hl 2 rfl) ?_
      refine lv_iload_n hx hb zd_M_named_18 rfl (lv_at hl 0 rfl) ?_
      refine zc_rV (rest := []) [.int (nI i1)] hx hb hml hown hz (zc_M_is l dC dI cI cZ a (up, (nm, hi, ln, op, wd), (nm2, hi2, ln2, op2, wd2)) (nI i1)) zf_M_is rfl rfl zq_215 zq_216 zq_15 ⟨Nat.le_of_ble_eq_true rfl, Nat.le_of_ble_eq_true rfl⟩ hk (hP.sub [0, 1, 2, 3, 4, 5, 6, 7, 8, 9, 10] rfl) 0 2 rfl rfl rfl rfl hl.1 rfl (Nat.le_of_ble_eq_true rfl) zd_M_named_19 ⟨Nat.zero_le _, Nat.zero_le _⟩ (fun r4 e5 => ?_)
      obtain rfl : r4 = zs_b (zm_at up nm i1) := e5.trans (congrArg zs_b (zm_is_at hlt1))
      refine zi_eq (tgt := 41) hx hb zd_M_named_22 rfl (fun h6 => ?_) (fun h6 => ?_)
      · refine lv_iload_n hx hb zd_M_named_41 rfl (lv_at hl 1 rfl) ?_
        refine lv_istore_n (lv' := [(2, .int x1), (3, .int (nI i1)), (0, .ref (a 0)), (1, .int x)]) hx hb zd_M_named_42 rfl hl (by decide) rfl (fun ls hl => ?_)
        refine lv_iinc (k := 1) (v := nI (i1 + 1)) (lv' := [(3, .int (nI (i1 + 1))), (2, .int x1), (0, .ref (a 0)), (1, .int x)]) hx hb zd_M_named_43 hl rfl (zs_inc _) (by decide) rfl (fun ls hl => ?_)
        refine lv_goto (tgt := 4) hx hb zd_M_named_46 rfl ?_
        exact ih1 x1 ls ⟨lv_sub hl [0, 1, 2, 3] rfl, by rw [← hI1]; simp [zm_num, h3, h6]⟩
      · refine lv_aload_n hx hb zd_M_named_25 rfl (lv_at hl 2 rfl) ?_
        refine va_get (D := (dC, dI)) (ci := 2) (v := .ref (a 1)) (C := "ZoneShelfModel") (T := zs_T_M) (N := 11) hx hb hz zs_in_M hown hk.1 hP 0 rfl rfl 1 (by decide) (hz _ zq_184) (fun _ h9 => h9) rfl zd_M_named_26 ?_
        refine lv_iload_n hx hb zd_M_named_29 rfl (lv_at hl 0 rfl) ?_
        refine zi_ald hx hb hk hP 1 (j := i1) rfl (by omega) (by decide) zd_M_named_30 ?_
        refine lv_iload_n hx hb zd_M_named_31 rfl (lv_at hl 3 rfl) ?_
        refine lv_iconst (v := 1) hx hb zd_M_named_32 (by decide) ?_
        refine lv_iadd hx hb zd_M_named_33 ?_
        refine lv_icmp_ne (tgt := 41) hx hb zd_M_named_34 rfl (fun h7 => ?_) (fun h7 => ?_)
        · refine lv_iload_n hx hb zd_M_named_41 rfl (lv_at hl 1 rfl) ?_
          refine lv_istore_n (lv' := [(2, .int x1), (3, .int (nI i1)), (0, .ref (a 0)), (1, .int x)]) hx hb zd_M_named_42 rfl hl (by decide) rfl (fun ls hl => ?_)
          refine lv_iinc (k := 1) (v := nI (i1 + 1)) (lv' := [(3, .int (nI (i1 + 1))), (2, .int x1), (0, .ref (a 0)), (1, .int x)]) hx hb zd_M_named_43 hl rfl (zs_inc _) (by decide) rfl (fun ls hl => ?_)
          refine lv_goto (tgt := 4) hx hb zd_M_named_46 rfl ?_
          exact ih1 x1 ls ⟨lv_sub hl [0, 1, 2, 3] rfl, by rw [← hI1]; simp [zm_num, h3, h6, h7]⟩
        · refine lv_iload_n hx hb zd_M_named_37 rfl (lv_at hl 0 rfl) ?_
          refine lv_goto (tgt := 42) hx hb zd_M_named_38 rfl ?_
          refine lv_istore_n (lv' := [(2, .int (nI i1)), (3, .int (nI i1)), (0, .ref (a 0)), (1, .int x)]) hx hb zd_M_named_42 rfl hl (by decide) rfl (fun ls hl => ?_)
          refine lv_iinc (k := 1) (v := nI (i1 + 1)) (lv' := [(3, .int (nI (i1 + 1))), (2, .int (nI i1)), (0, .ref (a 0)), (1, .int x)]) hx hb zd_M_named_43 hl rfl (zs_inc _) (by decide) rfl (fun ls hl => ?_)
          refine lv_goto (tgt := 4) hx hb zd_M_named_46 rfl ?_
          exact ih1 (nI i1) ls ⟨lv_sub hl [0, 1, 2, 3] rfl, by rw [← hI1]; simp [zm_num, h3, h6, h7]⟩
  · obtain ⟨hl, hI1⟩ := hv
    have hl : lv_has ls 4 [(3, .int (nI 24)), (2, .int x1), (0, .ref (a 0)), (1, .int x)] := hl
    have hI1 : zm_num up nm x 0 24 x1 = v := hI1
    refine lv_iload_n hx hb zd_M_named_4 rfl (lv_at hl 0 rfl) ?_
    refine lv_bipush (v := 24) hx hb zd_M_named_5 (by decide) ?_
    refine zj_out (tgt := 49) (n := 24) (i := 24) hx hb zd_M_named_7 rfl (by decide) (Nat.le_refl _) (by decide) ?_
    refine lv_iload_n hx hb zd_M_named_49 rfl (lv_at hl 1 rfl) ?_
    exact zr_iret hx hb hr hlocks zd_M_named_50 (show x1 = zm_num up nm x 24 0 (-1) from by rw [← hv0, ← hI1]; rfl)
set_option maxHeartbeats 4000000 in
set_option maxRecDepth 100000 in
theorem zc_M_left (l : Launch) (dC : Nat → ClassId) (dI : Nat → Nat → Nat) (cI cZ : ClassId) (a : Nat → Nat) (u : zs_X)  : Met l zy_M_left (.code zy_M_left zb_M_left 3 (some .int) :: zs_w) ({ frames := 0, cells := 0, slots := 0, locals := 0 }) (va_Pc [.ref (a 0)] (zs_r dC dI cI cZ (zs_wM cI cZ a u))) (vp_Si (fun r => r = zm_left u.2.1.1 u.2.1.2.2.1 24 0 200)) 0 0 (fun _ => False) := by
  obtain ⟨up, ⟨nm, hi, ln, op, wd⟩, ⟨nm2, hi2, ln2, op2, wd2⟩⟩ := u
  refine Met.ofW (cc := zb_M_left) (maxL := 3) (ret := (some .int)) (by decide) rfl ?_
  intro p e s m args below meth c s₁ B hml hv
  obtain ⟨rfl, hP, hk⟩ := hv
  have hx := B.exec
  have hb := B.bytes
  have hr := B.returns
  have hts := atoms_spec (ws := .code zy_M_left zb_M_left 3 (some .int) :: zs_w) B.pre
  have hz : ∀ w ∈ zs_w, w.before _ s = true := fun w h => hts w (List.mem_cons_of_mem _ h)
  have hown : s.vm.findClass "ZoneShelfModel" = some m.cls := findClass_of_methodNamed B.named
  have hlocks := B.notSynchronized
  have hP : va_P (dC, dI) zs_cl [(a 0, .inr (2, [.int (zs_b up), .ref (a 1), .ref (a 2), .ref (a 3), .ref (a 4), .ref (a 5), .ref (a 6), .ref (a 7), .ref (a 8), .ref (a 9), .ref (a 10)])), (a 1, .inl (cI, 24, .inl nm)), (a 2, .inl (cI, 24, .inl hi)), (a 3, .inl (cI, 24, .inl ln)), (a 4, .inl (cZ, 24, .inl op)), (a 5, .inl (cI, 1536, .inl wd)), (a 6, .inl (cI, 24, .inl nm2)), (a 7, .inl (cI, 24, .inl hi2)), (a 8, .inl (cI, 24, .inl ln2)), (a 9, .inl (cZ, 24, .inl op2)), (a 10, .inl (cI, 1536, .inl wd2))] s.heap := hP
  have hl := lv_entry ([.ref (a 0)]) (n := 3) (Nat.le_of_ble_eq_true rfl)
  rw [lg_entry_eq]
  generalize (lg_sl ([.ref (a 0)]) ++ List.replicate (3 - (lg_sl ([.ref (a 0)])).length) Slot.unset).toArray = ls at hl ⊢
  have hl : lv_has ls 3 [(0, .ref (a 0))] := hl
  refine lv_sipush (v := 200) hx hb zd_M_left_0 (by decide) ?_
  refine lv_istore_n (lv' := [(1, .int 200), (0, .ref (a 0))]) hx hb zd_M_left_3 rfl hl (by decide) rfl (fun ls hl => ?_)
  refine lv_iconst (v := 0) hx hb zd_M_left_4 (by decide) ?_
  refine lv_istore_n (lv' := [(2, .int 0), (1, .int 200), (0, .ref (a 0))]) hx hb zd_M_left_5 rfl hl (by decide) rfl (fun ls hl => ?_)
  obtain ⟨v, hv0⟩ : ∃ v, v = zm_left nm ln 24 0 200 := ⟨_, rfl⟩
  refine zl_r (N := 24) (α := Int32) (fun kk ii xx ls => lv_has ls 3 [(2, .int (nI ii)), (1, .int xx), (0, .ref (a 0))] ∧ zm_left nm ln kk ii xx = v) (fun k1 i1 x1 ls e1 hv ih1 => ?_) (fun x1 ls hv => ?_) 24 0 200 ls rfl ⟨lv_sub hl [0, 1, 2] rfl, hv0.symm⟩
  · obtain ⟨hl, hI1⟩ := hv
    have hl : lv_has ls 3 [(2, .int (nI i1)), (1, .int x1), (0, .ref (a 0))] := hl
    have hI1 : zm_left nm ln (k1 + 1) i1 x1 = v := hI1
    have hlt1 : i1 < 24 := by omega
    refine lv_iload_n hx hb zd_M_left_6 rfl (lv_at hl 0 rfl) ?_
    refine lv_bipush (v := 24) hx hb zd_M_left_7 (by decide) ?_
    refine zj_in (tgt := 40) (n := 24) hx hb zd_M_left_9 rfl (by decide) hlt1 (by decide) ?_
    refine lv_iload_n hx hb zd_M_left_12 rfl (lv_at hl 1 rfl) ?_
    refine lv_aload_n hx hb zd_M_left_13 rfl (lv_at hl 2 rfl) ?_
    refine va_get (D := (dC, dI)) (ci := 2) (v := .ref (a 1)) (C := "ZoneShelfModel") (T := zs_T_M) (N := 11) hx hb hz zs_in_M hown hk.1 hP 0 rfl rfl 1 (by decide) (hz _ zq_184) (fun _ h9 => h9) rfl zd_M_left_14 ?_
    refine lv_iload_n hx hb zd_M_left_17 rfl (lv_at hl 0 rfl) ?_
    refine zi_ald hx hb hk hP 1 (j := i1) rfl (by omega) (by decide) zd_M_left_18 ?_
    refine lv_if_le (tgt := 31) hx hb zd_M_left_19 rfl (fun h1 => ?_) (fun h1 => ?_)
    · refine lv_iconst (v := 0) hx hb zd_M_left_31 (by decide) ?_
      refine lv_isub hx hb zd_M_left_32 ?_
      refine lv_istore_n (lv' := [(1, .int (x1 - 0)), (2, .int (nI i1)), (0, .ref (a 0))]) hx hb zd_M_left_33 rfl hl (by decide) rfl (fun ls hl => ?_)
      refine lv_iinc (k := 1) (v := nI (i1 + 1)) (lv' := [(2, .int (nI (i1 + 1))), (1, .int (x1 - 0)), (0, .ref (a 0))]) hx hb zd_M_left_34 hl rfl (zs_inc _) (by decide) rfl (fun ls hl => ?_)
      refine lv_goto (tgt := 6) hx hb zd_M_left_37 rfl ?_
      exact ih1 (x1 - 0) ls ⟨lv_sub hl [0, 1, 2] rfl, by rw [← hI1]; simp only [zm_left]; rw [if_pos h1]⟩
    · refine lv_aload_n hx hb zd_M_left_22 rfl (lv_at hl 2 rfl) ?_
      refine va_get (D := (dC, dI)) (ci := 2) (v := .ref (a 3)) (C := "ZoneShelfModel") (T := zs_T_M) (N := 11) hx hb hz zs_in_M hown hk.1 hP 0 rfl rfl 3 (by decide) (hz _ zq_186) (fun _ h9 => h9) rfl zd_M_left_23 ?_
      refine lv_iload_n hx hb zd_M_left_26 rfl (lv_at hl 0 rfl) ?_
      refine zi_ald hx hb hk hP 3 (j := i1) rfl (by omega) (by decide) zd_M_left_27 ?_
      refine lv_goto (tgt := 32) hx hb zd_M_left_28 rfl ?_
      refine lv_isub hx hb zd_M_left_32 ?_
      refine lv_istore_n (lv' := [(1, .int (x1 - (ln i1))), (2, .int (nI i1)), (0, .ref (a 0))]) hx hb zd_M_left_33 rfl hl (by decide) rfl (fun ls hl => ?_)
      refine lv_iinc (k := 1) (v := nI (i1 + 1)) (lv' := [(2, .int (nI (i1 + 1))), (1, .int (x1 - (ln i1))), (0, .ref (a 0))]) hx hb zd_M_left_34 hl rfl (zs_inc _) (by decide) rfl (fun ls hl => ?_)
      refine lv_goto (tgt := 6) hx hb zd_M_left_37 rfl ?_
      exact ih1 (x1 - ln i1) ls ⟨lv_sub hl [0, 1, 2] rfl, by rw [← hI1]; simp only [zm_left]; rw [if_neg h1]⟩
  · obtain ⟨hl, hI1⟩ := hv
    have hl : lv_has ls 3 [(2, .int (nI 24)), (1, .int x1), (0, .ref (a 0))] := hl
    have hI1 : zm_left nm ln 0 24 x1 = v := hI1
    refine lv_iload_n hx hb zd_M_left_6 rfl (lv_at hl 0 rfl) ?_
    refine lv_bipush (v := 24) hx hb zd_M_left_7 (by decide) ?_
    refine zj_out (tgt := 40) (n := 24) (i := 24) hx hb zd_M_left_9 rfl (by decide) (Nat.le_refl _) (by decide) ?_
    refine lv_iload_n hx hb zd_M_left_40 rfl (lv_at hl 1 rfl) ?_
    exact zr_iret hx hb hr hlocks zd_M_left_41 (show x1 = zm_left nm ln 24 0 200 from by rw [← hv0, ← hI1]; rfl)
set_option maxHeartbeats 4000000 in
set_option maxRecDepth 100000 in
theorem zc_M_objects (l : Launch) (dC : Nat → ClassId) (dI : Nat → Nat → Nat) (cI cZ : ClassId) (a : Nat → Nat) (u : zs_X)  : Met l zy_M_objects (.code zy_M_objects zb_M_objects 3 (some .int) :: zs_w) ({ frames := 1, cells := 0, slots := 0, locals := 21 }) (va_Pc [.ref (a 0)] (zs_r dC dI cI cZ (zs_wM cI cZ a u))) (vp_Si (fun r => r = zm_objects u)) 0 0 (fun _ => False) := by
  obtain ⟨up, ⟨nm, hi, ln, op, wd⟩, ⟨nm2, hi2, ln2, op2, wd2⟩⟩ := u
  refine Met.ofW (cc := zb_M_objects) (maxL := 3) (ret := (some .int)) (by decide) rfl ?_
  intro p e s m args below meth c s₁ B hml hv
  obtain ⟨rfl, hP, hk⟩ := hv
  have hx := B.exec
  have hb := B.bytes
  have hr := B.returns
  have hts := atoms_spec (ws := .code zy_M_objects zb_M_objects 3 (some .int) :: zs_w) B.pre
  have hz : ∀ w ∈ zs_w, w.before _ s = true := fun w h => hts w (List.mem_cons_of_mem _ h)
  have hown : s.vm.findClass "ZoneShelfModel" = some m.cls := findClass_of_methodNamed B.named
  have hlocks := B.notSynchronized
  have hP : va_P (dC, dI) zs_cl [(a 0, .inr (2, [.int (zs_b up), .ref (a 1), .ref (a 2), .ref (a 3), .ref (a 4), .ref (a 5), .ref (a 6), .ref (a 7), .ref (a 8), .ref (a 9), .ref (a 10)])), (a 1, .inl (cI, 24, .inl nm)), (a 2, .inl (cI, 24, .inl hi)), (a 3, .inl (cI, 24, .inl ln)), (a 4, .inl (cZ, 24, .inl op)), (a 5, .inl (cI, 1536, .inl wd)), (a 6, .inl (cI, 24, .inl nm2)), (a 7, .inl (cI, 24, .inl hi2)), (a 8, .inl (cI, 24, .inl ln2)), (a 9, .inl (cZ, 24, .inl op2)), (a 10, .inl (cI, 1536, .inl wd2))] s.heap := hP
  have hl := lv_entry ([.ref (a 0)]) (n := 3) (Nat.le_of_ble_eq_true rfl)
  rw [lg_entry_eq]
  generalize (lg_sl ([.ref (a 0)]) ++ List.replicate (3 - (lg_sl ([.ref (a 0)])).length) Slot.unset).toArray = ls at hl ⊢
  have hl : lv_has ls 3 [(0, .ref (a 0))] := hl
  refine lv_iconst (v := 0) hx hb zd_M_objects_0 (by decide) ?_
  refine lv_istore_n (lv' := [(1, .int 0), (0, .ref (a 0))]) hx hb zd_M_objects_1 rfl hl (by decide) rfl (fun ls hl => ?_)
  refine lv_iconst (v := 0) hx hb zd_M_objects_2 (by decide) ?_
  refine lv_istore_n (lv' := [(2, .int 0), (1, .int 0), (0, .ref (a 0))]) hx hb zd_M_objects_3 rfl hl (by decide) rfl (fun ls hl => ?_)
  obtain ⟨v, hv0⟩ : ∃ v, v = zm_cnt up nm 24 0 0 := ⟨_, rfl⟩
  refine zl_r (N := 24) (α := Int32) (fun kk ii xx ls => lv_has ls 3 [(2, .int (nI ii)), (1, .int xx), (0, .ref (a 0))] ∧ zm_cnt up nm kk ii xx = v) (fun k1 i1 x1 ls e1 hv ih1 => ?_) (fun x1 ls hv => ?_) 24 0 0 ls rfl ⟨lv_sub hl [0, 1, 2] rfl, hv0.symm⟩
  · obtain ⟨hl, hI1⟩ := hv
    have hl : lv_has ls 3 [(2, .int (nI i1)), (1, .int x1), (0, .ref (a 0))] := hl
    have hI1 : zm_cnt up nm (k1 + 1) i1 x1 = v := hI1
    have hlt1 : i1 < 24 := by omega
    refine lv_iload_n hx hb zd_M_objects_4 rfl (lv_at hl 0 rfl) ?_
    refine lv_bipush (v := 24) hx hb zd_M_objects_5 (by decide) ?_
    refine zj_in (tgt := 32) (n := 24) hx hb zd_M_objects_7 rfl (by decide) hlt1 (by decide) ?_
    refine lv_iload_n hx hb zd_M_objects_10 rfl (lv_at hl 1 rfl) ?_
    refine lv_aload_n hx hb zd_M_objects_11 rfl (lv_at hl 2 rfl) ?_
    refine lv_iload_n hx hb zd_M_objects_12 rfl (lv_at hl 0 rfl) ?_
    refine zc_rV (rest := [.int x1]) [.int (nI i1)] hx hb hml hown hz (zc_M_is l dC dI cI cZ a (up, (nm, hi, ln, op, wd), (nm2, hi2, ln2, op2, wd2)) (nI i1)) zf_M_is rfl rfl zq_215 zq_216 zq_15 ⟨Nat.le_of_ble_eq_true rfl, Nat.le_of_ble_eq_true rfl⟩ hk (hP.sub [0, 1, 2, 3, 4, 5, 6, 7, 8, 9, 10] rfl) 0 2 rfl rfl rfl rfl hl.1 rfl (Nat.le_of_ble_eq_true rfl) zd_M_objects_13 ⟨Nat.zero_le _, Nat.zero_le _⟩ (fun r1 e2 => ?_)
    obtain rfl : r1 = zs_b (zm_at up nm i1) := e2.trans (congrArg zs_b (zm_is_at hlt1))
    refine zi_eq (tgt := 23) hx hb zd_M_objects_16 rfl (fun h3 => ?_) (fun h3 => ?_)
    · refine lv_iconst (v := 0) hx hb zd_M_objects_23 (by decide) ?_
      refine lv_iadd hx hb zd_M_objects_24 ?_
      refine lv_istore_n (lv' := [(1, .int (x1 + 0)), (2, .int (nI i1)), (0, .ref (a 0))]) hx hb zd_M_objects_25 rfl hl (by decide) rfl (fun ls hl => ?_)
      refine lv_iinc (k := 1) (v := nI (i1 + 1)) (lv' := [(2, .int (nI (i1 + 1))), (1, .int (x1 + 0)), (0, .ref (a 0))]) hx hb zd_M_objects_26 hl rfl (zs_inc _) (by decide) rfl (fun ls hl => ?_)
      refine lv_goto (tgt := 4) hx hb zd_M_objects_29 rfl ?_
      exact ih1 (x1 + 0) ls ⟨lv_sub hl [0, 1, 2] rfl, by rw [← hI1]; simp only [zm_cnt]; rw [if_neg (by rw [h3]; decide)]⟩
    · refine lv_iconst (v := 1) hx hb zd_M_objects_19 (by decide) ?_
      refine lv_goto (tgt := 24) hx hb zd_M_objects_20 rfl ?_
      refine lv_iadd hx hb zd_M_objects_24 ?_
      refine lv_istore_n (lv' := [(1, .int (x1 + 1)), (2, .int (nI i1)), (0, .ref (a 0))]) hx hb zd_M_objects_25 rfl hl (by decide) rfl (fun ls hl => ?_)
      refine lv_iinc (k := 1) (v := nI (i1 + 1)) (lv' := [(2, .int (nI (i1 + 1))), (1, .int (x1 + 1)), (0, .ref (a 0))]) hx hb zd_M_objects_26 hl rfl (zs_inc _) (by decide) rfl (fun ls hl => ?_)
      refine lv_goto (tgt := 4) hx hb zd_M_objects_29 rfl ?_
      exact ih1 (x1 + 1) ls ⟨lv_sub hl [0, 1, 2] rfl, by rw [← hI1]; simp only [zm_cnt]; rw [if_pos h3]⟩
  · obtain ⟨hl, hI1⟩ := hv
    have hl : lv_has ls 3 [(2, .int (nI 24)), (1, .int x1), (0, .ref (a 0))] := hl
    have hI1 : zm_cnt up nm 0 24 x1 = v := hI1
    refine lv_iload_n hx hb zd_M_objects_4 rfl (lv_at hl 0 rfl) ?_
    refine lv_bipush (v := 24) hx hb zd_M_objects_5 (by decide) ?_
    refine zj_out (tgt := 32) (n := 24) (i := 24) hx hb zd_M_objects_7 rfl (by decide) (Nat.le_refl _) (by decide) ?_
    refine lv_iload_n hx hb zd_M_objects_32 rfl (lv_at hl 1 rfl) ?_
    exact zr_iret hx hb hr hlocks zd_M_objects_33 (show x1 = zm_objects (up, (nm, hi, ln, op, wd), (nm2, hi2, ln2, op2, wd2)) from by show x1 = zm_cnt up nm 24 0 0; rw [← hv0, ← hI1]; rfl)
set_option maxHeartbeats 4000000 in
set_option maxRecDepth 100000 in
theorem zc_M_room (l : Launch) (dC : Nat → ClassId) (dI : Nat → Nat → Nat) (cI cZ : ClassId) (a : Nat → Nat) (u : zs_X)  : Met l zy_M_room (.code zy_M_room zb_M_room 1 (some .int) :: zs_w) ({ frames := 1, cells := 0, slots := 0, locals := 22 }) (va_Pc [.ref (a 0)] (zs_r dC dI cI cZ (zs_wM cI cZ a u))) (vp_Si (fun r => r = zm_room u)) 0 0 (fun _ => False) := by
  obtain ⟨up, ⟨nm, hi, ln, op, wd⟩, ⟨nm2, hi2, ln2, op2, wd2⟩⟩ := u
  refine Met.ofW (cc := zb_M_room) (maxL := 1) (ret := (some .int)) (by decide) rfl ?_
  intro p e s m args below meth c s₁ B hml hv
  obtain ⟨rfl, hP, hk⟩ := hv
  have hx := B.exec
  have hb := B.bytes
  have hr := B.returns
  have hts := atoms_spec (ws := .code zy_M_room zb_M_room 1 (some .int) :: zs_w) B.pre
  have hz : ∀ w ∈ zs_w, w.before _ s = true := fun w h => hts w (List.mem_cons_of_mem _ h)
  have hown : s.vm.findClass "ZoneShelfModel" = some m.cls := findClass_of_methodNamed B.named
  have hlocks := B.notSynchronized
  have hP : va_P (dC, dI) zs_cl [(a 0, .inr (2, [.int (zs_b up), .ref (a 1), .ref (a 2), .ref (a 3), .ref (a 4), .ref (a 5), .ref (a 6), .ref (a 7), .ref (a 8), .ref (a 9), .ref (a 10)])), (a 1, .inl (cI, 24, .inl nm)), (a 2, .inl (cI, 24, .inl hi)), (a 3, .inl (cI, 24, .inl ln)), (a 4, .inl (cZ, 24, .inl op)), (a 5, .inl (cI, 1536, .inl wd)), (a 6, .inl (cI, 24, .inl nm2)), (a 7, .inl (cI, 24, .inl hi2)), (a 8, .inl (cI, 24, .inl ln2)), (a 9, .inl (cZ, 24, .inl op2)), (a 10, .inl (cI, 1536, .inl wd2))] s.heap := hP
  have hl := lv_entry ([.ref (a 0)]) (n := 1) (Nat.le_of_ble_eq_true rfl)
  rw [lg_entry_eq]
  generalize (lg_sl ([.ref (a 0)]) ++ List.replicate (1 - (lg_sl ([.ref (a 0)])).length) Slot.unset).toArray = ls at hl ⊢
  have hl : lv_has ls 1 [(0, .ref (a 0))] := hl
  refine lv_aload_n hx hb zd_M_room_0 rfl (lv_at hl 0 rfl) ?_
  refine va_get (D := (dC, dI)) (ci := 2) (v := .int (zs_b up)) (C := "ZoneShelfModel") (T := zs_T_M) (N := 11) hx hb hz zs_in_M hown hk.1 hP 0 rfl rfl 0 (by decide) (hz _ zq_183) (fun _ h9 => h9) rfl zd_M_room_1 ?_
  refine zi_eq (tgt := 14) hx hb zd_M_room_4 rfl (fun h1 => ?_) (fun h1 => ?_)
  · subst h1
    refine lv_iconst (v := 0) hx hb zd_M_room_14 (by decide) ?_
    exact zr_iret hx hb hr hlocks zd_M_room_15 (show 0 = zm_room (false, (nm, hi, ln, op, wd), (nm2, hi2, ln2, op2, wd2)) from by simp [zm_room])
  · subst h1
    refine lv_aload_n hx hb zd_M_room_7 rfl (lv_at hl 0 rfl) ?_
    refine zc_rV (rest := []) [] hx hb hml hown hz (zc_M_left l dC dI cI cZ a (true, (nm, hi, ln, op, wd), (nm2, hi2, ln2, op2, wd2)) ) zf_M_left rfl rfl zq_226 zq_227 zq_16 ⟨Nat.le_of_ble_eq_true rfl, Nat.le_of_ble_eq_true rfl⟩ hk (hP.sub [0, 1, 2, 3, 4, 5, 6, 7, 8, 9, 10] rfl) 0 2 rfl rfl rfl rfl hl.1 rfl (Nat.le_of_ble_eq_true rfl) zd_M_room_8 ⟨Nat.zero_le _, Nat.zero_le _⟩ (fun r2 e3 => ?_)
    obtain rfl : r2 = zm_left nm ln 24 0 200 := e3
    refine lv_goto (tgt := 15) hx hb zd_M_room_11 rfl ?_
    exact zr_iret hx hb hr hlocks zd_M_room_15 (show (zm_left nm ln 24 0 200) = zm_room (true, (nm, hi, ln, op, wd), (nm2, hi2, ln2, op2, wd2)) from by simp [zm_room])
set_option maxHeartbeats 4000000 in
set_option maxRecDepth 100000 in
theorem zc_M_object (l : Launch) (dC : Nat → ClassId) (dI : Nat → Nat → Nat) (cI cZ : ClassId) (a : Nat → Nat) (u : zs_X) (o w : Int32) : Met l zy_M_object (.code zy_M_object zb_M_object 3 (some .int) :: zs_w) ({ frames := 1, cells := 0, slots := 0, locals := 21 }) (va_Pc [.ref (a 0), .int o, .int w] (zs_r dC dI cI cZ (zs_wM cI cZ a u))) (vp_Si (fun r => r = zm_object u o w)) 0 0 (fun _ => False) := by
  obtain ⟨up, ⟨nm, hi, ln, op, wd⟩, ⟨nm2, hi2, ln2, op2, wd2⟩⟩ := u
  refine Met.ofW (cc := zb_M_object) (maxL := 3) (ret := (some .int)) (by decide) rfl ?_
  intro p e s m args below meth c s₁ B hml hv
  obtain ⟨rfl, hP, hk⟩ := hv
  have hx := B.exec
  have hb := B.bytes
  have hr := B.returns
  have hts := atoms_spec (ws := .code zy_M_object zb_M_object 3 (some .int) :: zs_w) B.pre
  have hz : ∀ w ∈ zs_w, w.before _ s = true := fun w h => hts w (List.mem_cons_of_mem _ h)
  have hown : s.vm.findClass "ZoneShelfModel" = some m.cls := findClass_of_methodNamed B.named
  have hlocks := B.notSynchronized
  have hP : va_P (dC, dI) zs_cl [(a 0, .inr (2, [.int (zs_b up), .ref (a 1), .ref (a 2), .ref (a 3), .ref (a 4), .ref (a 5), .ref (a 6), .ref (a 7), .ref (a 8), .ref (a 9), .ref (a 10)])), (a 1, .inl (cI, 24, .inl nm)), (a 2, .inl (cI, 24, .inl hi)), (a 3, .inl (cI, 24, .inl ln)), (a 4, .inl (cZ, 24, .inl op)), (a 5, .inl (cI, 1536, .inl wd)), (a 6, .inl (cI, 24, .inl nm2)), (a 7, .inl (cI, 24, .inl hi2)), (a 8, .inl (cI, 24, .inl ln2)), (a 9, .inl (cZ, 24, .inl op2)), (a 10, .inl (cI, 1536, .inl wd2))] s.heap := hP
  have hl := lv_entry ([.ref (a 0), .int o, .int w]) (n := 3) (Nat.le_of_ble_eq_true rfl)
  rw [lg_entry_eq]
  generalize (lg_sl ([.ref (a 0), .int o, .int w]) ++ List.replicate (3 - (lg_sl ([.ref (a 0), .int o, .int w])).length) Slot.unset).toArray = ls at hl ⊢
  have hl : lv_has ls 3 [(0, .ref (a 0)), (1, .int o), (2, .int w)] := hl
  refine lv_aload_n hx hb zd_M_object_0 rfl (lv_at hl 0 rfl) ?_
  refine lv_iload_n hx hb zd_M_object_1 rfl (lv_at hl 1 rfl) ?_
  refine zc_rV (rest := []) [.int o] hx hb hml hown hz (zc_M_is l dC dI cI cZ a (up, (nm, hi, ln, op, wd), (nm2, hi2, ln2, op2, wd2)) o) zf_M_is rfl rfl zq_215 zq_216 zq_15 ⟨Nat.le_of_ble_eq_true rfl, Nat.le_of_ble_eq_true rfl⟩ hk (hP.sub [0, 1, 2, 3, 4, 5, 6, 7, 8, 9, 10] rfl) 0 2 rfl rfl rfl rfl hl.1 rfl (Nat.le_of_ble_eq_true rfl) zd_M_object_2 ⟨Nat.zero_le _, Nat.zero_le _⟩ (fun r1 e2 => ?_)
  obtain rfl : r1 = zs_b (zm_is up nm o) := e2
  refine zi_ne (tgt := 10) hx hb zd_M_object_5 rfl (fun h3 => ?_) (fun h3 => ?_)
  · obtain ⟨j, hj, rfl, hup, htk⟩ := zm_is_t h3
    refine lv_iload_n hx hb zd_M_object_10 rfl (lv_at hl 2 rfl) ?_
    by_cases c0 : w = 0
    · refine lv_tableIn (off := 29) (tgt := 40) hx hb zd_M_object_11 (by rw [c0]; decide) (by rw [c0]; decide) (by rw [c0]; rfl) rfl ?_
      refine lv_aload_n hx hb zd_M_object_40 rfl (lv_at hl 0 rfl) ?_
      refine va_get (D := (dC, dI)) (ci := 2) (v := .ref (a 1)) (C := "ZoneShelfModel") (T := zs_T_M) (N := 11) hx hb hz zs_in_M hown hk.1 hP 0 rfl rfl 1 (by decide) (hz _ zq_184) (fun _ h9 => h9) rfl zd_M_object_41 ?_
      refine lv_iload_n hx hb zd_M_object_44 rfl (lv_at hl 1 rfl) ?_
      refine zi_ald hx hb hk hP 1 (j := j) rfl (by omega) (by decide) zd_M_object_45 ?_
      refine lv_iconst (v := 1) hx hb zd_M_object_46 (by decide) ?_
      refine lv_isub hx hb zd_M_object_47 ?_
      exact zr_iret hx hb hr hlocks zd_M_object_48 (show ((nm j) - 1) = zm_object (up, (nm, hi, ln, op, wd), (nm2, hi2, ln2, op2, wd2)) (nI j) w from by simp only [zm_object]; rw [if_pos h3, if_pos c0, nI_clamp (show j < 2 ^ 31 by omega)])
    · by_cases c1 : w = 1
      · refine lv_tableIn (off := 38) (tgt := 49) hx hb zd_M_object_11 (by rw [c1]; decide) (by rw [c1]; decide) (by rw [c1]; rfl) rfl ?_
        refine lv_aload_n hx hb zd_M_object_49 rfl (lv_at hl 0 rfl) ?_
        refine va_get (D := (dC, dI)) (ci := 2) (v := .ref (a 2)) (C := "ZoneShelfModel") (T := zs_T_M) (N := 11) hx hb hz zs_in_M hown hk.1 hP 0 rfl rfl 2 (by decide) (hz _ zq_185) (fun _ h9 => h9) rfl zd_M_object_50 ?_
        refine lv_iload_n hx hb zd_M_object_53 rfl (lv_at hl 1 rfl) ?_
        refine zi_ald hx hb hk hP 2 (j := j) rfl (by omega) (by decide) zd_M_object_54 ?_
        exact zr_iret hx hb hr hlocks zd_M_object_55 (show (hi j) = zm_object (up, (nm, hi, ln, op, wd), (nm2, hi2, ln2, op2, wd2)) (nI j) w from by simp only [zm_object]; rw [if_pos h3, if_neg c0, if_pos c1, nI_clamp (show j < 2 ^ 31 by omega)])
      · by_cases c2 : w = 2
        · refine lv_tableIn (off := 45) (tgt := 56) hx hb zd_M_object_11 (by rw [c2]; decide) (by rw [c2]; decide) (by rw [c2]; rfl) rfl ?_
          refine lv_aload_n hx hb zd_M_object_56 rfl (lv_at hl 0 rfl) ?_
          refine va_get (D := (dC, dI)) (ci := 2) (v := .ref (a 3)) (C := "ZoneShelfModel") (T := zs_T_M) (N := 11) hx hb hz zs_in_M hown hk.1 hP 0 rfl rfl 3 (by decide) (hz _ zq_186) (fun _ h9 => h9) rfl zd_M_object_57 ?_
          refine lv_iload_n hx hb zd_M_object_60 rfl (lv_at hl 1 rfl) ?_
          refine zi_ald hx hb hk hP 3 (j := j) rfl (by omega) (by decide) zd_M_object_61 ?_
          exact zr_iret hx hb hr hlocks zd_M_object_62 (show (ln j) = zm_object (up, (nm, hi, ln, op, wd), (nm2, hi2, ln2, op2, wd2)) (nI j) w from by simp only [zm_object]; rw [if_pos h3, if_neg c0, if_neg c1, if_pos c2, nI_clamp (show j < 2 ^ 31 by omega)])
        · by_cases c3 : w = 3
          · refine lv_tableIn (off := 52) (tgt := 63) hx hb zd_M_object_11 (by rw [c3]; decide) (by rw [c3]; decide) (by rw [c3]; rfl) rfl ?_
            refine lv_aload_n hx hb zd_M_object_63 rfl (lv_at hl 0 rfl) ?_
            refine va_get (D := (dC, dI)) (ci := 2) (v := .ref (a 4)) (C := "ZoneShelfModel") (T := zs_T_M) (N := 11) hx hb hz zs_in_M hown hk.1 hP 0 rfl rfl 4 (by decide) (hz _ zq_187) (fun _ h9 => h9) rfl zd_M_object_64 ?_
            refine lv_iload_n hx hb zd_M_object_67 rfl (lv_at hl 1 rfl) ?_
            refine zi_zld hx hb hk hP 4 (j := j) rfl (by omega) (by decide) zd_M_object_68 ?_
            refine lv_if_eq (tgt := 76) hx hb zd_M_object_69 rfl (fun h4 => ?_) (fun h4 => ?_)
            · refine lv_iconst (v := 0) hx hb zd_M_object_76 (by decide) ?_
              exact zr_iret hx hb hr hlocks zd_M_object_77 (show 0 = zm_object (up, (nm, hi, ln, op, wd), (nm2, hi2, ln2, op2, wd2)) (nI j) w from by simp only [zm_object]; rw [if_pos h3, if_neg c0, if_neg c1, if_neg c2, if_pos c3, nI_clamp (show j < 2 ^ 31 by omega), if_pos h4])
            · refine lv_iconst (v := 1) hx hb zd_M_object_72 (by decide) ?_
              refine lv_goto (tgt := 77) hx hb zd_M_object_73 rfl ?_
              exact zr_iret hx hb hr hlocks zd_M_object_77 (show 1 = zm_object (up, (nm, hi, ln, op, wd), (nm2, hi2, ln2, op2, wd2)) (nI j) w from by simp only [zm_object]; rw [if_pos h3, if_neg c0, if_neg c1, if_neg c2, if_pos c3, nI_clamp (show j < 2 ^ 31 by omega), if_neg h4])
          · refine lv_tableOut (tgt := 78) hx hb zd_M_object_11 (zs_sw4 c0 c1 c2 c3) rfl ?_
            refine lv_iconst (v := (-1)) hx hb zd_M_object_78 (by decide) ?_
            exact zr_iret hx hb hr hlocks zd_M_object_79 (show (-1) = zm_object (up, (nm, hi, ln, op, wd), (nm2, hi2, ln2, op2, wd2)) (nI j) w from by simp only [zm_object]; rw [if_pos h3, if_neg c0, if_neg c1, if_neg c2, if_neg c3])
  · refine lv_iconst (v := (-1)) hx hb zd_M_object_8 (by decide) ?_
    exact zr_iret hx hb hr hlocks zd_M_object_9 (show (-1) = zm_object (up, (nm, hi, ln, op, wd), (nm2, hi2, ln2, op2, wd2)) o w from by simp [zm_object, h3])
set_option maxHeartbeats 4000000 in
set_option maxRecDepth 100000 in
theorem zc_M_word (l : Launch) (dC : Nat → ClassId) (dI : Nat → Nat → Nat) (cI cZ : ClassId) (a : Nat → Nat) (u : zs_X) (hok : zm_ok u) (o i : Int32) : Met l zy_M_word (.code zy_M_word zb_M_word 3 (some .int) :: zs_w) ({ frames := 1, cells := 0, slots := 0, locals := 21 }) (va_Pc [.ref (a 0), .int o, .int i] (zs_r dC dI cI cZ (zs_wM cI cZ a u))) (vp_Si (fun r => r = zm_word u o i)) 0 0 (fun _ => False) := by
  obtain ⟨up, ⟨nm, hi, ln, op, wd⟩, ⟨nm2, hi2, ln2, op2, wd2⟩⟩ := u
  have hok : ∀ j, j < 24 → ¬ nm j ≤ 0 → ∃ q : Nat, q ≤ 64 ∧ ln j = nI q := hok
  refine Met.ofW (cc := zb_M_word) (maxL := 3) (ret := (some .int)) (by decide) rfl ?_
  intro p e s m args below meth c s₁ B hml hv
  obtain ⟨rfl, hP, hk⟩ := hv
  have hx := B.exec
  have hb := B.bytes
  have hr := B.returns
  have hts := atoms_spec (ws := .code zy_M_word zb_M_word 3 (some .int) :: zs_w) B.pre
  have hz : ∀ w ∈ zs_w, w.before _ s = true := fun w h => hts w (List.mem_cons_of_mem _ h)
  have hown : s.vm.findClass "ZoneShelfModel" = some m.cls := findClass_of_methodNamed B.named
  have hlocks := B.notSynchronized
  have hP : va_P (dC, dI) zs_cl [(a 0, .inr (2, [.int (zs_b up), .ref (a 1), .ref (a 2), .ref (a 3), .ref (a 4), .ref (a 5), .ref (a 6), .ref (a 7), .ref (a 8), .ref (a 9), .ref (a 10)])), (a 1, .inl (cI, 24, .inl nm)), (a 2, .inl (cI, 24, .inl hi)), (a 3, .inl (cI, 24, .inl ln)), (a 4, .inl (cZ, 24, .inl op)), (a 5, .inl (cI, 1536, .inl wd)), (a 6, .inl (cI, 24, .inl nm2)), (a 7, .inl (cI, 24, .inl hi2)), (a 8, .inl (cI, 24, .inl ln2)), (a 9, .inl (cZ, 24, .inl op2)), (a 10, .inl (cI, 1536, .inl wd2))] s.heap := hP
  have hl := lv_entry ([.ref (a 0), .int o, .int i]) (n := 3) (Nat.le_of_ble_eq_true rfl)
  rw [lg_entry_eq]
  generalize (lg_sl ([.ref (a 0), .int o, .int i]) ++ List.replicate (3 - (lg_sl ([.ref (a 0), .int o, .int i])).length) Slot.unset).toArray = ls at hl ⊢
  have hl : lv_has ls 3 [(0, .ref (a 0)), (1, .int o), (2, .int i)] := hl
  refine lv_aload_n hx hb zd_M_word_0 rfl (lv_at hl 0 rfl) ?_
  refine lv_iload_n hx hb zd_M_word_1 rfl (lv_at hl 1 rfl) ?_
  refine zc_rV (rest := []) [.int o] hx hb hml hown hz (zc_M_is l dC dI cI cZ a (up, (nm, hi, ln, op, wd), (nm2, hi2, ln2, op2, wd2)) o) zf_M_is rfl rfl zq_215 zq_216 zq_15 ⟨Nat.le_of_ble_eq_true rfl, Nat.le_of_ble_eq_true rfl⟩ hk (hP.sub [0, 1, 2, 3, 4, 5, 6, 7, 8, 9, 10] rfl) 0 2 rfl rfl rfl rfl hl.1 rfl (Nat.le_of_ble_eq_true rfl) zd_M_word_2 ⟨Nat.zero_le _, Nat.zero_le _⟩ (fun r1 e2 => ?_)
  obtain rfl : r1 = zs_b (zm_is up nm o) := e2
  refine zi_eq (tgt := 36) hx hb zd_M_word_5 rfl (fun h3 => ?_) (fun h3 => ?_)
  · refine lv_iconst (v := 0) hx hb zd_M_word_36 (by decide) ?_
    exact zr_iret hx hb hr hlocks zd_M_word_37 (show 0 = zm_word (up, (nm, hi, ln, op, wd), (nm2, hi2, ln2, op2, wd2)) o i from by simp [zm_word, h3])
  · obtain ⟨j, hj, rfl, hup, htk⟩ := zm_is_t h3
    refine lv_iload_n hx hb zd_M_word_8 rfl (lv_at hl 2 rfl) ?_
    refine lv_if_lt (tgt := 36) hx hb zd_M_word_9 rfl (fun h4 => ?_) (fun h4 => ?_)
    · refine lv_iconst (v := 0) hx hb zd_M_word_36 (by decide) ?_
      exact zr_iret hx hb hr hlocks zd_M_word_37 (show 0 = zm_word (up, (nm, hi, ln, op, wd), (nm2, hi2, ln2, op2, wd2)) (nI j) i from by simp only [zm_word]; rw [if_neg (fun q => q.2.1 h4)])
    · refine lv_iload_n hx hb zd_M_word_12 rfl (lv_at hl 2 rfl) ?_
      refine lv_aload_n hx hb zd_M_word_13 rfl (lv_at hl 0 rfl) ?_
      refine va_get (D := (dC, dI)) (ci := 2) (v := .ref (a 3)) (C := "ZoneShelfModel") (T := zs_T_M) (N := 11) hx hb hz zs_in_M hown hk.1 hP 0 rfl rfl 3 (by decide) (hz _ zq_186) (fun _ h9 => h9) rfl zd_M_word_14 ?_
      refine lv_iload_n hx hb zd_M_word_17 rfl (lv_at hl 1 rfl) ?_
      refine zi_ald hx hb hk hP 3 (j := j) rfl (by omega) (by decide) zd_M_word_18 ?_
      refine lv_icmp_ge (tgt := 36) hx hb zd_M_word_19 rfl (fun h5 => ?_) (fun h5 => ?_)
      · refine lv_iconst (v := 0) hx hb zd_M_word_36 (by decide) ?_
        exact zr_iret hx hb hr hlocks zd_M_word_37 (show 0 = zm_word (up, (nm, hi, ln, op, wd), (nm2, hi2, ln2, op2, wd2)) (nI j) i from by simp only [zm_word, nI_clamp (show j < 2 ^ 31 by omega)]; rw [if_neg (fun q => zs_nge h5 q.2.2)])
      · have h5 : i < ln j := zs_lt h5
        obtain ⟨q, hq6, hq⟩ := hok j hj htk
        have hq : ln j = nI q := hq
        obtain ⟨i, hi6, rfl⟩ := zs_wix h4 (hq ▸ h5) hq6
        refine lv_aload_n hx hb zd_M_word_22 rfl (lv_at hl 0 rfl) ?_
        refine va_get (D := (dC, dI)) (ci := 2) (v := .ref (a 5)) (C := "ZoneShelfModel") (T := zs_T_M) (N := 11) hx hb hz zs_in_M hown hk.1 hP 0 rfl rfl 5 (by decide) (hz _ zq_188) (fun _ h9 => h9) rfl zd_M_word_23 ?_
        refine lv_bipush (v := 64) hx hb zd_M_word_26 (by decide) ?_
        refine lv_iload_n hx hb zd_M_word_28 rfl (lv_at hl 1 rfl) ?_
        refine lv_imul hx hb zd_M_word_29 ?_
        refine lv_iload_n hx hb zd_M_word_30 rfl (lv_at hl 2 rfl) ?_
        refine lv_iadd hx hb zd_M_word_31 ?_
        refine zi_top (y := nI (j * 64 + i)) (by rw [show (64 : Int32) = nI 64 from rfl, pk_mul, nI_add, show 64 * j + i = j * 64 + i by omega]) ?_
        refine zi_ald hx hb hk hP 5 (j := (j * 64 + i)) rfl (by omega) (by decide) zd_M_word_32 ?_
        refine lv_goto (tgt := 37) hx hb zd_M_word_33 rfl ?_
        exact zr_iret hx hb hr hlocks zd_M_word_37 (show (wd (j * 64 + i)) = zm_word (up, (nm, hi, ln, op, wd), (nm2, hi2, ln2, op2, wd2)) (nI j) (nI i) from by simp only [zm_word, nI_clamp (show j < 2 ^ 31 by omega), nI_clamp (show i < 2 ^ 31 by omega)]; rw [if_pos ⟨h3, h4, h5⟩])
set_option maxHeartbeats 4000000 in
set_option maxRecDepth 100000 in
theorem zc_M_find (l : Launch) (dC : Nat → ClassId) (dI : Nat → Nat → Nat) (cI cZ : ClassId) (a : Nat → Nat) (u : zs_X) (n : Int32) : Met l zy_M_find (.code zy_M_find zb_M_find 2 (some .int) :: zs_w) ({ frames := 2, cells := 0, slots := 0, locals := 44 }) (va_Pc [.ref (a 0), .int n] (zs_r dC dI cI cZ (zs_wM cI cZ a u))) (vp_Si (fun r => r = zm_find u n)) 0 0 (fun _ => False) := by
  obtain ⟨up, ⟨nm, hi, ln, op, wd⟩, ⟨nm2, hi2, ln2, op2, wd2⟩⟩ := u
  refine Met.ofW (cc := zb_M_find) (maxL := 2) (ret := (some .int)) (by decide) rfl ?_
  intro p e s m args below meth c s₁ B hml hv
  obtain ⟨rfl, hP, hk⟩ := hv
  have hx := B.exec
  have hb := B.bytes
  have hr := B.returns
  have hts := atoms_spec (ws := .code zy_M_find zb_M_find 2 (some .int) :: zs_w) B.pre
  have hz : ∀ w ∈ zs_w, w.before _ s = true := fun w h => hts w (List.mem_cons_of_mem _ h)
  have hown : s.vm.findClass "ZoneShelfModel" = some m.cls := findClass_of_methodNamed B.named
  have hlocks := B.notSynchronized
  have hP : va_P (dC, dI) zs_cl [(a 0, .inr (2, [.int (zs_b up), .ref (a 1), .ref (a 2), .ref (a 3), .ref (a 4), .ref (a 5), .ref (a 6), .ref (a 7), .ref (a 8), .ref (a 9), .ref (a 10)])), (a 1, .inl (cI, 24, .inl nm)), (a 2, .inl (cI, 24, .inl hi)), (a 3, .inl (cI, 24, .inl ln)), (a 4, .inl (cZ, 24, .inl op)), (a 5, .inl (cI, 1536, .inl wd)), (a 6, .inl (cI, 24, .inl nm2)), (a 7, .inl (cI, 24, .inl hi2)), (a 8, .inl (cI, 24, .inl ln2)), (a 9, .inl (cZ, 24, .inl op2)), (a 10, .inl (cI, 1536, .inl wd2))] s.heap := hP
  have hl := lv_entry ([.ref (a 0), .int n]) (n := 2) (Nat.le_of_ble_eq_true rfl)
  rw [lg_entry_eq]
  generalize (lg_sl ([.ref (a 0), .int n]) ++ List.replicate (2 - (lg_sl ([.ref (a 0), .int n])).length) Slot.unset).toArray = ls at hl ⊢
  have hl : lv_has ls 2 [(0, .ref (a 0)), (1, .int n)] := hl
  refine lv_aload_n hx hb zd_M_find_0 rfl (lv_at hl 0 rfl) ?_
  refine lv_iload_n hx hb zd_M_find_1 rfl (lv_at hl 1 rfl) ?_
  refine zc_rV (rest := []) [.int n] hx hb hml hown hz (zc_M_named l dC dI cI cZ a (up, (nm, hi, ln, op, wd), (nm2, hi2, ln2, op2, wd2)) n) zf_M_named rfl rfl zq_212 zq_213 zq_14 ⟨Nat.le_of_ble_eq_true rfl, Nat.le_of_ble_eq_true rfl⟩ hk (hP.sub [0, 1, 2, 3, 4, 5, 6, 7, 8, 9, 10] rfl) 0 2 rfl rfl rfl rfl hl.1 rfl (Nat.le_of_ble_eq_true rfl) zd_M_find_2 ⟨Nat.zero_le _, Nat.zero_le _⟩ (fun r1 e2 => ?_)
  obtain rfl : r1 = zm_num up nm n 24 0 (-1) := e2
  exact zr_iret hx hb hr hlocks zd_M_find_5 (show (zm_num up nm n 24 0 (-1)) = zm_find (up, (nm, hi, ln, op, wd), (nm2, hi2, ln2, op2, wd2)) n from by rfl)
set_option maxHeartbeats 4000000 in
set_option maxRecDepth 100000 in
theorem zc_M_list (l : Launch) (dC : Nat → ClassId) (dI : Nat → Nat → Nat) (cI cZ : ClassId) (a : Nat → Nat) (u : zs_X) (x : Int32) : Met l zy_M_list (.code zy_M_list zb_M_list 5 (some .int) :: zs_w) ({ frames := 1, cells := 0, slots := 0, locals := 21 }) (va_Pc [.ref (a 0), .int x] (zs_r dC dI cI cZ (zs_wM cI cZ a u))) (vp_Si (fun r => r = zm_list u x)) 0 0 (fun _ => False) := by
  obtain ⟨up, ⟨nm, hi, ln, op, wd⟩, ⟨nm2, hi2, ln2, op2, wd2⟩⟩ := u
  refine Met.ofW (cc := zb_M_list) (maxL := 5) (ret := (some .int)) (by decide) rfl ?_
  intro p e s m args below meth c s₁ B hml hv
  obtain ⟨rfl, hP, hk⟩ := hv
  have hx := B.exec
  have hb := B.bytes
  have hr := B.returns
  have hts := atoms_spec (ws := .code zy_M_list zb_M_list 5 (some .int) :: zs_w) B.pre
  have hz : ∀ w ∈ zs_w, w.before _ s = true := fun w h => hts w (List.mem_cons_of_mem _ h)
  have hown : s.vm.findClass "ZoneShelfModel" = some m.cls := findClass_of_methodNamed B.named
  have hlocks := B.notSynchronized
  have hP : va_P (dC, dI) zs_cl [(a 0, .inr (2, [.int (zs_b up), .ref (a 1), .ref (a 2), .ref (a 3), .ref (a 4), .ref (a 5), .ref (a 6), .ref (a 7), .ref (a 8), .ref (a 9), .ref (a 10)])), (a 1, .inl (cI, 24, .inl nm)), (a 2, .inl (cI, 24, .inl hi)), (a 3, .inl (cI, 24, .inl ln)), (a 4, .inl (cZ, 24, .inl op)), (a 5, .inl (cI, 1536, .inl wd)), (a 6, .inl (cI, 24, .inl nm2)), (a 7, .inl (cI, 24, .inl hi2)), (a 8, .inl (cI, 24, .inl ln2)), (a 9, .inl (cZ, 24, .inl op2)), (a 10, .inl (cI, 1536, .inl wd2))] s.heap := hP
  have hl := lv_entry ([.ref (a 0), .int x]) (n := 5) (Nat.le_of_ble_eq_true rfl)
  rw [lg_entry_eq]
  generalize (lg_sl ([.ref (a 0), .int x]) ++ List.replicate (5 - (lg_sl ([.ref (a 0), .int x])).length) Slot.unset).toArray = ls at hl ⊢
  have hl : lv_has ls 5 [(0, .ref (a 0)), (1, .int x)] := hl
  refine lv_iconst (v := 0) hx hb zd_M_list_0 (by decide) ?_
  refine lv_istore_n (lv' := [(2, .int 0), (0, .ref (a 0)), (1, .int x)]) hx hb zd_M_list_1 rfl hl (by decide) rfl (fun ls hl => ?_)
  obtain ⟨v, hv0⟩ : ∃ v, v = zm_rank up nm x 24 0 := ⟨_, rfl⟩
  refine zl_r (N := 24) (α := Unit) (fun kk ii xx ls => lv_has ls 5 [(2, .int (nI ii)), (0, .ref (a 0)), (1, .int x)] ∧ zm_rank up nm x kk ii = v) (fun k1 i1 x1 ls e1 hv ih1 => ?_) (fun x1 ls hv => ?_) 24 0 () ls rfl ⟨lv_sub hl [0, 1, 2] rfl, hv0.symm⟩
  · obtain ⟨hl, hI1⟩ := hv
    have hl : lv_has ls 5 [(2, .int (nI i1)), (0, .ref (a 0)), (1, .int x)] := hl
    have hI1 : zm_rank up nm x (k1 + 1) i1 = v := hI1
    have hlt1 : i1 < 24 := by omega
    refine lv_iload_n hx hb zd_M_list_2 rfl (lv_at hl 0 rfl) ?_
    refine lv_bipush (v := 24) hx hb zd_M_list_3 (by decide) ?_
    refine zj_in (tgt := 80) (n := 24) hx hb zd_M_list_5 rfl (by decide) hlt1 (by decide) ?_
    refine lv_iconst (v := 0) hx hb zd_M_list_8 (by decide) ?_
    refine lv_istore_n (lv' := [(3, .int 0), (2, .int (nI i1)), (0, .ref (a 0)), (1, .int x)]) hx hb zd_M_list_9 rfl hl (by decide) rfl (fun ls hl => ?_)
    refine lv_iconst (v := 0) hx hb zd_M_list_10 (by decide) ?_
    refine lv_istore (lv' := [(4, .int 0), (3, .int 0), (2, .int (nI i1)), (0, .ref (a 0)), (1, .int x)]) hx hb zd_M_list_11 hl (by decide) rfl (fun ls hl => ?_)
    obtain ⟨v2, hv2⟩ : ∃ v, v = zm_below up nm (nm i1) 24 0 0 := ⟨_, rfl⟩
    refine zl_r (N := 24) (α := Int32) (fun kk ii xx ls => lv_has ls 5 [(4, .int (nI ii)), (3, .int xx), (2, .int (nI i1)), (0, .ref (a 0)), (1, .int x)] ∧ zm_below up nm (nm i1) kk ii xx = v2) (fun k2 i2 x2 ls e2 hv ih2 => ?_) (fun x2 ls hv => ?_) 24 0 0 ls rfl ⟨lv_sub hl [0, 1, 2, 3, 4] rfl, hv2.symm⟩
    · obtain ⟨hl, hI2⟩ := hv
      have hl : lv_has ls 5 [(4, .int (nI i2)), (3, .int x2), (2, .int (nI i1)), (0, .ref (a 0)), (1, .int x)] := hl
      have hI2 : zm_below up nm (nm i1) (k2 + 1) i2 x2 = v2 := hI2
      have hlt2 : i2 < 24 := by omega
      refine lv_iload hx hb zd_M_list_13 (lv_at hl 0 rfl) ?_
      refine lv_bipush (v := 24) hx hb zd_M_list_15 (by decide) ?_
      refine zj_in (tgt := 59) (n := 24) hx hb zd_M_list_17 rfl (by decide) hlt2 (by decide) ?_
      refine lv_iload_n hx hb zd_M_list_20 rfl (lv_at hl 1 rfl) ?_
      refine lv_aload_n hx hb zd_M_list_21 rfl (lv_at hl 3 rfl) ?_
      refine lv_iload hx hb zd_M_list_22 (lv_at hl 0 rfl) ?_
      refine zc_rV (rest := [.int x2]) [.int (nI i2)] hx hb hml hown hz (zc_M_is l dC dI cI cZ a (up, (nm, hi, ln, op, wd), (nm2, hi2, ln2, op2, wd2)) (nI i2)) zf_M_is rfl rfl zq_215 zq_216 zq_15 ⟨Nat.le_of_ble_eq_true rfl, Nat.le_of_ble_eq_true rfl⟩ hk (hP.sub [0, 1, 2, 3, 4, 5, 6, 7, 8, 9, 10] rfl) 0 2 rfl rfl rfl rfl hl.1 rfl (Nat.le_of_ble_eq_true rfl) zd_M_list_24 ⟨Nat.zero_le _, Nat.zero_le _⟩ (fun r1 e2 => ?_)
      obtain rfl : r1 = zs_b (zm_at up nm i2) := e2.trans (congrArg zs_b (zm_is_at hlt2))
      refine zi_eq (tgt := 50) hx hb zd_M_list_27 rfl (fun h3 => ?_) (fun h3 => ?_)
      · refine lv_iconst (v := 0) hx hb zd_M_list_50 (by decide) ?_
        refine lv_iadd hx hb zd_M_list_51 ?_
        refine lv_istore_n (lv' := [(3, .int (x2 + 0)), (4, .int (nI i2)), (2, .int (nI i1)), (0, .ref (a 0)), (1, .int x)]) hx hb zd_M_list_52 rfl hl (by decide) rfl (fun ls hl => ?_)
        refine lv_iinc (k := 1) (v := nI (i2 + 1)) (lv' := [(4, .int (nI (i2 + 1))), (3, .int (x2 + 0)), (2, .int (nI i1)), (0, .ref (a 0)), (1, .int x)]) hx hb zd_M_list_53 hl rfl (zs_inc _) (by decide) rfl (fun ls hl => ?_)
        refine lv_goto (tgt := 13) hx hb zd_M_list_56 rfl ?_
        exact ih2 (x2 + 0) ls ⟨lv_sub hl [0, 1, 2, 3, 4] rfl, by rw [← hI2]; simp only [zm_below]; rw [if_neg (fun q => by have z := q.1; rw [h3] at z; cases z)]⟩
      · refine lv_aload_n hx hb zd_M_list_30 rfl (lv_at hl 3 rfl) ?_
        refine va_get (D := (dC, dI)) (ci := 2) (v := .ref (a 1)) (C := "ZoneShelfModel") (T := zs_T_M) (N := 11) hx hb hz zs_in_M hown hk.1 hP 0 rfl rfl 1 (by decide) (hz _ zq_184) (fun _ h9 => h9) rfl zd_M_list_31 ?_
        refine lv_iload hx hb zd_M_list_34 (lv_at hl 0 rfl) ?_
        refine zi_ald hx hb hk hP 1 (j := i2) rfl (by omega) (by decide) zd_M_list_36 ?_
        refine lv_aload_n hx hb zd_M_list_37 rfl (lv_at hl 3 rfl) ?_
        refine va_get (D := (dC, dI)) (ci := 2) (v := .ref (a 1)) (C := "ZoneShelfModel") (T := zs_T_M) (N := 11) hx hb hz zs_in_M hown hk.1 hP 0 rfl rfl 1 (by decide) (hz _ zq_184) (fun _ h9 => h9) rfl zd_M_list_38 ?_
        refine lv_iload_n hx hb zd_M_list_41 rfl (lv_at hl 2 rfl) ?_
        refine zi_ald hx hb hk hP 1 (j := i1) rfl (by omega) (by decide) zd_M_list_42 ?_
        refine lv_icmp_ge (tgt := 50) hx hb zd_M_list_43 rfl (fun h4 => ?_) (fun h4 => ?_)
        · refine lv_iconst (v := 0) hx hb zd_M_list_50 (by decide) ?_
          refine lv_iadd hx hb zd_M_list_51 ?_
          refine lv_istore_n (lv' := [(3, .int (x2 + 0)), (4, .int (nI i2)), (2, .int (nI i1)), (0, .ref (a 0)), (1, .int x)]) hx hb zd_M_list_52 rfl hl (by decide) rfl (fun ls hl => ?_)
          refine lv_iinc (k := 1) (v := nI (i2 + 1)) (lv' := [(4, .int (nI (i2 + 1))), (3, .int (x2 + 0)), (2, .int (nI i1)), (0, .ref (a 0)), (1, .int x)]) hx hb zd_M_list_53 hl rfl (zs_inc _) (by decide) rfl (fun ls hl => ?_)
          refine lv_goto (tgt := 13) hx hb zd_M_list_56 rfl ?_
          exact ih2 (x2 + 0) ls ⟨lv_sub hl [0, 1, 2, 3, 4] rfl, by rw [← hI2]; simp only [zm_below]; rw [if_neg (fun q => q.2 h4)]⟩
        · refine lv_iconst (v := 1) hx hb zd_M_list_46 (by decide) ?_
          refine lv_goto (tgt := 51) hx hb zd_M_list_47 rfl ?_
          refine lv_iadd hx hb zd_M_list_51 ?_
          refine lv_istore_n (lv' := [(3, .int (x2 + 1)), (4, .int (nI i2)), (2, .int (nI i1)), (0, .ref (a 0)), (1, .int x)]) hx hb zd_M_list_52 rfl hl (by decide) rfl (fun ls hl => ?_)
          refine lv_iinc (k := 1) (v := nI (i2 + 1)) (lv' := [(4, .int (nI (i2 + 1))), (3, .int (x2 + 1)), (2, .int (nI i1)), (0, .ref (a 0)), (1, .int x)]) hx hb zd_M_list_53 hl rfl (zs_inc _) (by decide) rfl (fun ls hl => ?_)
          refine lv_goto (tgt := 13) hx hb zd_M_list_56 rfl ?_
          exact ih2 (x2 + 1) ls ⟨lv_sub hl [0, 1, 2, 3, 4] rfl, by rw [← hI2]; simp only [zm_below]; rw [if_pos ⟨h3, h4⟩]⟩
    · obtain ⟨hl, hI2⟩ := hv
      have hl : lv_has ls 5 [(4, .int (nI 24)), (3, .int x2), (2, .int (nI i1)), (0, .ref (a 0)), (1, .int x)] := hl
      have hI2 : zm_below up nm (nm i1) 0 24 x2 = v2 := hI2
      refine lv_iload hx hb zd_M_list_13 (lv_at hl 0 rfl) ?_
      refine lv_bipush (v := 24) hx hb zd_M_list_15 (by decide) ?_
      refine zj_out (tgt := 59) (n := 24) (i := 24) hx hb zd_M_list_17 rfl (by decide) (Nat.le_refl _) (by decide) ?_
      have hx2 : x2 = v2 := hI2
      refine lv_aload_n hx hb zd_M_list_59 rfl (lv_at hl 3 rfl) ?_
      refine lv_iload_n hx hb zd_M_list_60 rfl (lv_at hl 2 rfl) ?_
      refine zc_rV (rest := []) [.int (nI i1)] hx hb hml hown hz (zc_M_is l dC dI cI cZ a (up, (nm, hi, ln, op, wd), (nm2, hi2, ln2, op2, wd2)) (nI i1)) zf_M_is rfl rfl zq_215 zq_216 zq_15 ⟨Nat.le_of_ble_eq_true rfl, Nat.le_of_ble_eq_true rfl⟩ hk (hP.sub [0, 1, 2, 3, 4, 5, 6, 7, 8, 9, 10] rfl) 0 2 rfl rfl rfl rfl hl.1 rfl (Nat.le_of_ble_eq_true rfl) zd_M_list_61 ⟨Nat.zero_le _, Nat.zero_le _⟩ (fun r1 e2 => ?_)
      obtain rfl : r1 = zs_b (zm_at up nm i1) := e2.trans (congrArg zs_b (zm_is_at hlt1))
      refine zi_eq (tgt := 74) hx hb zd_M_list_64 rfl (fun h3 => ?_) (fun h3 => ?_)
      · refine lv_iinc (k := 2) (v := nI (i1 + 1)) (lv' := [(2, .int (nI (i1 + 1))), (4, .int (nI 24)), (3, .int x2), (0, .ref (a 0)), (1, .int x)]) hx hb zd_M_list_74 hl rfl (zs_inc _) (by decide) rfl (fun ls hl => ?_)
        refine lv_goto (tgt := 2) hx hb zd_M_list_77 rfl ?_
        exact ih1 () ls ⟨lv_sub hl [0, 3, 4] rfl, by rw [← hI1]; simp only [zm_rank]; rw [if_neg (fun q => by have z := q.1; rw [h3] at z; cases z)]⟩
      · refine lv_iload_n hx hb zd_M_list_67 rfl (lv_at hl 1 rfl) ?_
        refine lv_iload_n hx hb zd_M_list_68 rfl (lv_at hl 4 rfl) ?_
        refine lv_icmp_ne (tgt := 74) hx hb zd_M_list_69 rfl (fun h4 => ?_) (fun h4 => ?_)
        · refine lv_iinc (k := 2) (v := nI (i1 + 1)) (lv' := [(2, .int (nI (i1 + 1))), (4, .int (nI 24)), (3, .int x2), (0, .ref (a 0)), (1, .int x)]) hx hb zd_M_list_74 hl rfl (zs_inc _) (by decide) rfl (fun ls hl => ?_)
          refine lv_goto (tgt := 2) hx hb zd_M_list_77 rfl ?_
          exact ih1 () ls ⟨lv_sub hl [0, 3, 4] rfl, by rw [← hI1]; simp only [zm_rank]; rw [if_neg (fun q => h4 ((hx2.trans hv2).trans q.2))]⟩
        · refine lv_iload_n hx hb zd_M_list_72 rfl (lv_at hl 2 rfl) ?_
          exact zr_iret hx hb hr hlocks zd_M_list_73 (show (nI i1) = zm_list (up, (nm, hi, ln, op, wd), (nm2, hi2, ln2, op2, wd2)) x from by show nI i1 = zm_rank up nm x 24 0; rw [← hv0, ← hI1]; simp only [zm_rank]; rw [if_pos ⟨h3, (hx2.trans hv2).symm.trans h4⟩])
  · obtain ⟨hl, hI1⟩ := hv
    have hl : lv_has ls 5 [(2, .int (nI 24)), (0, .ref (a 0)), (1, .int x)] := hl
    have hI1 : zm_rank up nm x 0 24 = v := hI1
    refine lv_iload_n hx hb zd_M_list_2 rfl (lv_at hl 0 rfl) ?_
    refine lv_bipush (v := 24) hx hb zd_M_list_3 (by decide) ?_
    refine zj_out (tgt := 80) (n := 24) (i := 24) hx hb zd_M_list_5 rfl (by decide) (Nat.le_refl _) (by decide) ?_
    refine lv_iconst (v := (-1)) hx hb zd_M_list_80 (by decide) ?_
    exact zr_iret hx hb hr hlocks zd_M_list_81 (show (-1) = zm_list (up, (nm, hi, ln, op, wd), (nm2, hi2, ln2, op2, wd2)) x from by show -1 = zm_rank up nm x 24 0; rw [← hv0, ← hI1]; rfl)
set_option maxHeartbeats 4000000 in
set_option maxRecDepth 100000 in
theorem zc_M_create (l : Launch) (dC : Nat → ClassId) (dI : Nat → Nat → Nat) (cI cZ : ClassId) (a : Nat → Nat) (u : zs_X) (sz : Nat) (n h : Int32) : Met l zy_M_create (.code zy_M_create zb_M_create 4 (some .int) :: zs_w) ({ frames := 2, cells := 0, slots := 0, locals := 44 }) (va_Pc [.ref (a 0), .int n, .int h] (zs_s dC dI cI cZ sz (zs_wM cI cZ a u))) (va_Qi (fun r (v : zs_X) => (r, v) = zm_create u n h) (zs_e dC dI (zs_wM cI cZ a) (va_A (zs_wM cI cZ a u) sz)) (va_A (zs_wM cI cZ a u) sz)) 0 0 (va_A (zs_wM cI cZ a u) sz) := by
  obtain ⟨up, ⟨nm, hi, ln, op, wd⟩, ⟨nm2, hi2, ln2, op2, wd2⟩⟩ := u
  refine Met.ofW (cc := zb_M_create) (maxL := 4) (ret := (some .int)) (by decide) rfl ?_
  intro p e s m args below meth c s₁ B hml hv
  obtain ⟨rfl, hsz, hP, hk, hD0⟩ := hv
  have hx := B.exec
  have hb := B.bytes
  have hr := B.returns
  have hts := atoms_spec (ws := .code zy_M_create zb_M_create 4 (some .int) :: zs_w) B.pre
  have hz : ∀ w ∈ zs_w, w.before _ s = true := fun w h => hts w (List.mem_cons_of_mem _ h)
  have hown : s.vm.findClass "ZoneShelfModel" = some m.cls := findClass_of_methodNamed B.named
  have hlocks := B.notSynchronized
  subst hsz
  have hD := hD0.self (sz := s.heap.size)
  generalize hAe : va_A (zs_wM cI cZ a (up, (nm, hi, ln, op, wd), (nm2, hi2, ln2, op2, wd2))) s.heap.size = A at hD ⊢
  have hA : ∀ q : Nat, s.heap.size ≤ q → A q := fun q h => by rw [← hAe]; exact Or.inr h
  have hS : va_S A s.heap s.heap [] := va_S.rf
  have hP : va_P (dC, dI) zs_cl [(a 0, .inr (2, [.int (zs_b up), .ref (a 1), .ref (a 2), .ref (a 3), .ref (a 4), .ref (a 5), .ref (a 6), .ref (a 7), .ref (a 8), .ref (a 9), .ref (a 10)])), (a 1, .inl (cI, 24, .inl nm)), (a 2, .inl (cI, 24, .inl hi)), (a 3, .inl (cI, 24, .inl ln)), (a 4, .inl (cZ, 24, .inl op)), (a 5, .inl (cI, 1536, .inl wd)), (a 6, .inl (cI, 24, .inl nm2)), (a 7, .inl (cI, 24, .inl hi2)), (a 8, .inl (cI, 24, .inl ln2)), (a 9, .inl (cZ, 24, .inl op2)), (a 10, .inl (cI, 1536, .inl wd2))] s.heap := hP
  have hD : va_D A [(a 0, .inr (2, [.int (zs_b up), .ref (a 1), .ref (a 2), .ref (a 3), .ref (a 4), .ref (a 5), .ref (a 6), .ref (a 7), .ref (a 8), .ref (a 9), .ref (a 10)])), (a 1, .inl (cI, 24, .inl nm)), (a 2, .inl (cI, 24, .inl hi)), (a 3, .inl (cI, 24, .inl ln)), (a 4, .inl (cZ, 24, .inl op)), (a 5, .inl (cI, 1536, .inl wd)), (a 6, .inl (cI, 24, .inl nm2)), (a 7, .inl (cI, 24, .inl hi2)), (a 8, .inl (cI, 24, .inl ln2)), (a 9, .inl (cZ, 24, .inl op2)), (a 10, .inl (cI, 1536, .inl wd2))] := hD
  have hl := lv_entry ([.ref (a 0), .int n, .int h]) (n := 4) (Nat.le_of_ble_eq_true rfl)
  rw [lg_entry_eq]
  generalize (lg_sl ([.ref (a 0), .int n, .int h]) ++ List.replicate (4 - (lg_sl ([.ref (a 0), .int n, .int h])).length) Slot.unset).toArray = ls at hl ⊢
  have hl : lv_has ls 4 [(0, .ref (a 0)), (1, .int n), (2, .int h)] := hl
  refine lv_aload_n hx hb zd_M_create_0 rfl (lv_at hl 0 rfl) ?_
  refine va_get (D := (dC, dI)) (ci := 2) (v := .int (zs_b up)) (C := "ZoneShelfModel") (T := zs_T_M) (N := 11) hx hb hz zs_in_M hown hk.1 hP 0 rfl rfl 0 (by decide) (hz _ zq_183) (fun _ h9 => h9) rfl zd_M_create_1 ?_
  refine zi_eq (tgt := 32) hx hb zd_M_create_4 rfl (fun h1 => ?_) (fun h1 => ?_)
  · subst h1
    refine lv_iconst (v := (-1)) hx hb zd_M_create_32 (by decide) ?_
    exact zw_iret (false, (nm, hi, ln, op, wd), (nm2, hi2, ln2, op2, wd2)) hx hb hr hlocks zd_M_create_33  (show ((-1), (false, (nm, hi, ln, op, wd), (nm2, hi2, ln2, op2, wd2))) = zm_create (false, (nm, hi, ln, op, wd), (nm2, hi2, ln2, op2, wd2)) n h from by simp [zm_create]) hP hD hS
  · subst h1
    refine lv_iload_n hx hb zd_M_create_7 rfl (lv_at hl 1 rfl) ?_
    refine zc_rS (rest := []) [.int n] hx hb hml hown hz (zc_M_isName l dC dI cI cZ n) zf_M_isName rfl rfl zq_209 zq_210 ⟨Nat.le_of_ble_eq_true rfl, Nat.le_of_ble_eq_true rfl⟩ rfl hl.1 rfl (Nat.le_of_ble_eq_true rfl) zd_M_create_8 ⟨Nat.zero_le _, Nat.zero_le _⟩ (fun r2 e3 => ?_)
    obtain rfl : r2 = zs_b (zs_nam n) := e3
    refine zi_eq (tgt := 32) hx hb zd_M_create_11 rfl (fun h4 => ?_) (fun h4 => ?_)
    · refine lv_iconst (v := (-1)) hx hb zd_M_create_32 (by decide) ?_
      exact zw_iret (true, (nm, hi, ln, op, wd), (nm2, hi2, ln2, op2, wd2)) hx hb hr hlocks zd_M_create_33  (show ((-1), (true, (nm, hi, ln, op, wd), (nm2, hi2, ln2, op2, wd2))) = zm_create (true, (nm, hi, ln, op, wd), (nm2, hi2, ln2, op2, wd2)) n h from by simp [zm_create, h4]) hP hD hS
    · refine lv_iload_n hx hb zd_M_create_14 rfl (lv_at hl 2 rfl) ?_
      refine lv_if_lt (tgt := 32) hx hb zd_M_create_15 rfl (fun h5 => ?_) (fun h5 => ?_)
      · refine lv_iconst (v := (-1)) hx hb zd_M_create_32 (by decide) ?_
        exact zw_iret (true, (nm, hi, ln, op, wd), (nm2, hi2, ln2, op2, wd2)) hx hb hr hlocks zd_M_create_33  (show ((-1), (true, (nm, hi, ln, op, wd), (nm2, hi2, ln2, op2, wd2))) = zm_create (true, (nm, hi, ln, op, wd), (nm2, hi2, ln2, op2, wd2)) n h from by simp [zm_create, h4, h5]) hP hD hS
      · refine lv_iload_n hx hb zd_M_create_18 rfl (lv_at hl 2 rfl) ?_
        refine lv_iconst (v := 3) hx hb zd_M_create_19 (by decide) ?_
        refine lv_icmp_gt (tgt := 32) hx hb zd_M_create_20 rfl (fun h6 => ?_) (fun h6 => ?_)
        · refine lv_iconst (v := (-1)) hx hb zd_M_create_32 (by decide) ?_
          exact zw_iret (true, (nm, hi, ln, op, wd), (nm2, hi2, ln2, op2, wd2)) hx hb hr hlocks zd_M_create_33  (show ((-1), (true, (nm, hi, ln, op, wd), (nm2, hi2, ln2, op2, wd2))) = zm_create (true, (nm, hi, ln, op, wd), (nm2, hi2, ln2, op2, wd2)) n h from by simp [zm_create, h4, h5, h6]) hP hD hS
        · refine lv_aload_n hx hb zd_M_create_23 rfl (lv_at hl 0 rfl) ?_
          refine lv_iload_n hx hb zd_M_create_24 rfl (lv_at hl 1 rfl) ?_
          refine zc_rV (rest := []) [.int n] hx hb hml hown hz (zc_M_named l dC dI cI cZ a (true, (nm, hi, ln, op, wd), (nm2, hi2, ln2, op2, wd2)) n) zf_M_named rfl rfl zq_212 zq_213 zq_14 ⟨Nat.le_of_ble_eq_true rfl, Nat.le_of_ble_eq_true rfl⟩ hk (hP.sub [0, 1, 2, 3, 4, 5, 6, 7, 8, 9, 10] rfl) 0 2 rfl rfl rfl rfl hl.1 rfl (Nat.le_of_ble_eq_true rfl) zd_M_create_25 ⟨Nat.zero_le _, Nat.zero_le _⟩ (fun r7 e8 => ?_)
          obtain rfl : r7 = zm_num true nm n 24 0 (-1) := e8
          refine lv_iconst (v := (-1)) hx hb zd_M_create_28 (by decide) ?_
          refine lv_icmp_eq (tgt := 34) hx hb zd_M_create_29 rfl (fun h9 => ?_) (fun h9 => ?_)
          · refine lv_iconst (v := 0) hx hb zd_M_create_34 (by decide) ?_
            refine lv_istore_n (lv' := [(3, .int 0), (0, .ref (a 0)), (1, .int n), (2, .int h)]) hx hb zd_M_create_35 rfl hl (by decide) rfl (fun ls hl => ?_)
            obtain ⟨v, hv0⟩ : ∃ v, v = zm_free nm 24 0 := ⟨_, rfl⟩
            refine zl_r (N := 24) (α := Unit) (fun kk ii xx ls => lv_has ls 4 [(3, .int (nI ii)), (0, .ref (a 0)), (1, .int n), (2, .int h)] ∧ zm_free nm kk ii = v) (fun k1 i1 x1 ls e1 hv ih1 => ?_) (fun x1 ls hv => ?_) 24 0 () ls rfl ⟨lv_sub hl [0, 1, 2, 3] rfl, hv0.symm⟩
            · obtain ⟨hl, hI1⟩ := hv
              have hl : lv_has ls 4 [(3, .int (nI i1)), (0, .ref (a 0)), (1, .int n), (2, .int h)] := hl
              have hI1 : zm_free nm (k1 + 1) i1 = v := hI1
              have hlt1 : i1 < 24 := by omega
              refine lv_iload_n hx hb zd_M_create_36 rfl (lv_at hl 0 rfl) ?_
              refine lv_bipush (v := 24) hx hb zd_M_create_37 (by decide) ?_
              refine zj_in (tgt := 57) (n := 24) hx hb zd_M_create_39 rfl (by decide) hlt1 (by decide) ?_
              refine lv_aload_n hx hb zd_M_create_42 rfl (lv_at hl 1 rfl) ?_
              refine va_get (D := (dC, dI)) (ci := 2) (v := .ref (a 1)) (C := "ZoneShelfModel") (T := zs_T_M) (N := 11) hx hb hz zs_in_M hown hk.1 hP 0 rfl rfl 1 (by decide) (hz _ zq_184) (fun _ h9 => h9) rfl zd_M_create_43 ?_
              refine lv_iload_n hx hb zd_M_create_46 rfl (lv_at hl 0 rfl) ?_
              refine zi_ald hx hb hk hP 1 (j := i1) rfl (by omega) (by decide) zd_M_create_47 ?_
              refine lv_if_le (tgt := 57) hx hb zd_M_create_48 rfl (fun h10 => ?_) (fun h10 => ?_)
              · have hv1 : zm_free nm 24 0 = i1 := by rw [← hv0, ← hI1]; simp [zm_free, h10]
                refine lv_iload_n hx hb zd_M_create_57 rfl (lv_at hl 0 rfl) ?_
                refine lv_bipush (v := 24) hx hb zd_M_create_58 (by decide) ?_
                refine lv_icmp_ne (tgt := 65) hx hb zd_M_create_60 rfl (fun h11 => ?_) (fun h11 => ?_)
                · refine lv_aload_n hx hb zd_M_create_65 rfl (lv_at hl 1 rfl) ?_
                  refine va_get (D := (dC, dI)) (ci := 2) (v := .ref (a 1)) (C := "ZoneShelfModel") (T := zs_T_M) (N := 11) hx hb hz zs_in_M hown hk.1 hP 0 rfl rfl 1 (by decide) (hz _ zq_184) (fun _ h9 => h9) rfl zd_M_create_66 ?_
                  refine lv_iload_n hx hb zd_M_create_69 rfl (lv_at hl 0 rfl) ?_
                  refine lv_iload_n hx hb zd_M_create_70 rfl (lv_at hl 2 rfl) ?_
                  refine lv_iconst (v := 1) hx hb zd_M_create_71 (by decide) ?_
                  refine lv_iadd hx hb zd_M_create_72 ?_
                  refine zi_ast hx hb hk hP hD hS 1 (j := i1) rfl (by omega) (by decide) zd_M_create_73 (fun H locs hP hD hS => ?_)
                  have hP : va_P (dC, dI) zs_cl [(a 0, .inr (2, [.int (zs_b true), .ref (a 1), .ref (a 2), .ref (a 3), .ref (a 4), .ref (a 5), .ref (a 6), .ref (a 7), .ref (a 8), .ref (a 9), .ref (a 10)])), (a 1, .inl (cI, 24, .inl (upd nm i1 (n + 1)))), (a 2, .inl (cI, 24, .inl hi)), (a 3, .inl (cI, 24, .inl ln)), (a 4, .inl (cZ, 24, .inl op)), (a 5, .inl (cI, 1536, .inl wd)), (a 6, .inl (cI, 24, .inl nm2)), (a 7, .inl (cI, 24, .inl hi2)), (a 8, .inl (cI, 24, .inl ln2)), (a 9, .inl (cZ, 24, .inl op2)), (a 10, .inl (cI, 1536, .inl wd2))] H := hP
                  have hD : va_D A [(a 0, .inr (2, [.int (zs_b true), .ref (a 1), .ref (a 2), .ref (a 3), .ref (a 4), .ref (a 5), .ref (a 6), .ref (a 7), .ref (a 8), .ref (a 9), .ref (a 10)])), (a 1, .inl (cI, 24, .inl (upd nm i1 (n + 1)))), (a 2, .inl (cI, 24, .inl hi)), (a 3, .inl (cI, 24, .inl ln)), (a 4, .inl (cZ, 24, .inl op)), (a 5, .inl (cI, 1536, .inl wd)), (a 6, .inl (cI, 24, .inl nm2)), (a 7, .inl (cI, 24, .inl hi2)), (a 8, .inl (cI, 24, .inl ln2)), (a 9, .inl (cZ, 24, .inl op2)), (a 10, .inl (cI, 1536, .inl wd2))] := hD
                  refine lv_aload_n hx hb zd_M_create_74 rfl (lv_at hl 1 rfl) ?_
                  refine va_get (D := (dC, dI)) (ci := 2) (v := .ref (a 2)) (C := "ZoneShelfModel") (T := zs_T_M) (N := 11) hx hb hz zs_in_M hown hk.1 hP 0 rfl rfl 2 (by decide) (hz _ zq_185) (fun _ h9 => h9) rfl zd_M_create_75 ?_
                  refine lv_iload_n hx hb zd_M_create_78 rfl (lv_at hl 0 rfl) ?_
                  refine lv_iload_n hx hb zd_M_create_79 rfl (lv_at hl 3 rfl) ?_
                  refine zi_ast hx hb hk hP hD hS 2 (j := i1) rfl (by omega) (by decide) zd_M_create_80 (fun H locs hP hD hS => ?_)
                  have hP : va_P (dC, dI) zs_cl [(a 0, .inr (2, [.int (zs_b true), .ref (a 1), .ref (a 2), .ref (a 3), .ref (a 4), .ref (a 5), .ref (a 6), .ref (a 7), .ref (a 8), .ref (a 9), .ref (a 10)])), (a 1, .inl (cI, 24, .inl (upd nm i1 (n + 1)))), (a 2, .inl (cI, 24, .inl (upd hi i1 h))), (a 3, .inl (cI, 24, .inl ln)), (a 4, .inl (cZ, 24, .inl op)), (a 5, .inl (cI, 1536, .inl wd)), (a 6, .inl (cI, 24, .inl nm2)), (a 7, .inl (cI, 24, .inl hi2)), (a 8, .inl (cI, 24, .inl ln2)), (a 9, .inl (cZ, 24, .inl op2)), (a 10, .inl (cI, 1536, .inl wd2))] H := hP
                  have hD : va_D A [(a 0, .inr (2, [.int (zs_b true), .ref (a 1), .ref (a 2), .ref (a 3), .ref (a 4), .ref (a 5), .ref (a 6), .ref (a 7), .ref (a 8), .ref (a 9), .ref (a 10)])), (a 1, .inl (cI, 24, .inl (upd nm i1 (n + 1)))), (a 2, .inl (cI, 24, .inl (upd hi i1 h))), (a 3, .inl (cI, 24, .inl ln)), (a 4, .inl (cZ, 24, .inl op)), (a 5, .inl (cI, 1536, .inl wd)), (a 6, .inl (cI, 24, .inl nm2)), (a 7, .inl (cI, 24, .inl hi2)), (a 8, .inl (cI, 24, .inl ln2)), (a 9, .inl (cZ, 24, .inl op2)), (a 10, .inl (cI, 1536, .inl wd2))] := hD
                  refine lv_aload_n hx hb zd_M_create_81 rfl (lv_at hl 1 rfl) ?_
                  refine va_get (D := (dC, dI)) (ci := 2) (v := .ref (a 3)) (C := "ZoneShelfModel") (T := zs_T_M) (N := 11) hx hb hz zs_in_M hown hk.1 hP 0 rfl rfl 3 (by decide) (hz _ zq_186) (fun _ h9 => h9) rfl zd_M_create_82 ?_
                  refine lv_iload_n hx hb zd_M_create_85 rfl (lv_at hl 0 rfl) ?_
                  refine lv_iconst (v := 0) hx hb zd_M_create_86 (by decide) ?_
                  refine zi_ast hx hb hk hP hD hS 3 (j := i1) rfl (by omega) (by decide) zd_M_create_87 (fun H locs hP hD hS => ?_)
                  have hP : va_P (dC, dI) zs_cl [(a 0, .inr (2, [.int (zs_b true), .ref (a 1), .ref (a 2), .ref (a 3), .ref (a 4), .ref (a 5), .ref (a 6), .ref (a 7), .ref (a 8), .ref (a 9), .ref (a 10)])), (a 1, .inl (cI, 24, .inl (upd nm i1 (n + 1)))), (a 2, .inl (cI, 24, .inl (upd hi i1 h))), (a 3, .inl (cI, 24, .inl (upd ln i1 0))), (a 4, .inl (cZ, 24, .inl op)), (a 5, .inl (cI, 1536, .inl wd)), (a 6, .inl (cI, 24, .inl nm2)), (a 7, .inl (cI, 24, .inl hi2)), (a 8, .inl (cI, 24, .inl ln2)), (a 9, .inl (cZ, 24, .inl op2)), (a 10, .inl (cI, 1536, .inl wd2))] H := hP
                  have hD : va_D A [(a 0, .inr (2, [.int (zs_b true), .ref (a 1), .ref (a 2), .ref (a 3), .ref (a 4), .ref (a 5), .ref (a 6), .ref (a 7), .ref (a 8), .ref (a 9), .ref (a 10)])), (a 1, .inl (cI, 24, .inl (upd nm i1 (n + 1)))), (a 2, .inl (cI, 24, .inl (upd hi i1 h))), (a 3, .inl (cI, 24, .inl (upd ln i1 0))), (a 4, .inl (cZ, 24, .inl op)), (a 5, .inl (cI, 1536, .inl wd)), (a 6, .inl (cI, 24, .inl nm2)), (a 7, .inl (cI, 24, .inl hi2)), (a 8, .inl (cI, 24, .inl ln2)), (a 9, .inl (cZ, 24, .inl op2)), (a 10, .inl (cI, 1536, .inl wd2))] := hD
                  refine lv_aload_n hx hb zd_M_create_88 rfl (lv_at hl 1 rfl) ?_
                  refine va_get (D := (dC, dI)) (ci := 2) (v := .ref (a 4)) (C := "ZoneShelfModel") (T := zs_T_M) (N := 11) hx hb hz zs_in_M hown hk.1 hP 0 rfl rfl 4 (by decide) (hz _ zq_187) (fun _ h9 => h9) rfl zd_M_create_89 ?_
                  refine lv_iload_n hx hb zd_M_create_92 rfl (lv_at hl 0 rfl) ?_
                  refine lv_iconst (v := 1) hx hb zd_M_create_93 (by decide) ?_
                  refine zi_zst hx hb hk hP hD hS 4 (j := i1) rfl (by omega) (by decide) zd_M_create_94 (fun H locs hP hD hS => ?_)
                  have hP : va_P (dC, dI) zs_cl [(a 0, .inr (2, [.int (zs_b true), .ref (a 1), .ref (a 2), .ref (a 3), .ref (a 4), .ref (a 5), .ref (a 6), .ref (a 7), .ref (a 8), .ref (a 9), .ref (a 10)])), (a 1, .inl (cI, 24, .inl (upd nm i1 (n + 1)))), (a 2, .inl (cI, 24, .inl (upd hi i1 h))), (a 3, .inl (cI, 24, .inl (upd ln i1 0))), (a 4, .inl (cZ, 24, .inl (upd op i1 (vp_nar .boolean 1)))), (a 5, .inl (cI, 1536, .inl wd)), (a 6, .inl (cI, 24, .inl nm2)), (a 7, .inl (cI, 24, .inl hi2)), (a 8, .inl (cI, 24, .inl ln2)), (a 9, .inl (cZ, 24, .inl op2)), (a 10, .inl (cI, 1536, .inl wd2))] H := hP
                  have hD : va_D A [(a 0, .inr (2, [.int (zs_b true), .ref (a 1), .ref (a 2), .ref (a 3), .ref (a 4), .ref (a 5), .ref (a 6), .ref (a 7), .ref (a 8), .ref (a 9), .ref (a 10)])), (a 1, .inl (cI, 24, .inl (upd nm i1 (n + 1)))), (a 2, .inl (cI, 24, .inl (upd hi i1 h))), (a 3, .inl (cI, 24, .inl (upd ln i1 0))), (a 4, .inl (cZ, 24, .inl (upd op i1 (vp_nar .boolean 1)))), (a 5, .inl (cI, 1536, .inl wd)), (a 6, .inl (cI, 24, .inl nm2)), (a 7, .inl (cI, 24, .inl hi2)), (a 8, .inl (cI, 24, .inl ln2)), (a 9, .inl (cZ, 24, .inl op2)), (a 10, .inl (cI, 1536, .inl wd2))] := hD
                  refine lv_iload_n hx hb zd_M_create_95 rfl (lv_at hl 0 rfl) ?_
                  exact zw_iret (true, (upd nm i1 (n + 1), upd hi i1 h, upd ln i1 0, upd op i1 (vp_nar .boolean 1), wd), (nm2, hi2, ln2, op2, wd2)) hx hb hr hlocks zd_M_create_96  (show (nI i1, (true, (upd nm i1 (n + 1), upd hi i1 h, upd ln i1 0, upd op i1 (vp_nar .boolean 1), wd), (nm2, hi2, ln2, op2, wd2))) = zm_create (true, (nm, hi, ln, op, wd), (nm2, hi2, ln2, op2, wd2)) n h from by simp [zm_create, h4, h5, h6, h9, hv1, show ¬ i1 = 24 by omega]) hP hD hS
                · exact absurd h11 (by rw [show (24 : Int32) = nI 24 from rfl, nI_eq (by omega) (by omega)]; omega)
              · refine lv_iinc (k := 0) (v := nI (i1 + 1)) (lv' := [(3, .int (nI (i1 + 1))), (0, .ref (a 0)), (1, .int n), (2, .int h)]) hx hb zd_M_create_51 hl rfl (zs_inc _) (by decide) rfl (fun ls hl => ?_)
                refine lv_goto (tgt := 36) hx hb zd_M_create_54 rfl ?_
                exact ih1 () ls ⟨lv_sub hl [0, 1, 2, 3] rfl, by rw [← hI1]; simp [zm_free, h10]⟩
            · obtain ⟨hl, hI1⟩ := hv
              have hl : lv_has ls 4 [(3, .int (nI 24)), (0, .ref (a 0)), (1, .int n), (2, .int h)] := hl
              have hI1 : zm_free nm 0 24 = v := hI1
              refine lv_iload_n hx hb zd_M_create_36 rfl (lv_at hl 0 rfl) ?_
              refine lv_bipush (v := 24) hx hb zd_M_create_37 (by decide) ?_
              refine zj_out (tgt := 57) (n := 24) (i := 24) hx hb zd_M_create_39 rfl (by decide) (Nat.le_refl _) (by decide) ?_
              have hv1 : zm_free nm 24 0 = 24 := by rw [← hv0, ← hI1]; rfl
              refine lv_iload_n hx hb zd_M_create_57 rfl (lv_at hl 0 rfl) ?_
              refine lv_bipush (v := 24) hx hb zd_M_create_58 (by decide) ?_
              refine lv_icmp_ne (tgt := 65) hx hb zd_M_create_60 rfl (fun h10 => ?_) (fun h10 => ?_)
              · exact absurd rfl h10
              · refine lv_iconst (v := (-1)) hx hb zd_M_create_63 (by decide) ?_
                exact zw_iret (true, (nm, hi, ln, op, wd), (nm2, hi2, ln2, op2, wd2)) hx hb hr hlocks zd_M_create_64  (show ((-1), (true, (nm, hi, ln, op, wd), (nm2, hi2, ln2, op2, wd2))) = zm_create (true, (nm, hi, ln, op, wd), (nm2, hi2, ln2, op2, wd2)) n h from by simp [zm_create, h4, h5, h6, h9, hv1]) hP hD hS
          · refine lv_iconst (v := (-1)) hx hb zd_M_create_32 (by decide) ?_
            exact zw_iret (true, (nm, hi, ln, op, wd), (nm2, hi2, ln2, op2, wd2)) hx hb hr hlocks zd_M_create_33  (show ((-1), (true, (nm, hi, ln, op, wd), (nm2, hi2, ln2, op2, wd2))) = zm_create (true, (nm, hi, ln, op, wd), (nm2, hi2, ln2, op2, wd2)) n h from by simp [zm_create, h4, h5, h6, h9]) hP hD hS
set_option maxHeartbeats 4000000 in
set_option maxRecDepth 100000 in
theorem zc_M_appendRow (l : Launch) (dC : Nat → ClassId) (dI : Nat → Nat → Nat) (cI cZ : ClassId) (a : Nat → Nat) (u : zs_X) (sz : Nat) (hok : zm_ok u) (o w k : Int32) : Met l zy_M_appendRow (.code zy_M_appendRow zb_M_appendRow 5 (some .boolean) :: zs_w) ({ frames := 1, cells := 0, slots := 0, locals := 22 }) (va_Pc [.ref (a 0), .int o, .int w, .int k] (zs_s dC dI cI cZ sz (zs_wM cI cZ a u))) (va_Qi (fun r (v : zs_X) => (r, v) = zm_appendRow u o w k) (zs_e dC dI (zs_wM cI cZ a) (va_A (zs_wM cI cZ a u) sz)) (va_A (zs_wM cI cZ a u) sz)) 0 0 (va_A (zs_wM cI cZ a u) sz) := by
  obtain ⟨up, ⟨nm, hi, ln, op, wd⟩, ⟨nm2, hi2, ln2, op2, wd2⟩⟩ := u
  have hok : ∀ j, j < 24 → ¬ nm j ≤ 0 → ∃ q : Nat, q ≤ 64 ∧ ln j = nI q := hok
  refine Met.ofW (cc := zb_M_appendRow) (maxL := 5) (ret := (some .boolean)) (by decide) rfl ?_
  intro p e s m args below meth c s₁ B hml hv
  obtain ⟨rfl, hsz, hP, hk, hD0⟩ := hv
  have hx := B.exec
  have hb := B.bytes
  have hr := B.returns
  have hts := atoms_spec (ws := .code zy_M_appendRow zb_M_appendRow 5 (some .boolean) :: zs_w) B.pre
  have hz : ∀ w ∈ zs_w, w.before _ s = true := fun w h => hts w (List.mem_cons_of_mem _ h)
  have hown : s.vm.findClass "ZoneShelfModel" = some m.cls := findClass_of_methodNamed B.named
  have hlocks := B.notSynchronized
  subst hsz
  have hD := hD0.self (sz := s.heap.size)
  generalize hAe : va_A (zs_wM cI cZ a (up, (nm, hi, ln, op, wd), (nm2, hi2, ln2, op2, wd2))) s.heap.size = A at hD ⊢
  have hA : ∀ q : Nat, s.heap.size ≤ q → A q := fun q h => by rw [← hAe]; exact Or.inr h
  have hS : va_S A s.heap s.heap [] := va_S.rf
  have hP : va_P (dC, dI) zs_cl [(a 0, .inr (2, [.int (zs_b up), .ref (a 1), .ref (a 2), .ref (a 3), .ref (a 4), .ref (a 5), .ref (a 6), .ref (a 7), .ref (a 8), .ref (a 9), .ref (a 10)])), (a 1, .inl (cI, 24, .inl nm)), (a 2, .inl (cI, 24, .inl hi)), (a 3, .inl (cI, 24, .inl ln)), (a 4, .inl (cZ, 24, .inl op)), (a 5, .inl (cI, 1536, .inl wd)), (a 6, .inl (cI, 24, .inl nm2)), (a 7, .inl (cI, 24, .inl hi2)), (a 8, .inl (cI, 24, .inl ln2)), (a 9, .inl (cZ, 24, .inl op2)), (a 10, .inl (cI, 1536, .inl wd2))] s.heap := hP
  have hD : va_D A [(a 0, .inr (2, [.int (zs_b up), .ref (a 1), .ref (a 2), .ref (a 3), .ref (a 4), .ref (a 5), .ref (a 6), .ref (a 7), .ref (a 8), .ref (a 9), .ref (a 10)])), (a 1, .inl (cI, 24, .inl nm)), (a 2, .inl (cI, 24, .inl hi)), (a 3, .inl (cI, 24, .inl ln)), (a 4, .inl (cZ, 24, .inl op)), (a 5, .inl (cI, 1536, .inl wd)), (a 6, .inl (cI, 24, .inl nm2)), (a 7, .inl (cI, 24, .inl hi2)), (a 8, .inl (cI, 24, .inl ln2)), (a 9, .inl (cZ, 24, .inl op2)), (a 10, .inl (cI, 1536, .inl wd2))] := hD
  have hl := lv_entry ([.ref (a 0), .int o, .int w, .int k]) (n := 5) (Nat.le_of_ble_eq_true rfl)
  rw [lg_entry_eq]
  generalize (lg_sl ([.ref (a 0), .int o, .int w, .int k]) ++ List.replicate (5 - (lg_sl ([.ref (a 0), .int o, .int w, .int k])).length) Slot.unset).toArray = ls at hl ⊢
  have hl : lv_has ls 5 [(0, .ref (a 0)), (1, .int o), (2, .int w), (3, .int k)] := hl
  refine lv_aload_n hx hb zd_M_appendRow_0 rfl (lv_at hl 0 rfl) ?_
  refine lv_iload_n hx hb zd_M_appendRow_1 rfl (lv_at hl 1 rfl) ?_
  refine zc_rV (rest := []) [.int o] hx hb hml hown hz (zc_M_is l dC dI cI cZ a (up, (nm, hi, ln, op, wd), (nm2, hi2, ln2, op2, wd2)) o) zf_M_is rfl rfl zq_215 zq_216 zq_15 ⟨Nat.le_of_ble_eq_true rfl, Nat.le_of_ble_eq_true rfl⟩ hk (hP.sub [0, 1, 2, 3, 4, 5, 6, 7, 8, 9, 10] rfl) 0 2 rfl rfl rfl rfl hl.1 rfl (Nat.le_of_ble_eq_true rfl) zd_M_appendRow_2 ⟨Nat.zero_le _, Nat.zero_le _⟩ (fun r1 e2 => ?_)
  obtain rfl : r1 = zs_b (zm_is up nm o) := e2
  refine zi_eq (tgt := 43) hx hb zd_M_appendRow_5 rfl (fun h3 => ?_) (fun h3 => ?_)
  · refine lv_iconst (v := 0) hx hb zd_M_appendRow_43 (by decide) ?_
    exact zw_zret (up, (nm, hi, ln, op, wd), (nm2, hi2, ln2, op2, wd2)) hx hb hr hlocks zd_M_appendRow_44 rfl (show (0, (up, (nm, hi, ln, op, wd), (nm2, hi2, ln2, op2, wd2))) = zm_appendRow (up, (nm, hi, ln, op, wd), (nm2, hi2, ln2, op2, wd2)) o w k from by simp [zm_appendRow, zm_okr, h3]) hP hD hS
  · obtain ⟨j, hj, rfl, hup, htk⟩ := zm_is_t h3
    refine lv_aload_n hx hb zd_M_appendRow_8 rfl (lv_at hl 0 rfl) ?_
    refine va_get (D := (dC, dI)) (ci := 2) (v := .ref (a 4)) (C := "ZoneShelfModel") (T := zs_T_M) (N := 11) hx hb hz zs_in_M hown hk.1 hP 0 rfl rfl 4 (by decide) (hz _ zq_187) (fun _ h9 => h9) rfl zd_M_appendRow_9 ?_
    refine lv_iload_n hx hb zd_M_appendRow_12 rfl (lv_at hl 1 rfl) ?_
    refine zi_zld hx hb hk hP 4 (j := j) rfl (by omega) (by decide) zd_M_appendRow_13 ?_
    refine lv_if_eq (tgt := 43) hx hb zd_M_appendRow_14 rfl (fun h4 => ?_) (fun h4 => ?_)
    · refine lv_iconst (v := 0) hx hb zd_M_appendRow_43 (by decide) ?_
      exact zw_zret (up, (nm, hi, ln, op, wd), (nm2, hi2, ln2, op2, wd2)) hx hb hr hlocks zd_M_appendRow_44 rfl (show (0, (up, (nm, hi, ln, op, wd), (nm2, hi2, ln2, op2, wd2))) = zm_appendRow (up, (nm, hi, ln, op, wd), (nm2, hi2, ln2, op2, wd2)) (nI j) w k from by simp [zm_appendRow, zm_okr, h3, nI_clamp (show j < 2 ^ 31 by omega), h4]) hP hD hS
    · refine lv_iload_n hx hb zd_M_appendRow_17 rfl (lv_at hl 3 rfl) ?_
      refine lv_iconst (v := 1) hx hb zd_M_appendRow_18 (by decide) ?_
      refine lv_icmp_lt (tgt := 43) hx hb zd_M_appendRow_19 rfl (fun h5 => ?_) (fun h5 => ?_)
      · refine lv_iconst (v := 0) hx hb zd_M_appendRow_43 (by decide) ?_
        exact zw_zret (up, (nm, hi, ln, op, wd), (nm2, hi2, ln2, op2, wd2)) hx hb hr hlocks zd_M_appendRow_44 rfl (show (0, (up, (nm, hi, ln, op, wd), (nm2, hi2, ln2, op2, wd2))) = zm_appendRow (up, (nm, hi, ln, op, wd), (nm2, hi2, ln2, op2, wd2)) (nI j) w k from by simp [zm_appendRow, zm_okr, h3, nI_clamp (show j < 2 ^ 31 by omega), h4, h5]) hP hD hS
      · refine lv_iload_n hx hb zd_M_appendRow_22 rfl (lv_at hl 3 rfl) ?_
        refine lv_bipush (v := 64) hx hb zd_M_appendRow_23 (by decide) ?_
        refine lv_aload_n hx hb zd_M_appendRow_25 rfl (lv_at hl 0 rfl) ?_
        refine va_get (D := (dC, dI)) (ci := 2) (v := .ref (a 3)) (C := "ZoneShelfModel") (T := zs_T_M) (N := 11) hx hb hz zs_in_M hown hk.1 hP 0 rfl rfl 3 (by decide) (hz _ zq_186) (fun _ h9 => h9) rfl zd_M_appendRow_26 ?_
        refine lv_iload_n hx hb zd_M_appendRow_29 rfl (lv_at hl 1 rfl) ?_
        refine zi_ald hx hb hk hP 3 (j := j) rfl (by omega) (by decide) zd_M_appendRow_30 ?_
        refine lv_isub hx hb zd_M_appendRow_31 ?_
        refine lv_icmp_gt (tgt := 43) hx hb zd_M_appendRow_32 rfl (fun h6 => ?_) (fun h6 => ?_)
        · refine lv_iconst (v := 0) hx hb zd_M_appendRow_43 (by decide) ?_
          exact zw_zret (up, (nm, hi, ln, op, wd), (nm2, hi2, ln2, op2, wd2)) hx hb hr hlocks zd_M_appendRow_44 rfl (show (0, (up, (nm, hi, ln, op, wd), (nm2, hi2, ln2, op2, wd2))) = zm_appendRow (up, (nm, hi, ln, op, wd), (nm2, hi2, ln2, op2, wd2)) (nI j) w k from by simp [zm_appendRow, zm_okr, h3, nI_clamp (show j < 2 ^ 31 by omega), h4, h5, h6]) hP hD hS
        · refine lv_iload_n hx hb zd_M_appendRow_35 rfl (lv_at hl 3 rfl) ?_
          refine lv_aload_n hx hb zd_M_appendRow_36 rfl (lv_at hl 0 rfl) ?_
          refine zc_rV (rest := [.int k]) [] hx hb hml hown hz (zc_M_left l dC dI cI cZ a (up, (nm, hi, ln, op, wd), (nm2, hi2, ln2, op2, wd2)) ) zf_M_left rfl rfl zq_226 zq_227 zq_16 ⟨Nat.le_of_ble_eq_true rfl, Nat.le_of_ble_eq_true rfl⟩ hk (hP.sub [0, 1, 2, 3, 4, 5, 6, 7, 8, 9, 10] rfl) 0 2 rfl rfl rfl rfl hl.1 rfl (Nat.le_of_ble_eq_true rfl) zd_M_appendRow_37 ⟨Nat.zero_le _, Nat.zero_le _⟩ (fun r7 e8 => ?_)
          obtain rfl : r7 = zm_left nm ln 24 0 200 := e8
          refine lv_icmp_le (tgt := 45) hx hb zd_M_appendRow_40 rfl (fun h9 => ?_) (fun h9 => ?_)
          · obtain ⟨q, hq6, hq⟩ := hok j hj htk
            obtain ⟨k, hkk, rfl⟩ := zs_fit2 hq hq6 h5 h6
            rw [hq] at h6
            refine lv_iconst (v := 0) hx hb zd_M_appendRow_45 (by decide) ?_
            refine lv_istore (lv' := [(4, .int 0), (0, .ref (a 0)), (1, .int (nI j)), (2, .int w), (3, .int (nI k))]) hx hb zd_M_appendRow_46 hl (by decide) rfl (fun ls hl => ?_)
            refine zl_w (N := k) (α := Unit) (fun kk ii xx ls H locs => lv_has ls 5 [(4, .int (nI ii)), (0, .ref (a 0)), (1, .int (nI j)), (2, .int w), (3, .int (nI k))] ∧ va_P (dC, dI) zs_cl [(a 0, .inr (2, [.int (zs_b up), .ref (a 1), .ref (a 2), .ref (a 3), .ref (a 4), .ref (a 5), .ref (a 6), .ref (a 7), .ref (a 8), .ref (a 9), .ref (a 10)])), (a 1, .inl (cI, 24, .inl nm)), (a 2, .inl (cI, 24, .inl hi)), (a 3, .inl (cI, 24, .inl (upd ln j (nI (q + ii))))), (a 4, .inl (cZ, 24, .inl op)), (a 5, .inl (cI, 1536, .inl (zs_row wd (j * 64 + q) w ii))), (a 6, .inl (cI, 24, .inl nm2)), (a 7, .inl (cI, 24, .inl hi2)), (a 8, .inl (cI, 24, .inl ln2)), (a 9, .inl (cZ, 24, .inl op2)), (a 10, .inl (cI, 1536, .inl wd2))] H ∧ va_D A [(a 0, .inr (2, [.int (zs_b up), .ref (a 1), .ref (a 2), .ref (a 3), .ref (a 4), .ref (a 5), .ref (a 6), .ref (a 7), .ref (a 8), .ref (a 9), .ref (a 10)])), (a 1, .inl (cI, 24, .inl nm)), (a 2, .inl (cI, 24, .inl hi)), (a 3, .inl (cI, 24, .inl (upd ln j (nI (q + ii))))), (a 4, .inl (cZ, 24, .inl op)), (a 5, .inl (cI, 1536, .inl (zs_row wd (j * 64 + q) w ii))), (a 6, .inl (cI, 24, .inl nm2)), (a 7, .inl (cI, 24, .inl hi2)), (a 8, .inl (cI, 24, .inl ln2)), (a 9, .inl (cZ, 24, .inl op2)), (a 10, .inl (cI, 1536, .inl wd2))] ∧ va_S A s.heap H locs) (fun k1 i1 x1 ls H locs e1 hv ih1 => ?_) (fun x1 ls H locs hv => ?_) k 0 () ls s.heap _ (by omega) ⟨lv_sub hl [0, 1, 2, 3, 4] rfl, by rw [zs_us0 hq]; exact hP, by rw [zs_us0 hq]; exact hD, hS⟩
            · obtain ⟨hl, hP, hD, hS⟩ := hv
              have hl : lv_has ls 5 [(4, .int (nI i1)), (0, .ref (a 0)), (1, .int (nI j)), (2, .int w), (3, .int (nI k))] := hl
              have hP : va_P (dC, dI) zs_cl [(a 0, .inr (2, [.int (zs_b up), .ref (a 1), .ref (a 2), .ref (a 3), .ref (a 4), .ref (a 5), .ref (a 6), .ref (a 7), .ref (a 8), .ref (a 9), .ref (a 10)])), (a 1, .inl (cI, 24, .inl nm)), (a 2, .inl (cI, 24, .inl hi)), (a 3, .inl (cI, 24, .inl (upd ln j (nI (q + i1))))), (a 4, .inl (cZ, 24, .inl op)), (a 5, .inl (cI, 1536, .inl (zs_row wd (j * 64 + q) w i1))), (a 6, .inl (cI, 24, .inl nm2)), (a 7, .inl (cI, 24, .inl hi2)), (a 8, .inl (cI, 24, .inl ln2)), (a 9, .inl (cZ, 24, .inl op2)), (a 10, .inl (cI, 1536, .inl wd2))] H := hP
              have hD : va_D A [(a 0, .inr (2, [.int (zs_b up), .ref (a 1), .ref (a 2), .ref (a 3), .ref (a 4), .ref (a 5), .ref (a 6), .ref (a 7), .ref (a 8), .ref (a 9), .ref (a 10)])), (a 1, .inl (cI, 24, .inl nm)), (a 2, .inl (cI, 24, .inl hi)), (a 3, .inl (cI, 24, .inl (upd ln j (nI (q + i1))))), (a 4, .inl (cZ, 24, .inl op)), (a 5, .inl (cI, 1536, .inl (zs_row wd (j * 64 + q) w i1))), (a 6, .inl (cI, 24, .inl nm2)), (a 7, .inl (cI, 24, .inl hi2)), (a 8, .inl (cI, 24, .inl ln2)), (a 9, .inl (cZ, 24, .inl op2)), (a 10, .inl (cI, 1536, .inl wd2))] := hD
              have hlt1 : i1 < k := by omega
              refine lv_iload hx hb zd_M_appendRow_48 (lv_at hl 0 rfl) ?_
              refine lv_iload_n hx hb zd_M_appendRow_50 rfl (lv_at hl 4 rfl) ?_
              refine zj_in (tgt := 90) (n := k) hx hb zd_M_appendRow_51 rfl rfl hlt1 (by omega) ?_
              refine lv_aload_n hx hb zd_M_appendRow_54 rfl (lv_at hl 1 rfl) ?_
              refine va_get (D := (dC, dI)) (ci := 2) (v := .ref (a 5)) (C := "ZoneShelfModel") (T := zs_T_M) (N := 11) hx hb hz zs_in_M hown hk.1 hP 0 rfl rfl 5 (by decide) (hz _ zq_188) (fun _ h9 => h9) rfl zd_M_appendRow_55 ?_
              refine lv_bipush (v := 64) hx hb zd_M_appendRow_58 (by decide) ?_
              refine lv_iload_n hx hb zd_M_appendRow_60 rfl (lv_at hl 2 rfl) ?_
              refine lv_imul hx hb zd_M_appendRow_61 ?_
              refine lv_aload_n hx hb zd_M_appendRow_62 rfl (lv_at hl 1 rfl) ?_
              refine va_get (D := (dC, dI)) (ci := 2) (v := .ref (a 3)) (C := "ZoneShelfModel") (T := zs_T_M) (N := 11) hx hb hz zs_in_M hown hk.1 hP 0 rfl rfl 3 (by decide) (hz _ zq_186) (fun _ h9 => h9) rfl zd_M_appendRow_63 ?_
              refine lv_iload_n hx hb zd_M_appendRow_66 rfl (lv_at hl 2 rfl) ?_
              refine zi_ald hx hb hk hP 3 (j := j) rfl (by omega) (by decide) zd_M_appendRow_67 ?_
              refine zi_top (y := nI (q + i1)) (pk_us) ?_
              refine lv_iadd hx hb zd_M_appendRow_68 ?_
              refine zi_top (y := nI (j * 64 + q + i1)) (by rw [show (64 : Int32) = nI 64 from rfl, pk_mul, nI_add, show 64 * j + (q + i1) = j * 64 + q + i1 by omega]) ?_
              refine lv_iload_n hx hb zd_M_appendRow_69 rfl (lv_at hl 3 rfl) ?_
              refine lv_iload hx hb zd_M_appendRow_70 (lv_at hl 0 rfl) ?_
              refine lv_iadd hx hb zd_M_appendRow_72 ?_
              refine zi_ast hx hb hk hP hD hS 5 (j := (j * 64 + q + i1)) rfl (by omega) (by decide) zd_M_appendRow_73 (fun H locs hP hD hS => ?_)
              have hP : va_P (dC, dI) zs_cl [(a 0, .inr (2, [.int (zs_b up), .ref (a 1), .ref (a 2), .ref (a 3), .ref (a 4), .ref (a 5), .ref (a 6), .ref (a 7), .ref (a 8), .ref (a 9), .ref (a 10)])), (a 1, .inl (cI, 24, .inl nm)), (a 2, .inl (cI, 24, .inl hi)), (a 3, .inl (cI, 24, .inl (upd ln j (nI (q + i1))))), (a 4, .inl (cZ, 24, .inl op)), (a 5, .inl (cI, 1536, .inl (upd (zs_row wd (j * 64 + q) w i1) (j * 64 + q + i1) (w + (nI i1))))), (a 6, .inl (cI, 24, .inl nm2)), (a 7, .inl (cI, 24, .inl hi2)), (a 8, .inl (cI, 24, .inl ln2)), (a 9, .inl (cZ, 24, .inl op2)), (a 10, .inl (cI, 1536, .inl wd2))] H := hP
              have hD : va_D A [(a 0, .inr (2, [.int (zs_b up), .ref (a 1), .ref (a 2), .ref (a 3), .ref (a 4), .ref (a 5), .ref (a 6), .ref (a 7), .ref (a 8), .ref (a 9), .ref (a 10)])), (a 1, .inl (cI, 24, .inl nm)), (a 2, .inl (cI, 24, .inl hi)), (a 3, .inl (cI, 24, .inl (upd ln j (nI (q + i1))))), (a 4, .inl (cZ, 24, .inl op)), (a 5, .inl (cI, 1536, .inl (upd (zs_row wd (j * 64 + q) w i1) (j * 64 + q + i1) (w + (nI i1))))), (a 6, .inl (cI, 24, .inl nm2)), (a 7, .inl (cI, 24, .inl hi2)), (a 8, .inl (cI, 24, .inl ln2)), (a 9, .inl (cZ, 24, .inl op2)), (a 10, .inl (cI, 1536, .inl wd2))] := hD
              refine lv_aload_n hx hb zd_M_appendRow_74 rfl (lv_at hl 1 rfl) ?_
              refine va_get (D := (dC, dI)) (ci := 2) (v := .ref (a 3)) (C := "ZoneShelfModel") (T := zs_T_M) (N := 11) hx hb hz zs_in_M hown hk.1 hP 0 rfl rfl 3 (by decide) (hz _ zq_186) (fun _ h9 => h9) rfl zd_M_appendRow_75 ?_
              refine lv_iload_n hx hb zd_M_appendRow_78 rfl (lv_at hl 2 rfl) ?_
              refine lv_dup2_11 hx hb zd_M_appendRow_79 rfl rfl ?_
              refine zi_ald hx hb hk hP 3 (j := j) rfl (by omega) (by decide) zd_M_appendRow_80 ?_
              refine zi_top (y := nI (q + i1)) (pk_us) ?_
              refine lv_iconst (v := 1) hx hb zd_M_appendRow_81 (by decide) ?_
              refine lv_iadd hx hb zd_M_appendRow_82 ?_
              refine zi_top (y := nI (q + (i1 + 1))) (nI_1 _) ?_
              refine zi_ast hx hb hk hP hD hS 3 (j := j) rfl (by omega) (by decide) zd_M_appendRow_83 (fun H locs hP hD hS => ?_)
              have hP : va_P (dC, dI) zs_cl [(a 0, .inr (2, [.int (zs_b up), .ref (a 1), .ref (a 2), .ref (a 3), .ref (a 4), .ref (a 5), .ref (a 6), .ref (a 7), .ref (a 8), .ref (a 9), .ref (a 10)])), (a 1, .inl (cI, 24, .inl nm)), (a 2, .inl (cI, 24, .inl hi)), (a 3, .inl (cI, 24, .inl (upd (upd ln j (nI (q + i1))) j (nI (q + (i1 + 1)))))), (a 4, .inl (cZ, 24, .inl op)), (a 5, .inl (cI, 1536, .inl (upd (zs_row wd (j * 64 + q) w i1) (j * 64 + q + i1) (w + (nI i1))))), (a 6, .inl (cI, 24, .inl nm2)), (a 7, .inl (cI, 24, .inl hi2)), (a 8, .inl (cI, 24, .inl ln2)), (a 9, .inl (cZ, 24, .inl op2)), (a 10, .inl (cI, 1536, .inl wd2))] H := hP
              have hD : va_D A [(a 0, .inr (2, [.int (zs_b up), .ref (a 1), .ref (a 2), .ref (a 3), .ref (a 4), .ref (a 5), .ref (a 6), .ref (a 7), .ref (a 8), .ref (a 9), .ref (a 10)])), (a 1, .inl (cI, 24, .inl nm)), (a 2, .inl (cI, 24, .inl hi)), (a 3, .inl (cI, 24, .inl (upd (upd ln j (nI (q + i1))) j (nI (q + (i1 + 1)))))), (a 4, .inl (cZ, 24, .inl op)), (a 5, .inl (cI, 1536, .inl (upd (zs_row wd (j * 64 + q) w i1) (j * 64 + q + i1) (w + (nI i1))))), (a 6, .inl (cI, 24, .inl nm2)), (a 7, .inl (cI, 24, .inl hi2)), (a 8, .inl (cI, 24, .inl ln2)), (a 9, .inl (cZ, 24, .inl op2)), (a 10, .inl (cI, 1536, .inl wd2))] := hD
              refine lv_iinc (k := 0) (v := nI (i1 + 1)) (lv' := [(4, .int (nI (i1 + 1))), (0, .ref (a 0)), (1, .int (nI j)), (2, .int w), (3, .int (nI k))]) hx hb zd_M_appendRow_84 hl rfl (zs_inc _) (by decide) rfl (fun ls hl => ?_)
              refine lv_goto (tgt := 48) hx hb zd_M_appendRow_87 rfl ?_
              rw [zs_uu] at hP hD
              exact ih1 () ls H locs ⟨lv_sub hl [0, 1, 2, 3, 4] rfl, hP, hD, hS⟩
            · obtain ⟨hl, hP, hD, hS⟩ := hv
              have hl : lv_has ls 5 [(4, .int (nI k)), (0, .ref (a 0)), (1, .int (nI j)), (2, .int w), (3, .int (nI k))] := hl
              have hP : va_P (dC, dI) zs_cl [(a 0, .inr (2, [.int (zs_b up), .ref (a 1), .ref (a 2), .ref (a 3), .ref (a 4), .ref (a 5), .ref (a 6), .ref (a 7), .ref (a 8), .ref (a 9), .ref (a 10)])), (a 1, .inl (cI, 24, .inl nm)), (a 2, .inl (cI, 24, .inl hi)), (a 3, .inl (cI, 24, .inl (upd ln j (nI (q + k))))), (a 4, .inl (cZ, 24, .inl op)), (a 5, .inl (cI, 1536, .inl (zs_row wd (j * 64 + q) w k))), (a 6, .inl (cI, 24, .inl nm2)), (a 7, .inl (cI, 24, .inl hi2)), (a 8, .inl (cI, 24, .inl ln2)), (a 9, .inl (cZ, 24, .inl op2)), (a 10, .inl (cI, 1536, .inl wd2))] H := hP
              have hD : va_D A [(a 0, .inr (2, [.int (zs_b up), .ref (a 1), .ref (a 2), .ref (a 3), .ref (a 4), .ref (a 5), .ref (a 6), .ref (a 7), .ref (a 8), .ref (a 9), .ref (a 10)])), (a 1, .inl (cI, 24, .inl nm)), (a 2, .inl (cI, 24, .inl hi)), (a 3, .inl (cI, 24, .inl (upd ln j (nI (q + k))))), (a 4, .inl (cZ, 24, .inl op)), (a 5, .inl (cI, 1536, .inl (zs_row wd (j * 64 + q) w k))), (a 6, .inl (cI, 24, .inl nm2)), (a 7, .inl (cI, 24, .inl hi2)), (a 8, .inl (cI, 24, .inl ln2)), (a 9, .inl (cZ, 24, .inl op2)), (a 10, .inl (cI, 1536, .inl wd2))] := hD
              refine lv_iload hx hb zd_M_appendRow_48 (lv_at hl 0 rfl) ?_
              refine lv_iload_n hx hb zd_M_appendRow_50 rfl (lv_at hl 4 rfl) ?_
              refine zj_out (tgt := 90) (n := k) (i := k) hx hb zd_M_appendRow_51 rfl rfl (Nat.le_refl _) (by omega) ?_
              refine lv_iconst (v := 1) hx hb zd_M_appendRow_90 (by decide) ?_
              exact zw_zret (up, (nm, hi, upd ln j (nI (q + k)), op, zs_row wd (j * 64 + q) w k), (nm2, hi2, ln2, op2, wd2)) hx hb hr hlocks zd_M_appendRow_91 rfl (show (1, (up, (nm, hi, upd ln j (nI (q + k)), op, zs_row wd (j * 64 + q) w k), (nm2, hi2, ln2, op2, wd2))) = zm_appendRow (up, (nm, hi, ln, op, wd), (nm2, hi2, ln2, op2, wd2)) (nI j) w (nI k) from by simp [zm_appendRow, zm_okr, h3, nI_clamp (show j < 2 ^ 31 by omega), h4, h5, h6, h9, hq, nI_clamp (show q < 2 ^ 31 by omega), nI_clamp (show k < 2 ^ 31 by omega)]) hP hD hS
          · refine lv_iconst (v := 0) hx hb zd_M_appendRow_43 (by decide) ?_
            exact zw_zret (up, (nm, hi, ln, op, wd), (nm2, hi2, ln2, op2, wd2)) hx hb hr hlocks zd_M_appendRow_44 rfl (show (0, (up, (nm, hi, ln, op, wd), (nm2, hi2, ln2, op2, wd2))) = zm_appendRow (up, (nm, hi, ln, op, wd), (nm2, hi2, ln2, op2, wd2)) (nI j) w k from by simp [zm_appendRow, zm_okr, h3, nI_clamp (show j < 2 ^ 31 by omega), h4, h5, h6, h9]) hP hD hS
set_option maxHeartbeats 4000000 in
set_option maxRecDepth 100000 in
theorem zc_M_append (l : Launch) (dC : Nat → ClassId) (dI : Nat → Nat → Nat) (cI cZ : ClassId) (a : Nat → Nat) (u : zs_X) (sz : Nat) (hok : zm_ok u) (o w : Int32) : Met l zy_M_append (.code zy_M_append zb_M_append 3 (some .boolean) :: zs_w) ({ frames := 2, cells := 0, slots := 0, locals := 46 }) (va_Pc [.ref (a 0), .int o, .int w] (zs_s dC dI cI cZ sz (zs_wM cI cZ a u))) (va_Qi (fun r (v : zs_X) => (r, v) = zm_appendRow u o w 1) (zs_e dC dI (zs_wM cI cZ a) (va_A (zs_wM cI cZ a u) sz)) (va_A (zs_wM cI cZ a u) sz)) 0 0 (va_A (zs_wM cI cZ a u) sz) := by
  obtain ⟨up, ⟨nm, hi, ln, op, wd⟩, ⟨nm2, hi2, ln2, op2, wd2⟩⟩ := u
  refine Met.ofW (cc := zb_M_append) (maxL := 3) (ret := (some .boolean)) (by decide) rfl ?_
  intro p e s m args below meth c s₁ B hml hv
  obtain ⟨rfl, hsz, hP, hk, hD0⟩ := hv
  have hx := B.exec
  have hb := B.bytes
  have hr := B.returns
  have hts := atoms_spec (ws := .code zy_M_append zb_M_append 3 (some .boolean) :: zs_w) B.pre
  have hz : ∀ w ∈ zs_w, w.before _ s = true := fun w h => hts w (List.mem_cons_of_mem _ h)
  have hown : s.vm.findClass "ZoneShelfModel" = some m.cls := findClass_of_methodNamed B.named
  have hlocks := B.notSynchronized
  subst hsz
  have hD := hD0.self (sz := s.heap.size)
  generalize hAe : va_A (zs_wM cI cZ a (up, (nm, hi, ln, op, wd), (nm2, hi2, ln2, op2, wd2))) s.heap.size = A at hD ⊢
  have hA : ∀ q : Nat, s.heap.size ≤ q → A q := fun q h => by rw [← hAe]; exact Or.inr h
  have hS : va_S A s.heap s.heap [] := va_S.rf
  have hP : va_P (dC, dI) zs_cl [(a 0, .inr (2, [.int (zs_b up), .ref (a 1), .ref (a 2), .ref (a 3), .ref (a 4), .ref (a 5), .ref (a 6), .ref (a 7), .ref (a 8), .ref (a 9), .ref (a 10)])), (a 1, .inl (cI, 24, .inl nm)), (a 2, .inl (cI, 24, .inl hi)), (a 3, .inl (cI, 24, .inl ln)), (a 4, .inl (cZ, 24, .inl op)), (a 5, .inl (cI, 1536, .inl wd)), (a 6, .inl (cI, 24, .inl nm2)), (a 7, .inl (cI, 24, .inl hi2)), (a 8, .inl (cI, 24, .inl ln2)), (a 9, .inl (cZ, 24, .inl op2)), (a 10, .inl (cI, 1536, .inl wd2))] s.heap := hP
  have hD : va_D A [(a 0, .inr (2, [.int (zs_b up), .ref (a 1), .ref (a 2), .ref (a 3), .ref (a 4), .ref (a 5), .ref (a 6), .ref (a 7), .ref (a 8), .ref (a 9), .ref (a 10)])), (a 1, .inl (cI, 24, .inl nm)), (a 2, .inl (cI, 24, .inl hi)), (a 3, .inl (cI, 24, .inl ln)), (a 4, .inl (cZ, 24, .inl op)), (a 5, .inl (cI, 1536, .inl wd)), (a 6, .inl (cI, 24, .inl nm2)), (a 7, .inl (cI, 24, .inl hi2)), (a 8, .inl (cI, 24, .inl ln2)), (a 9, .inl (cZ, 24, .inl op2)), (a 10, .inl (cI, 1536, .inl wd2))] := hD
  have hl := lv_entry ([.ref (a 0), .int o, .int w]) (n := 3) (Nat.le_of_ble_eq_true rfl)
  rw [lg_entry_eq]
  generalize (lg_sl ([.ref (a 0), .int o, .int w]) ++ List.replicate (3 - (lg_sl ([.ref (a 0), .int o, .int w])).length) Slot.unset).toArray = ls at hl ⊢
  have hl : lv_has ls 3 [(0, .ref (a 0)), (1, .int o), (2, .int w)] := hl
  refine lv_aload_n hx hb zd_M_append_0 rfl (lv_at hl 0 rfl) ?_
  refine lv_iload_n hx hb zd_M_append_1 rfl (lv_at hl 1 rfl) ?_
  refine lv_iload_n hx hb zd_M_append_2 rfl (lv_at hl 2 rfl) ?_
  refine lv_iconst (v := 1) hx hb zd_M_append_3 (by decide) ?_
  refine zc_wV (rest := []) (wr := []) [.int o, .int w, .int 1] hx hb hml hown hz (zc_M_appendRow l dC dI cI cZ a (up, (nm, hi, ln, op, wd), (nm2, hi2, ln2, op2, wd2)) s.heap.size hok o w 1) zf_M_appendRow rfl rfl zq_222 zq_223 zq_224 ⟨Nat.le_of_ble_eq_true rfl, Nat.le_of_ble_eq_true rfl⟩ hk hP hD hS hA [0, 1, 2, 3, 4, 5, 6, 7, 8, 9, 10] [] rfl rfl (by decide) (by decide) (by decide) 0 2 rfl rfl rfl rfl hl.1 rfl (Nat.le_of_ble_eq_true rfl) zd_M_append_4 ⟨Nat.zero_le _, Nat.zero_le _⟩ (fun r1 u3 H locs e2 hP hD hS => ?_)
  exact zw_zret u3 hx hb hr hlocks zd_M_append_7 (by rw [show r1 = (zm_appendRow (up, (nm, hi, ln, op, wd), (nm2, hi2, ln2, op2, wd2)) o w 1).1 from congrArg Prod.fst e2]; exact zm_appendRow_n _ _ _ _) (show (r1, u3) = zm_appendRow (up, (nm, hi, ln, op, wd), (nm2, hi2, ln2, op2, wd2)) o w 1 from e2) hP hD hS
set_option maxHeartbeats 4000000 in
set_option maxRecDepth 100000 in
theorem zc_M_open (l : Launch) (dC : Nat → ClassId) (dI : Nat → Nat → Nat) (cI cZ : ClassId) (a : Nat → Nat) (u : zs_X) (sz : Nat) (o b : Int32) : Met l zy_M_open (.code zy_M_open zb_M_open 3 (some .boolean) :: zs_w) ({ frames := 1, cells := 0, slots := 0, locals := 21 }) (va_Pc [.ref (a 0), .int o, .int b] (zs_s dC dI cI cZ sz (zs_wM cI cZ a u))) (va_Qi (fun r (v : zs_X) => (r, v) = zm_open u o b) (zs_e dC dI (zs_wM cI cZ a) (va_A (zs_wM cI cZ a u) sz)) (va_A (zs_wM cI cZ a u) sz)) 0 0 (va_A (zs_wM cI cZ a u) sz) := by
  obtain ⟨up, ⟨nm, hi, ln, op, wd⟩, ⟨nm2, hi2, ln2, op2, wd2⟩⟩ := u
  refine Met.ofW (cc := zb_M_open) (maxL := 3) (ret := (some .boolean)) (by decide) rfl ?_
  intro p e s m args below meth c s₁ B hml hv
  obtain ⟨rfl, hsz, hP, hk, hD0⟩ := hv
  have hx := B.exec
  have hb := B.bytes
  have hr := B.returns
  have hts := atoms_spec (ws := .code zy_M_open zb_M_open 3 (some .boolean) :: zs_w) B.pre
  have hz : ∀ w ∈ zs_w, w.before _ s = true := fun w h => hts w (List.mem_cons_of_mem _ h)
  have hown : s.vm.findClass "ZoneShelfModel" = some m.cls := findClass_of_methodNamed B.named
  have hlocks := B.notSynchronized
  subst hsz
  have hD := hD0.self (sz := s.heap.size)
  generalize hAe : va_A (zs_wM cI cZ a (up, (nm, hi, ln, op, wd), (nm2, hi2, ln2, op2, wd2))) s.heap.size = A at hD ⊢
  have hA : ∀ q : Nat, s.heap.size ≤ q → A q := fun q h => by rw [← hAe]; exact Or.inr h
  have hS : va_S A s.heap s.heap [] := va_S.rf
  have hP : va_P (dC, dI) zs_cl [(a 0, .inr (2, [.int (zs_b up), .ref (a 1), .ref (a 2), .ref (a 3), .ref (a 4), .ref (a 5), .ref (a 6), .ref (a 7), .ref (a 8), .ref (a 9), .ref (a 10)])), (a 1, .inl (cI, 24, .inl nm)), (a 2, .inl (cI, 24, .inl hi)), (a 3, .inl (cI, 24, .inl ln)), (a 4, .inl (cZ, 24, .inl op)), (a 5, .inl (cI, 1536, .inl wd)), (a 6, .inl (cI, 24, .inl nm2)), (a 7, .inl (cI, 24, .inl hi2)), (a 8, .inl (cI, 24, .inl ln2)), (a 9, .inl (cZ, 24, .inl op2)), (a 10, .inl (cI, 1536, .inl wd2))] s.heap := hP
  have hD : va_D A [(a 0, .inr (2, [.int (zs_b up), .ref (a 1), .ref (a 2), .ref (a 3), .ref (a 4), .ref (a 5), .ref (a 6), .ref (a 7), .ref (a 8), .ref (a 9), .ref (a 10)])), (a 1, .inl (cI, 24, .inl nm)), (a 2, .inl (cI, 24, .inl hi)), (a 3, .inl (cI, 24, .inl ln)), (a 4, .inl (cZ, 24, .inl op)), (a 5, .inl (cI, 1536, .inl wd)), (a 6, .inl (cI, 24, .inl nm2)), (a 7, .inl (cI, 24, .inl hi2)), (a 8, .inl (cI, 24, .inl ln2)), (a 9, .inl (cZ, 24, .inl op2)), (a 10, .inl (cI, 1536, .inl wd2))] := hD
  have hl := lv_entry ([.ref (a 0), .int o, .int b]) (n := 3) (Nat.le_of_ble_eq_true rfl)
  rw [lg_entry_eq]
  generalize (lg_sl ([.ref (a 0), .int o, .int b]) ++ List.replicate (3 - (lg_sl ([.ref (a 0), .int o, .int b])).length) Slot.unset).toArray = ls at hl ⊢
  have hl : lv_has ls 3 [(0, .ref (a 0)), (1, .int o), (2, .int b)] := hl
  refine lv_aload_n hx hb zd_M_open_0 rfl (lv_at hl 0 rfl) ?_
  refine lv_iload_n hx hb zd_M_open_1 rfl (lv_at hl 1 rfl) ?_
  refine zc_rV (rest := []) [.int o] hx hb hml hown hz (zc_M_is l dC dI cI cZ a (up, (nm, hi, ln, op, wd), (nm2, hi2, ln2, op2, wd2)) o) zf_M_is rfl rfl zq_215 zq_216 zq_15 ⟨Nat.le_of_ble_eq_true rfl, Nat.le_of_ble_eq_true rfl⟩ hk (hP.sub [0, 1, 2, 3, 4, 5, 6, 7, 8, 9, 10] rfl) 0 2 rfl rfl rfl rfl hl.1 rfl (Nat.le_of_ble_eq_true rfl) zd_M_open_2 ⟨Nat.zero_le _, Nat.zero_le _⟩ (fun r1 e2 => ?_)
  obtain rfl : r1 = zs_b (zm_is up nm o) := e2
  refine zi_ne (tgt := 10) hx hb zd_M_open_5 rfl (fun h3 => ?_) (fun h3 => ?_)
  · obtain ⟨j, hj, rfl, hup, htk⟩ := zm_is_t h3
    refine lv_aload_n hx hb zd_M_open_10 rfl (lv_at hl 0 rfl) ?_
    refine va_get (D := (dC, dI)) (ci := 2) (v := .ref (a 4)) (C := "ZoneShelfModel") (T := zs_T_M) (N := 11) hx hb hz zs_in_M hown hk.1 hP 0 rfl rfl 4 (by decide) (hz _ zq_187) (fun _ h9 => h9) rfl zd_M_open_11 ?_
    refine lv_iload_n hx hb zd_M_open_14 rfl (lv_at hl 1 rfl) ?_
    refine lv_iload_n hx hb zd_M_open_15 rfl (lv_at hl 2 rfl) ?_
    refine zi_zst hx hb hk hP hD hS 4 (j := j) rfl (by omega) (by decide) zd_M_open_16 (fun H locs hP hD hS => ?_)
    have hP : va_P (dC, dI) zs_cl [(a 0, .inr (2, [.int (zs_b up), .ref (a 1), .ref (a 2), .ref (a 3), .ref (a 4), .ref (a 5), .ref (a 6), .ref (a 7), .ref (a 8), .ref (a 9), .ref (a 10)])), (a 1, .inl (cI, 24, .inl nm)), (a 2, .inl (cI, 24, .inl hi)), (a 3, .inl (cI, 24, .inl ln)), (a 4, .inl (cZ, 24, .inl (upd op j (vp_nar .boolean b)))), (a 5, .inl (cI, 1536, .inl wd)), (a 6, .inl (cI, 24, .inl nm2)), (a 7, .inl (cI, 24, .inl hi2)), (a 8, .inl (cI, 24, .inl ln2)), (a 9, .inl (cZ, 24, .inl op2)), (a 10, .inl (cI, 1536, .inl wd2))] H := hP
    have hD : va_D A [(a 0, .inr (2, [.int (zs_b up), .ref (a 1), .ref (a 2), .ref (a 3), .ref (a 4), .ref (a 5), .ref (a 6), .ref (a 7), .ref (a 8), .ref (a 9), .ref (a 10)])), (a 1, .inl (cI, 24, .inl nm)), (a 2, .inl (cI, 24, .inl hi)), (a 3, .inl (cI, 24, .inl ln)), (a 4, .inl (cZ, 24, .inl (upd op j (vp_nar .boolean b)))), (a 5, .inl (cI, 1536, .inl wd)), (a 6, .inl (cI, 24, .inl nm2)), (a 7, .inl (cI, 24, .inl hi2)), (a 8, .inl (cI, 24, .inl ln2)), (a 9, .inl (cZ, 24, .inl op2)), (a 10, .inl (cI, 1536, .inl wd2))] := hD
    refine lv_iconst (v := 1) hx hb zd_M_open_17 (by decide) ?_
    exact zw_zret (up, (nm, hi, ln, upd op j (vp_nar .boolean b), wd), (nm2, hi2, ln2, op2, wd2)) hx hb hr hlocks zd_M_open_18 rfl (show (1, (up, (nm, hi, ln, upd op j (vp_nar .boolean b), wd), (nm2, hi2, ln2, op2, wd2))) = zm_open (up, (nm, hi, ln, op, wd), (nm2, hi2, ln2, op2, wd2)) (nI j) b from by simp [zm_open, h3, nI_clamp (show j < 2 ^ 31 by omega)]) hP hD hS
  · refine lv_iconst (v := 0) hx hb zd_M_open_8 (by decide) ?_
    exact zw_zret (up, (nm, hi, ln, op, wd), (nm2, hi2, ln2, op2, wd2)) hx hb hr hlocks zd_M_open_9 rfl (show (0, (up, (nm, hi, ln, op, wd), (nm2, hi2, ln2, op2, wd2))) = zm_open (up, (nm, hi, ln, op, wd), (nm2, hi2, ln2, op2, wd2)) o b from by simp [zm_open, h3]) hP hD hS
set_option maxHeartbeats 4000000 in
set_option maxRecDepth 100000 in
theorem zc_M_remove (l : Launch) (dC : Nat → ClassId) (dI : Nat → Nat → Nat) (cI cZ : ClassId) (a : Nat → Nat) (u : zs_X) (sz : Nat) (o : Int32) : Met l zy_M_remove (.code zy_M_remove zb_M_remove 2 (some .boolean) :: zs_w) ({ frames := 1, cells := 0, slots := 0, locals := 21 }) (va_Pc [.ref (a 0), .int o] (zs_s dC dI cI cZ sz (zs_wM cI cZ a u))) (va_Qi (fun r (v : zs_X) => (r, v) = zm_remove u o) (zs_e dC dI (zs_wM cI cZ a) (va_A (zs_wM cI cZ a u) sz)) (va_A (zs_wM cI cZ a u) sz)) 0 0 (va_A (zs_wM cI cZ a u) sz) := by
  obtain ⟨up, ⟨nm, hi, ln, op, wd⟩, ⟨nm2, hi2, ln2, op2, wd2⟩⟩ := u
  refine Met.ofW (cc := zb_M_remove) (maxL := 2) (ret := (some .boolean)) (by decide) rfl ?_
  intro p e s m args below meth c s₁ B hml hv
  obtain ⟨rfl, hsz, hP, hk, hD0⟩ := hv
  have hx := B.exec
  have hb := B.bytes
  have hr := B.returns
  have hts := atoms_spec (ws := .code zy_M_remove zb_M_remove 2 (some .boolean) :: zs_w) B.pre
  have hz : ∀ w ∈ zs_w, w.before _ s = true := fun w h => hts w (List.mem_cons_of_mem _ h)
  have hown : s.vm.findClass "ZoneShelfModel" = some m.cls := findClass_of_methodNamed B.named
  have hlocks := B.notSynchronized
  subst hsz
  have hD := hD0.self (sz := s.heap.size)
  generalize hAe : va_A (zs_wM cI cZ a (up, (nm, hi, ln, op, wd), (nm2, hi2, ln2, op2, wd2))) s.heap.size = A at hD ⊢
  have hA : ∀ q : Nat, s.heap.size ≤ q → A q := fun q h => by rw [← hAe]; exact Or.inr h
  have hS : va_S A s.heap s.heap [] := va_S.rf
  have hP : va_P (dC, dI) zs_cl [(a 0, .inr (2, [.int (zs_b up), .ref (a 1), .ref (a 2), .ref (a 3), .ref (a 4), .ref (a 5), .ref (a 6), .ref (a 7), .ref (a 8), .ref (a 9), .ref (a 10)])), (a 1, .inl (cI, 24, .inl nm)), (a 2, .inl (cI, 24, .inl hi)), (a 3, .inl (cI, 24, .inl ln)), (a 4, .inl (cZ, 24, .inl op)), (a 5, .inl (cI, 1536, .inl wd)), (a 6, .inl (cI, 24, .inl nm2)), (a 7, .inl (cI, 24, .inl hi2)), (a 8, .inl (cI, 24, .inl ln2)), (a 9, .inl (cZ, 24, .inl op2)), (a 10, .inl (cI, 1536, .inl wd2))] s.heap := hP
  have hD : va_D A [(a 0, .inr (2, [.int (zs_b up), .ref (a 1), .ref (a 2), .ref (a 3), .ref (a 4), .ref (a 5), .ref (a 6), .ref (a 7), .ref (a 8), .ref (a 9), .ref (a 10)])), (a 1, .inl (cI, 24, .inl nm)), (a 2, .inl (cI, 24, .inl hi)), (a 3, .inl (cI, 24, .inl ln)), (a 4, .inl (cZ, 24, .inl op)), (a 5, .inl (cI, 1536, .inl wd)), (a 6, .inl (cI, 24, .inl nm2)), (a 7, .inl (cI, 24, .inl hi2)), (a 8, .inl (cI, 24, .inl ln2)), (a 9, .inl (cZ, 24, .inl op2)), (a 10, .inl (cI, 1536, .inl wd2))] := hD
  have hl := lv_entry ([.ref (a 0), .int o]) (n := 2) (Nat.le_of_ble_eq_true rfl)
  rw [lg_entry_eq]
  generalize (lg_sl ([.ref (a 0), .int o]) ++ List.replicate (2 - (lg_sl ([.ref (a 0), .int o])).length) Slot.unset).toArray = ls at hl ⊢
  have hl : lv_has ls 2 [(0, .ref (a 0)), (1, .int o)] := hl
  refine lv_aload_n hx hb zd_M_remove_0 rfl (lv_at hl 0 rfl) ?_
  refine lv_iload_n hx hb zd_M_remove_1 rfl (lv_at hl 1 rfl) ?_
  refine zc_rV (rest := []) [.int o] hx hb hml hown hz (zc_M_is l dC dI cI cZ a (up, (nm, hi, ln, op, wd), (nm2, hi2, ln2, op2, wd2)) o) zf_M_is rfl rfl zq_215 zq_216 zq_15 ⟨Nat.le_of_ble_eq_true rfl, Nat.le_of_ble_eq_true rfl⟩ hk (hP.sub [0, 1, 2, 3, 4, 5, 6, 7, 8, 9, 10] rfl) 0 2 rfl rfl rfl rfl hl.1 rfl (Nat.le_of_ble_eq_true rfl) zd_M_remove_2 ⟨Nat.zero_le _, Nat.zero_le _⟩ (fun r1 e2 => ?_)
  obtain rfl : r1 = zs_b (zm_is up nm o) := e2
  refine zi_ne (tgt := 10) hx hb zd_M_remove_5 rfl (fun h3 => ?_) (fun h3 => ?_)
  · obtain ⟨j, hj, rfl, hup, htk⟩ := zm_is_t h3
    refine lv_aload_n hx hb zd_M_remove_10 rfl (lv_at hl 0 rfl) ?_
    refine va_get (D := (dC, dI)) (ci := 2) (v := .ref (a 1)) (C := "ZoneShelfModel") (T := zs_T_M) (N := 11) hx hb hz zs_in_M hown hk.1 hP 0 rfl rfl 1 (by decide) (hz _ zq_184) (fun _ h9 => h9) rfl zd_M_remove_11 ?_
    refine lv_iload_n hx hb zd_M_remove_14 rfl (lv_at hl 1 rfl) ?_
    refine lv_iconst (v := 0) hx hb zd_M_remove_15 (by decide) ?_
    refine zi_ast hx hb hk hP hD hS 1 (j := j) rfl (by omega) (by decide) zd_M_remove_16 (fun H locs hP hD hS => ?_)
    have hP : va_P (dC, dI) zs_cl [(a 0, .inr (2, [.int (zs_b up), .ref (a 1), .ref (a 2), .ref (a 3), .ref (a 4), .ref (a 5), .ref (a 6), .ref (a 7), .ref (a 8), .ref (a 9), .ref (a 10)])), (a 1, .inl (cI, 24, .inl (upd nm j 0))), (a 2, .inl (cI, 24, .inl hi)), (a 3, .inl (cI, 24, .inl ln)), (a 4, .inl (cZ, 24, .inl op)), (a 5, .inl (cI, 1536, .inl wd)), (a 6, .inl (cI, 24, .inl nm2)), (a 7, .inl (cI, 24, .inl hi2)), (a 8, .inl (cI, 24, .inl ln2)), (a 9, .inl (cZ, 24, .inl op2)), (a 10, .inl (cI, 1536, .inl wd2))] H := hP
    have hD : va_D A [(a 0, .inr (2, [.int (zs_b up), .ref (a 1), .ref (a 2), .ref (a 3), .ref (a 4), .ref (a 5), .ref (a 6), .ref (a 7), .ref (a 8), .ref (a 9), .ref (a 10)])), (a 1, .inl (cI, 24, .inl (upd nm j 0))), (a 2, .inl (cI, 24, .inl hi)), (a 3, .inl (cI, 24, .inl ln)), (a 4, .inl (cZ, 24, .inl op)), (a 5, .inl (cI, 1536, .inl wd)), (a 6, .inl (cI, 24, .inl nm2)), (a 7, .inl (cI, 24, .inl hi2)), (a 8, .inl (cI, 24, .inl ln2)), (a 9, .inl (cZ, 24, .inl op2)), (a 10, .inl (cI, 1536, .inl wd2))] := hD
    refine lv_iconst (v := 1) hx hb zd_M_remove_17 (by decide) ?_
    exact zw_zret (up, (upd nm j 0, hi, ln, op, wd), (nm2, hi2, ln2, op2, wd2)) hx hb hr hlocks zd_M_remove_18 rfl (show (1, (up, (upd nm j 0, hi, ln, op, wd), (nm2, hi2, ln2, op2, wd2))) = zm_remove (up, (nm, hi, ln, op, wd), (nm2, hi2, ln2, op2, wd2)) (nI j)  from by simp [zm_remove, h3, nI_clamp (show j < 2 ^ 31 by omega)]) hP hD hS
  · refine lv_iconst (v := 0) hx hb zd_M_remove_8 (by decide) ?_
    exact zw_zret (up, (nm, hi, ln, op, wd), (nm2, hi2, ln2, op2, wd2)) hx hb hr hlocks zd_M_remove_9 rfl (show (0, (up, (nm, hi, ln, op, wd), (nm2, hi2, ln2, op2, wd2))) = zm_remove (up, (nm, hi, ln, op, wd), (nm2, hi2, ln2, op2, wd2)) o  from by simp [zm_remove, h3]) hP hD hS
set_option maxHeartbeats 4000000 in
set_option maxRecDepth 100000 in
theorem zc_M_rename (l : Launch) (dC : Nat → ClassId) (dI : Nat → Nat → Nat) (cI cZ : ClassId) (a : Nat → Nat) (u : zs_X) (sz : Nat) (o n : Int32) : Met l zy_M_rename (.code zy_M_rename zb_M_rename 3 (some .boolean) :: zs_w) ({ frames := 2, cells := 0, slots := 0, locals := 44 }) (va_Pc [.ref (a 0), .int o, .int n] (zs_s dC dI cI cZ sz (zs_wM cI cZ a u))) (va_Qi (fun r (v : zs_X) => (r, v) = zm_rename u o n) (zs_e dC dI (zs_wM cI cZ a) (va_A (zs_wM cI cZ a u) sz)) (va_A (zs_wM cI cZ a u) sz)) 0 0 (va_A (zs_wM cI cZ a u) sz) := by
  obtain ⟨up, ⟨nm, hi, ln, op, wd⟩, ⟨nm2, hi2, ln2, op2, wd2⟩⟩ := u
  refine Met.ofW (cc := zb_M_rename) (maxL := 3) (ret := (some .boolean)) (by decide) rfl ?_
  intro p e s m args below meth c s₁ B hml hv
  obtain ⟨rfl, hsz, hP, hk, hD0⟩ := hv
  have hx := B.exec
  have hb := B.bytes
  have hr := B.returns
  have hts := atoms_spec (ws := .code zy_M_rename zb_M_rename 3 (some .boolean) :: zs_w) B.pre
  have hz : ∀ w ∈ zs_w, w.before _ s = true := fun w h => hts w (List.mem_cons_of_mem _ h)
  have hown : s.vm.findClass "ZoneShelfModel" = some m.cls := findClass_of_methodNamed B.named
  have hlocks := B.notSynchronized
  subst hsz
  have hD := hD0.self (sz := s.heap.size)
  generalize hAe : va_A (zs_wM cI cZ a (up, (nm, hi, ln, op, wd), (nm2, hi2, ln2, op2, wd2))) s.heap.size = A at hD ⊢
  have hA : ∀ q : Nat, s.heap.size ≤ q → A q := fun q h => by rw [← hAe]; exact Or.inr h
  have hS : va_S A s.heap s.heap [] := va_S.rf
  have hP : va_P (dC, dI) zs_cl [(a 0, .inr (2, [.int (zs_b up), .ref (a 1), .ref (a 2), .ref (a 3), .ref (a 4), .ref (a 5), .ref (a 6), .ref (a 7), .ref (a 8), .ref (a 9), .ref (a 10)])), (a 1, .inl (cI, 24, .inl nm)), (a 2, .inl (cI, 24, .inl hi)), (a 3, .inl (cI, 24, .inl ln)), (a 4, .inl (cZ, 24, .inl op)), (a 5, .inl (cI, 1536, .inl wd)), (a 6, .inl (cI, 24, .inl nm2)), (a 7, .inl (cI, 24, .inl hi2)), (a 8, .inl (cI, 24, .inl ln2)), (a 9, .inl (cZ, 24, .inl op2)), (a 10, .inl (cI, 1536, .inl wd2))] s.heap := hP
  have hD : va_D A [(a 0, .inr (2, [.int (zs_b up), .ref (a 1), .ref (a 2), .ref (a 3), .ref (a 4), .ref (a 5), .ref (a 6), .ref (a 7), .ref (a 8), .ref (a 9), .ref (a 10)])), (a 1, .inl (cI, 24, .inl nm)), (a 2, .inl (cI, 24, .inl hi)), (a 3, .inl (cI, 24, .inl ln)), (a 4, .inl (cZ, 24, .inl op)), (a 5, .inl (cI, 1536, .inl wd)), (a 6, .inl (cI, 24, .inl nm2)), (a 7, .inl (cI, 24, .inl hi2)), (a 8, .inl (cI, 24, .inl ln2)), (a 9, .inl (cZ, 24, .inl op2)), (a 10, .inl (cI, 1536, .inl wd2))] := hD
  have hl := lv_entry ([.ref (a 0), .int o, .int n]) (n := 3) (Nat.le_of_ble_eq_true rfl)
  rw [lg_entry_eq]
  generalize (lg_sl ([.ref (a 0), .int o, .int n]) ++ List.replicate (3 - (lg_sl ([.ref (a 0), .int o, .int n])).length) Slot.unset).toArray = ls at hl ⊢
  have hl : lv_has ls 3 [(0, .ref (a 0)), (1, .int o), (2, .int n)] := hl
  refine lv_aload_n hx hb zd_M_rename_0 rfl (lv_at hl 0 rfl) ?_
  refine lv_iload_n hx hb zd_M_rename_1 rfl (lv_at hl 1 rfl) ?_
  refine zc_rV (rest := []) [.int o] hx hb hml hown hz (zc_M_is l dC dI cI cZ a (up, (nm, hi, ln, op, wd), (nm2, hi2, ln2, op2, wd2)) o) zf_M_is rfl rfl zq_215 zq_216 zq_15 ⟨Nat.le_of_ble_eq_true rfl, Nat.le_of_ble_eq_true rfl⟩ hk (hP.sub [0, 1, 2, 3, 4, 5, 6, 7, 8, 9, 10] rfl) 0 2 rfl rfl rfl rfl hl.1 rfl (Nat.le_of_ble_eq_true rfl) zd_M_rename_2 ⟨Nat.zero_le _, Nat.zero_le _⟩ (fun r1 e2 => ?_)
  obtain rfl : r1 = zs_b (zm_is up nm o) := e2
  refine zi_eq (tgt := 24) hx hb zd_M_rename_5 rfl (fun h3 => ?_) (fun h3 => ?_)
  · refine lv_iconst (v := 0) hx hb zd_M_rename_24 (by decide) ?_
    exact zw_zret (up, (nm, hi, ln, op, wd), (nm2, hi2, ln2, op2, wd2)) hx hb hr hlocks zd_M_rename_25 rfl (show (0, (up, (nm, hi, ln, op, wd), (nm2, hi2, ln2, op2, wd2))) = zm_rename (up, (nm, hi, ln, op, wd), (nm2, hi2, ln2, op2, wd2)) o n from by simp [zm_rename, h3]) hP hD hS
  · obtain ⟨j, hj, rfl, hup, htk⟩ := zm_is_t h3
    refine lv_iload_n hx hb zd_M_rename_8 rfl (lv_at hl 2 rfl) ?_
    refine zc_rS (rest := []) [.int n] hx hb hml hown hz (zc_M_isName l dC dI cI cZ n) zf_M_isName rfl rfl zq_209 zq_210 ⟨Nat.le_of_ble_eq_true rfl, Nat.le_of_ble_eq_true rfl⟩ rfl hl.1 rfl (Nat.le_of_ble_eq_true rfl) zd_M_rename_9 ⟨Nat.zero_le _, Nat.zero_le _⟩ (fun r4 e5 => ?_)
    obtain rfl : r4 = zs_b (zs_nam n) := e5
    refine zi_eq (tgt := 24) hx hb zd_M_rename_12 rfl (fun h6 => ?_) (fun h6 => ?_)
    · refine lv_iconst (v := 0) hx hb zd_M_rename_24 (by decide) ?_
      exact zw_zret (up, (nm, hi, ln, op, wd), (nm2, hi2, ln2, op2, wd2)) hx hb hr hlocks zd_M_rename_25 rfl (show (0, (up, (nm, hi, ln, op, wd), (nm2, hi2, ln2, op2, wd2))) = zm_rename (up, (nm, hi, ln, op, wd), (nm2, hi2, ln2, op2, wd2)) (nI j) n from by simp [zm_rename, h3, nI_clamp (show j < 2 ^ 31 by omega), h6]) hP hD hS
    · refine lv_aload_n hx hb zd_M_rename_15 rfl (lv_at hl 0 rfl) ?_
      refine lv_iload_n hx hb zd_M_rename_16 rfl (lv_at hl 2 rfl) ?_
      refine zc_rV (rest := []) [.int n] hx hb hml hown hz (zc_M_named l dC dI cI cZ a (up, (nm, hi, ln, op, wd), (nm2, hi2, ln2, op2, wd2)) n) zf_M_named rfl rfl zq_212 zq_213 zq_14 ⟨Nat.le_of_ble_eq_true rfl, Nat.le_of_ble_eq_true rfl⟩ hk (hP.sub [0, 1, 2, 3, 4, 5, 6, 7, 8, 9, 10] rfl) 0 2 rfl rfl rfl rfl hl.1 rfl (Nat.le_of_ble_eq_true rfl) zd_M_rename_17 ⟨Nat.zero_le _, Nat.zero_le _⟩ (fun r7 e8 => ?_)
      obtain rfl : r7 = zm_num up nm n 24 0 (-1) := e8
      refine lv_iconst (v := (-1)) hx hb zd_M_rename_20 (by decide) ?_
      refine lv_icmp_eq (tgt := 26) hx hb zd_M_rename_21 rfl (fun h9 => ?_) (fun h9 => ?_)
      · refine lv_aload_n hx hb zd_M_rename_26 rfl (lv_at hl 0 rfl) ?_
        refine va_get (D := (dC, dI)) (ci := 2) (v := .ref (a 1)) (C := "ZoneShelfModel") (T := zs_T_M) (N := 11) hx hb hz zs_in_M hown hk.1 hP 0 rfl rfl 1 (by decide) (hz _ zq_184) (fun _ h9 => h9) rfl zd_M_rename_27 ?_
        refine lv_iload_n hx hb zd_M_rename_30 rfl (lv_at hl 1 rfl) ?_
        refine lv_iload_n hx hb zd_M_rename_31 rfl (lv_at hl 2 rfl) ?_
        refine lv_iconst (v := 1) hx hb zd_M_rename_32 (by decide) ?_
        refine lv_iadd hx hb zd_M_rename_33 ?_
        refine zi_ast hx hb hk hP hD hS 1 (j := j) rfl (by omega) (by decide) zd_M_rename_34 (fun H locs hP hD hS => ?_)
        have hP : va_P (dC, dI) zs_cl [(a 0, .inr (2, [.int (zs_b up), .ref (a 1), .ref (a 2), .ref (a 3), .ref (a 4), .ref (a 5), .ref (a 6), .ref (a 7), .ref (a 8), .ref (a 9), .ref (a 10)])), (a 1, .inl (cI, 24, .inl (upd nm j (n + 1)))), (a 2, .inl (cI, 24, .inl hi)), (a 3, .inl (cI, 24, .inl ln)), (a 4, .inl (cZ, 24, .inl op)), (a 5, .inl (cI, 1536, .inl wd)), (a 6, .inl (cI, 24, .inl nm2)), (a 7, .inl (cI, 24, .inl hi2)), (a 8, .inl (cI, 24, .inl ln2)), (a 9, .inl (cZ, 24, .inl op2)), (a 10, .inl (cI, 1536, .inl wd2))] H := hP
        have hD : va_D A [(a 0, .inr (2, [.int (zs_b up), .ref (a 1), .ref (a 2), .ref (a 3), .ref (a 4), .ref (a 5), .ref (a 6), .ref (a 7), .ref (a 8), .ref (a 9), .ref (a 10)])), (a 1, .inl (cI, 24, .inl (upd nm j (n + 1)))), (a 2, .inl (cI, 24, .inl hi)), (a 3, .inl (cI, 24, .inl ln)), (a 4, .inl (cZ, 24, .inl op)), (a 5, .inl (cI, 1536, .inl wd)), (a 6, .inl (cI, 24, .inl nm2)), (a 7, .inl (cI, 24, .inl hi2)), (a 8, .inl (cI, 24, .inl ln2)), (a 9, .inl (cZ, 24, .inl op2)), (a 10, .inl (cI, 1536, .inl wd2))] := hD
        refine lv_iconst (v := 1) hx hb zd_M_rename_35 (by decide) ?_
        exact zw_zret (up, (upd nm j (n + 1), hi, ln, op, wd), (nm2, hi2, ln2, op2, wd2)) hx hb hr hlocks zd_M_rename_36 rfl (show (1, (up, (upd nm j (n + 1), hi, ln, op, wd), (nm2, hi2, ln2, op2, wd2))) = zm_rename (up, (nm, hi, ln, op, wd), (nm2, hi2, ln2, op2, wd2)) (nI j) n from by simp [zm_rename, h3, nI_clamp (show j < 2 ^ 31 by omega), h6, h9]) hP hD hS
      · refine lv_iconst (v := 0) hx hb zd_M_rename_24 (by decide) ?_
        exact zw_zret (up, (nm, hi, ln, op, wd), (nm2, hi2, ln2, op2, wd2)) hx hb hr hlocks zd_M_rename_25 rfl (show (0, (up, (nm, hi, ln, op, wd), (nm2, hi2, ln2, op2, wd2))) = zm_rename (up, (nm, hi, ln, op, wd), (nm2, hi2, ln2, op2, wd2)) (nI j) n from by simp [zm_rename, h3, nI_clamp (show j < 2 ^ 31 by omega), h6, h9]) hP hD hS
set_option maxHeartbeats 4000000 in
set_option maxRecDepth 100000 in
theorem zc_M_sync (l : Launch) (dC : Nat → ClassId) (dI : Nat → Nat → Nat) (cI cZ : ClassId) (a : Nat → Nat) (u : zs_X) (sz : Nat)  : Met l zy_M_sync (.code zy_M_sync zb_M_sync 2 (some .boolean) :: zs_w) ({ frames := 0, cells := 0, slots := 0, locals := 0 }) (va_Pc [.ref (a 0)] (zs_s dC dI cI cZ sz (zs_wM cI cZ a u))) (va_Qi (fun r (v : zs_X) => (r, v) = zm_sync u) (zs_e dC dI (zs_wM cI cZ a) (va_A (zs_wM cI cZ a u) sz)) (va_A (zs_wM cI cZ a u) sz)) 0 0 (va_A (zs_wM cI cZ a u) sz) := by
  obtain ⟨up, ⟨nm, hi, ln, op, wd⟩, ⟨nm2, hi2, ln2, op2, wd2⟩⟩ := u
  refine Met.ofW (cc := zb_M_sync) (maxL := 2) (ret := (some .boolean)) (by decide) rfl ?_
  intro p e s m args below meth c s₁ B hml hv
  obtain ⟨rfl, hsz, hP, hk, hD0⟩ := hv
  have hx := B.exec
  have hb := B.bytes
  have hr := B.returns
  have hts := atoms_spec (ws := .code zy_M_sync zb_M_sync 2 (some .boolean) :: zs_w) B.pre
  have hz : ∀ w ∈ zs_w, w.before _ s = true := fun w h => hts w (List.mem_cons_of_mem _ h)
  have hown : s.vm.findClass "ZoneShelfModel" = some m.cls := findClass_of_methodNamed B.named
  have hlocks := B.notSynchronized
  subst hsz
  have hD := hD0.self (sz := s.heap.size)
  generalize hAe : va_A (zs_wM cI cZ a (up, (nm, hi, ln, op, wd), (nm2, hi2, ln2, op2, wd2))) s.heap.size = A at hD ⊢
  have hA : ∀ q : Nat, s.heap.size ≤ q → A q := fun q h => by rw [← hAe]; exact Or.inr h
  have hS : va_S A s.heap s.heap [] := va_S.rf
  have hP : va_P (dC, dI) zs_cl [(a 0, .inr (2, [.int (zs_b up), .ref (a 1), .ref (a 2), .ref (a 3), .ref (a 4), .ref (a 5), .ref (a 6), .ref (a 7), .ref (a 8), .ref (a 9), .ref (a 10)])), (a 1, .inl (cI, 24, .inl nm)), (a 2, .inl (cI, 24, .inl hi)), (a 3, .inl (cI, 24, .inl ln)), (a 4, .inl (cZ, 24, .inl op)), (a 5, .inl (cI, 1536, .inl wd)), (a 6, .inl (cI, 24, .inl nm2)), (a 7, .inl (cI, 24, .inl hi2)), (a 8, .inl (cI, 24, .inl ln2)), (a 9, .inl (cZ, 24, .inl op2)), (a 10, .inl (cI, 1536, .inl wd2))] s.heap := hP
  have hD : va_D A [(a 0, .inr (2, [.int (zs_b up), .ref (a 1), .ref (a 2), .ref (a 3), .ref (a 4), .ref (a 5), .ref (a 6), .ref (a 7), .ref (a 8), .ref (a 9), .ref (a 10)])), (a 1, .inl (cI, 24, .inl nm)), (a 2, .inl (cI, 24, .inl hi)), (a 3, .inl (cI, 24, .inl ln)), (a 4, .inl (cZ, 24, .inl op)), (a 5, .inl (cI, 1536, .inl wd)), (a 6, .inl (cI, 24, .inl nm2)), (a 7, .inl (cI, 24, .inl hi2)), (a 8, .inl (cI, 24, .inl ln2)), (a 9, .inl (cZ, 24, .inl op2)), (a 10, .inl (cI, 1536, .inl wd2))] := hD
  have hl := lv_entry ([.ref (a 0)]) (n := 2) (Nat.le_of_ble_eq_true rfl)
  rw [lg_entry_eq]
  generalize (lg_sl ([.ref (a 0)]) ++ List.replicate (2 - (lg_sl ([.ref (a 0)])).length) Slot.unset).toArray = ls at hl ⊢
  have hl : lv_has ls 2 [(0, .ref (a 0))] := hl
  refine lv_aload_n hx hb zd_M_sync_0 rfl (lv_at hl 0 rfl) ?_
  refine va_get (D := (dC, dI)) (ci := 2) (v := .int (zs_b up)) (C := "ZoneShelfModel") (T := zs_T_M) (N := 11) hx hb hz zs_in_M hown hk.1 hP 0 rfl rfl 0 (by decide) (hz _ zq_183) (fun _ h9 => h9) rfl zd_M_sync_1 ?_
  refine zi_ne (tgt := 9) hx hb zd_M_sync_4 rfl (fun h1 => ?_) (fun h1 => ?_)
  · subst h1
    refine lv_iconst (v := 0) hx hb zd_M_sync_9 (by decide) ?_
    refine lv_istore_n (lv' := [(1, .int 0), (0, .ref (a 0))]) hx hb zd_M_sync_10 rfl hl (by decide) rfl (fun ls hl => ?_)
    refine zl_w (N := 24) (α := Unit) (fun kk ii xx ls H locs => lv_has ls 2 [(1, .int (nI ii)), (0, .ref (a 0))] ∧ va_P (dC, dI) zs_cl [(a 0, .inr (2, [.int (zs_b true), .ref (a 1), .ref (a 2), .ref (a 3), .ref (a 4), .ref (a 5), .ref (a 6), .ref (a 7), .ref (a 8), .ref (a 9), .ref (a 10)])), (a 1, .inl (cI, 24, .inl nm)), (a 2, .inl (cI, 24, .inl hi)), (a 3, .inl (cI, 24, .inl ln)), (a 4, .inl (cZ, 24, .inl op)), (a 5, .inl (cI, 1536, .inl wd)), (a 6, .inl (cI, 24, .inl (zs_cp nm nm2 ii))), (a 7, .inl (cI, 24, .inl (zs_cp hi hi2 ii))), (a 8, .inl (cI, 24, .inl (zs_cp ln ln2 ii))), (a 9, .inl (cZ, 24, .inl (zs_cz op op2 ii))), (a 10, .inl (cI, 1536, .inl wd2))] H ∧ va_D A [(a 0, .inr (2, [.int (zs_b true), .ref (a 1), .ref (a 2), .ref (a 3), .ref (a 4), .ref (a 5), .ref (a 6), .ref (a 7), .ref (a 8), .ref (a 9), .ref (a 10)])), (a 1, .inl (cI, 24, .inl nm)), (a 2, .inl (cI, 24, .inl hi)), (a 3, .inl (cI, 24, .inl ln)), (a 4, .inl (cZ, 24, .inl op)), (a 5, .inl (cI, 1536, .inl wd)), (a 6, .inl (cI, 24, .inl (zs_cp nm nm2 ii))), (a 7, .inl (cI, 24, .inl (zs_cp hi hi2 ii))), (a 8, .inl (cI, 24, .inl (zs_cp ln ln2 ii))), (a 9, .inl (cZ, 24, .inl (zs_cz op op2 ii))), (a 10, .inl (cI, 1536, .inl wd2))] ∧ va_S A s.heap H locs) (fun k1 i1 x1 ls H locs e1 hv ih1 => ?_) (fun x1 ls H locs hv => ?_) 24 0 () ls s.heap _ rfl ⟨lv_sub hl [0, 1] rfl, by rw [zs_cp_0, zs_cp_0, zs_cp_0, zs_cz_0]; exact hP, by rw [zs_cp_0, zs_cp_0, zs_cp_0, zs_cz_0]; exact hD, hS⟩
    · obtain ⟨hl, hP, hD, hS⟩ := hv
      have hl : lv_has ls 2 [(1, .int (nI i1)), (0, .ref (a 0))] := hl
      have hP : va_P (dC, dI) zs_cl [(a 0, .inr (2, [.int (zs_b true), .ref (a 1), .ref (a 2), .ref (a 3), .ref (a 4), .ref (a 5), .ref (a 6), .ref (a 7), .ref (a 8), .ref (a 9), .ref (a 10)])), (a 1, .inl (cI, 24, .inl nm)), (a 2, .inl (cI, 24, .inl hi)), (a 3, .inl (cI, 24, .inl ln)), (a 4, .inl (cZ, 24, .inl op)), (a 5, .inl (cI, 1536, .inl wd)), (a 6, .inl (cI, 24, .inl (zs_cp nm nm2 i1))), (a 7, .inl (cI, 24, .inl (zs_cp hi hi2 i1))), (a 8, .inl (cI, 24, .inl (zs_cp ln ln2 i1))), (a 9, .inl (cZ, 24, .inl (zs_cz op op2 i1))), (a 10, .inl (cI, 1536, .inl wd2))] H := hP
      have hD : va_D A [(a 0, .inr (2, [.int (zs_b true), .ref (a 1), .ref (a 2), .ref (a 3), .ref (a 4), .ref (a 5), .ref (a 6), .ref (a 7), .ref (a 8), .ref (a 9), .ref (a 10)])), (a 1, .inl (cI, 24, .inl nm)), (a 2, .inl (cI, 24, .inl hi)), (a 3, .inl (cI, 24, .inl ln)), (a 4, .inl (cZ, 24, .inl op)), (a 5, .inl (cI, 1536, .inl wd)), (a 6, .inl (cI, 24, .inl (zs_cp nm nm2 i1))), (a 7, .inl (cI, 24, .inl (zs_cp hi hi2 i1))), (a 8, .inl (cI, 24, .inl (zs_cp ln ln2 i1))), (a 9, .inl (cZ, 24, .inl (zs_cz op op2 i1))), (a 10, .inl (cI, 1536, .inl wd2))] := hD
      have hlt1 : i1 < 24 := by omega
      refine lv_iload_n hx hb zd_M_sync_11 rfl (lv_at hl 0 rfl) ?_
      refine lv_bipush (v := 24) hx hb zd_M_sync_12 (by decide) ?_
      refine zj_in (tgt := 71) (n := 24) hx hb zd_M_sync_14 rfl (by decide) hlt1 (by decide) ?_
      refine lv_aload_n hx hb zd_M_sync_17 rfl (lv_at hl 1 rfl) ?_
      refine va_get (D := (dC, dI)) (ci := 2) (v := .ref (a 6)) (C := "ZoneShelfModel") (T := zs_T_M) (N := 11) hx hb hz zs_in_M hown hk.1 hP 0 rfl rfl 6 (by decide) (hz _ zq_189) (fun _ h9 => h9) rfl zd_M_sync_18 ?_
      refine lv_iload_n hx hb zd_M_sync_21 rfl (lv_at hl 0 rfl) ?_
      refine lv_aload_n hx hb zd_M_sync_22 rfl (lv_at hl 1 rfl) ?_
      refine va_get (D := (dC, dI)) (ci := 2) (v := .ref (a 1)) (C := "ZoneShelfModel") (T := zs_T_M) (N := 11) hx hb hz zs_in_M hown hk.1 hP 0 rfl rfl 1 (by decide) (hz _ zq_184) (fun _ h9 => h9) rfl zd_M_sync_23 ?_
      refine lv_iload_n hx hb zd_M_sync_26 rfl (lv_at hl 0 rfl) ?_
      refine zi_ald hx hb hk hP 1 (j := i1) rfl (by omega) (by decide) zd_M_sync_27 ?_
      refine zi_ast hx hb hk hP hD hS 6 (j := i1) rfl (by omega) (by decide) zd_M_sync_28 (fun H locs hP hD hS => ?_)
      have hP : va_P (dC, dI) zs_cl [(a 0, .inr (2, [.int (zs_b true), .ref (a 1), .ref (a 2), .ref (a 3), .ref (a 4), .ref (a 5), .ref (a 6), .ref (a 7), .ref (a 8), .ref (a 9), .ref (a 10)])), (a 1, .inl (cI, 24, .inl nm)), (a 2, .inl (cI, 24, .inl hi)), (a 3, .inl (cI, 24, .inl ln)), (a 4, .inl (cZ, 24, .inl op)), (a 5, .inl (cI, 1536, .inl wd)), (a 6, .inl (cI, 24, .inl (upd (zs_cp nm nm2 i1) i1 (nm i1)))), (a 7, .inl (cI, 24, .inl (zs_cp hi hi2 i1))), (a 8, .inl (cI, 24, .inl (zs_cp ln ln2 i1))), (a 9, .inl (cZ, 24, .inl (zs_cz op op2 i1))), (a 10, .inl (cI, 1536, .inl wd2))] H := hP
      have hD : va_D A [(a 0, .inr (2, [.int (zs_b true), .ref (a 1), .ref (a 2), .ref (a 3), .ref (a 4), .ref (a 5), .ref (a 6), .ref (a 7), .ref (a 8), .ref (a 9), .ref (a 10)])), (a 1, .inl (cI, 24, .inl nm)), (a 2, .inl (cI, 24, .inl hi)), (a 3, .inl (cI, 24, .inl ln)), (a 4, .inl (cZ, 24, .inl op)), (a 5, .inl (cI, 1536, .inl wd)), (a 6, .inl (cI, 24, .inl (upd (zs_cp nm nm2 i1) i1 (nm i1)))), (a 7, .inl (cI, 24, .inl (zs_cp hi hi2 i1))), (a 8, .inl (cI, 24, .inl (zs_cp ln ln2 i1))), (a 9, .inl (cZ, 24, .inl (zs_cz op op2 i1))), (a 10, .inl (cI, 1536, .inl wd2))] := hD
      refine lv_aload_n hx hb zd_M_sync_29 rfl (lv_at hl 1 rfl) ?_
      refine va_get (D := (dC, dI)) (ci := 2) (v := .ref (a 7)) (C := "ZoneShelfModel") (T := zs_T_M) (N := 11) hx hb hz zs_in_M hown hk.1 hP 0 rfl rfl 7 (by decide) (hz _ zq_190) (fun _ h9 => h9) rfl zd_M_sync_30 ?_
      refine lv_iload_n hx hb zd_M_sync_33 rfl (lv_at hl 0 rfl) ?_
      refine lv_aload_n hx hb zd_M_sync_34 rfl (lv_at hl 1 rfl) ?_
      refine va_get (D := (dC, dI)) (ci := 2) (v := .ref (a 2)) (C := "ZoneShelfModel") (T := zs_T_M) (N := 11) hx hb hz zs_in_M hown hk.1 hP 0 rfl rfl 2 (by decide) (hz _ zq_185) (fun _ h9 => h9) rfl zd_M_sync_35 ?_
      refine lv_iload_n hx hb zd_M_sync_38 rfl (lv_at hl 0 rfl) ?_
      refine zi_ald hx hb hk hP 2 (j := i1) rfl (by omega) (by decide) zd_M_sync_39 ?_
      refine zi_ast hx hb hk hP hD hS 7 (j := i1) rfl (by omega) (by decide) zd_M_sync_40 (fun H locs hP hD hS => ?_)
      have hP : va_P (dC, dI) zs_cl [(a 0, .inr (2, [.int (zs_b true), .ref (a 1), .ref (a 2), .ref (a 3), .ref (a 4), .ref (a 5), .ref (a 6), .ref (a 7), .ref (a 8), .ref (a 9), .ref (a 10)])), (a 1, .inl (cI, 24, .inl nm)), (a 2, .inl (cI, 24, .inl hi)), (a 3, .inl (cI, 24, .inl ln)), (a 4, .inl (cZ, 24, .inl op)), (a 5, .inl (cI, 1536, .inl wd)), (a 6, .inl (cI, 24, .inl (upd (zs_cp nm nm2 i1) i1 (nm i1)))), (a 7, .inl (cI, 24, .inl (upd (zs_cp hi hi2 i1) i1 (hi i1)))), (a 8, .inl (cI, 24, .inl (zs_cp ln ln2 i1))), (a 9, .inl (cZ, 24, .inl (zs_cz op op2 i1))), (a 10, .inl (cI, 1536, .inl wd2))] H := hP
      have hD : va_D A [(a 0, .inr (2, [.int (zs_b true), .ref (a 1), .ref (a 2), .ref (a 3), .ref (a 4), .ref (a 5), .ref (a 6), .ref (a 7), .ref (a 8), .ref (a 9), .ref (a 10)])), (a 1, .inl (cI, 24, .inl nm)), (a 2, .inl (cI, 24, .inl hi)), (a 3, .inl (cI, 24, .inl ln)), (a 4, .inl (cZ, 24, .inl op)), (a 5, .inl (cI, 1536, .inl wd)), (a 6, .inl (cI, 24, .inl (upd (zs_cp nm nm2 i1) i1 (nm i1)))), (a 7, .inl (cI, 24, .inl (upd (zs_cp hi hi2 i1) i1 (hi i1)))), (a 8, .inl (cI, 24, .inl (zs_cp ln ln2 i1))), (a 9, .inl (cZ, 24, .inl (zs_cz op op2 i1))), (a 10, .inl (cI, 1536, .inl wd2))] := hD
      refine lv_aload_n hx hb zd_M_sync_41 rfl (lv_at hl 1 rfl) ?_
      refine va_get (D := (dC, dI)) (ci := 2) (v := .ref (a 8)) (C := "ZoneShelfModel") (T := zs_T_M) (N := 11) hx hb hz zs_in_M hown hk.1 hP 0 rfl rfl 8 (by decide) (hz _ zq_191) (fun _ h9 => h9) rfl zd_M_sync_42 ?_
      refine lv_iload_n hx hb zd_M_sync_45 rfl (lv_at hl 0 rfl) ?_
      refine lv_aload_n hx hb zd_M_sync_46 rfl (lv_at hl 1 rfl) ?_
      refine va_get (D := (dC, dI)) (ci := 2) (v := .ref (a 3)) (C := "ZoneShelfModel") (T := zs_T_M) (N := 11) hx hb hz zs_in_M hown hk.1 hP 0 rfl rfl 3 (by decide) (hz _ zq_186) (fun _ h9 => h9) rfl zd_M_sync_47 ?_
      refine lv_iload_n hx hb zd_M_sync_50 rfl (lv_at hl 0 rfl) ?_
      refine zi_ald hx hb hk hP 3 (j := i1) rfl (by omega) (by decide) zd_M_sync_51 ?_
      refine zi_ast hx hb hk hP hD hS 8 (j := i1) rfl (by omega) (by decide) zd_M_sync_52 (fun H locs hP hD hS => ?_)
      have hP : va_P (dC, dI) zs_cl [(a 0, .inr (2, [.int (zs_b true), .ref (a 1), .ref (a 2), .ref (a 3), .ref (a 4), .ref (a 5), .ref (a 6), .ref (a 7), .ref (a 8), .ref (a 9), .ref (a 10)])), (a 1, .inl (cI, 24, .inl nm)), (a 2, .inl (cI, 24, .inl hi)), (a 3, .inl (cI, 24, .inl ln)), (a 4, .inl (cZ, 24, .inl op)), (a 5, .inl (cI, 1536, .inl wd)), (a 6, .inl (cI, 24, .inl (upd (zs_cp nm nm2 i1) i1 (nm i1)))), (a 7, .inl (cI, 24, .inl (upd (zs_cp hi hi2 i1) i1 (hi i1)))), (a 8, .inl (cI, 24, .inl (upd (zs_cp ln ln2 i1) i1 (ln i1)))), (a 9, .inl (cZ, 24, .inl (zs_cz op op2 i1))), (a 10, .inl (cI, 1536, .inl wd2))] H := hP
      have hD : va_D A [(a 0, .inr (2, [.int (zs_b true), .ref (a 1), .ref (a 2), .ref (a 3), .ref (a 4), .ref (a 5), .ref (a 6), .ref (a 7), .ref (a 8), .ref (a 9), .ref (a 10)])), (a 1, .inl (cI, 24, .inl nm)), (a 2, .inl (cI, 24, .inl hi)), (a 3, .inl (cI, 24, .inl ln)), (a 4, .inl (cZ, 24, .inl op)), (a 5, .inl (cI, 1536, .inl wd)), (a 6, .inl (cI, 24, .inl (upd (zs_cp nm nm2 i1) i1 (nm i1)))), (a 7, .inl (cI, 24, .inl (upd (zs_cp hi hi2 i1) i1 (hi i1)))), (a 8, .inl (cI, 24, .inl (upd (zs_cp ln ln2 i1) i1 (ln i1)))), (a 9, .inl (cZ, 24, .inl (zs_cz op op2 i1))), (a 10, .inl (cI, 1536, .inl wd2))] := hD
      refine lv_aload_n hx hb zd_M_sync_53 rfl (lv_at hl 1 rfl) ?_
      refine va_get (D := (dC, dI)) (ci := 2) (v := .ref (a 9)) (C := "ZoneShelfModel") (T := zs_T_M) (N := 11) hx hb hz zs_in_M hown hk.1 hP 0 rfl rfl 9 (by decide) (hz _ zq_192) (fun _ h9 => h9) rfl zd_M_sync_54 ?_
      refine lv_iload_n hx hb zd_M_sync_57 rfl (lv_at hl 0 rfl) ?_
      refine lv_aload_n hx hb zd_M_sync_58 rfl (lv_at hl 1 rfl) ?_
      refine va_get (D := (dC, dI)) (ci := 2) (v := .ref (a 4)) (C := "ZoneShelfModel") (T := zs_T_M) (N := 11) hx hb hz zs_in_M hown hk.1 hP 0 rfl rfl 4 (by decide) (hz _ zq_187) (fun _ h9 => h9) rfl zd_M_sync_59 ?_
      refine lv_iload_n hx hb zd_M_sync_62 rfl (lv_at hl 0 rfl) ?_
      refine zi_zld hx hb hk hP 4 (j := i1) rfl (by omega) (by decide) zd_M_sync_63 ?_
      refine zi_zst hx hb hk hP hD hS 9 (j := i1) rfl (by omega) (by decide) zd_M_sync_64 (fun H locs hP hD hS => ?_)
      have hP : va_P (dC, dI) zs_cl [(a 0, .inr (2, [.int (zs_b true), .ref (a 1), .ref (a 2), .ref (a 3), .ref (a 4), .ref (a 5), .ref (a 6), .ref (a 7), .ref (a 8), .ref (a 9), .ref (a 10)])), (a 1, .inl (cI, 24, .inl nm)), (a 2, .inl (cI, 24, .inl hi)), (a 3, .inl (cI, 24, .inl ln)), (a 4, .inl (cZ, 24, .inl op)), (a 5, .inl (cI, 1536, .inl wd)), (a 6, .inl (cI, 24, .inl (upd (zs_cp nm nm2 i1) i1 (nm i1)))), (a 7, .inl (cI, 24, .inl (upd (zs_cp hi hi2 i1) i1 (hi i1)))), (a 8, .inl (cI, 24, .inl (upd (zs_cp ln ln2 i1) i1 (ln i1)))), (a 9, .inl (cZ, 24, .inl (upd (zs_cz op op2 i1) i1 (vp_nar .boolean (op i1))))), (a 10, .inl (cI, 1536, .inl wd2))] H := hP
      have hD : va_D A [(a 0, .inr (2, [.int (zs_b true), .ref (a 1), .ref (a 2), .ref (a 3), .ref (a 4), .ref (a 5), .ref (a 6), .ref (a 7), .ref (a 8), .ref (a 9), .ref (a 10)])), (a 1, .inl (cI, 24, .inl nm)), (a 2, .inl (cI, 24, .inl hi)), (a 3, .inl (cI, 24, .inl ln)), (a 4, .inl (cZ, 24, .inl op)), (a 5, .inl (cI, 1536, .inl wd)), (a 6, .inl (cI, 24, .inl (upd (zs_cp nm nm2 i1) i1 (nm i1)))), (a 7, .inl (cI, 24, .inl (upd (zs_cp hi hi2 i1) i1 (hi i1)))), (a 8, .inl (cI, 24, .inl (upd (zs_cp ln ln2 i1) i1 (ln i1)))), (a 9, .inl (cZ, 24, .inl (upd (zs_cz op op2 i1) i1 (vp_nar .boolean (op i1))))), (a 10, .inl (cI, 1536, .inl wd2))] := hD
      refine lv_iinc (k := 0) (v := nI (i1 + 1)) (lv' := [(1, .int (nI (i1 + 1))), (0, .ref (a 0))]) hx hb zd_M_sync_65 hl rfl (zs_inc _) (by decide) rfl (fun ls hl => ?_)
      refine lv_goto (tgt := 11) hx hb zd_M_sync_68 rfl ?_
      rw [zs_cp_s nm nm2 i1, zs_cp_s hi hi2 i1, zs_cp_s ln ln2 i1, zs_cz_s op op2 i1] at hP hD
      exact ih1 () ls H locs ⟨lv_sub hl [0, 1] rfl, hP, hD, hS⟩
    · obtain ⟨hl, hP, hD, hS⟩ := hv
      have hl : lv_has ls 2 [(1, .int (nI 24)), (0, .ref (a 0))] := hl
      have hP : va_P (dC, dI) zs_cl [(a 0, .inr (2, [.int (zs_b true), .ref (a 1), .ref (a 2), .ref (a 3), .ref (a 4), .ref (a 5), .ref (a 6), .ref (a 7), .ref (a 8), .ref (a 9), .ref (a 10)])), (a 1, .inl (cI, 24, .inl nm)), (a 2, .inl (cI, 24, .inl hi)), (a 3, .inl (cI, 24, .inl ln)), (a 4, .inl (cZ, 24, .inl op)), (a 5, .inl (cI, 1536, .inl wd)), (a 6, .inl (cI, 24, .inl (zs_cp nm nm2 24))), (a 7, .inl (cI, 24, .inl (zs_cp hi hi2 24))), (a 8, .inl (cI, 24, .inl (zs_cp ln ln2 24))), (a 9, .inl (cZ, 24, .inl (zs_cz op op2 24))), (a 10, .inl (cI, 1536, .inl wd2))] H := hP
      have hD : va_D A [(a 0, .inr (2, [.int (zs_b true), .ref (a 1), .ref (a 2), .ref (a 3), .ref (a 4), .ref (a 5), .ref (a 6), .ref (a 7), .ref (a 8), .ref (a 9), .ref (a 10)])), (a 1, .inl (cI, 24, .inl nm)), (a 2, .inl (cI, 24, .inl hi)), (a 3, .inl (cI, 24, .inl ln)), (a 4, .inl (cZ, 24, .inl op)), (a 5, .inl (cI, 1536, .inl wd)), (a 6, .inl (cI, 24, .inl (zs_cp nm nm2 24))), (a 7, .inl (cI, 24, .inl (zs_cp hi hi2 24))), (a 8, .inl (cI, 24, .inl (zs_cp ln ln2 24))), (a 9, .inl (cZ, 24, .inl (zs_cz op op2 24))), (a 10, .inl (cI, 1536, .inl wd2))] := hD
      refine lv_iload_n hx hb zd_M_sync_11 rfl (lv_at hl 0 rfl) ?_
      refine lv_bipush (v := 24) hx hb zd_M_sync_12 (by decide) ?_
      refine zj_out (tgt := 71) (n := 24) (i := 24) hx hb zd_M_sync_14 rfl (by decide) (Nat.le_refl _) (by decide) ?_
      refine lv_iconst (v := 0) hx hb zd_M_sync_71 (by decide) ?_
      refine lv_istore_n (lv' := [(1, .int 0), (0, .ref (a 0))]) hx hb zd_M_sync_72 rfl hl (by decide) rfl (fun ls hl => ?_)
      refine zl_w (N := 1536) (α := Unit) (fun kk ii xx ls H locs => lv_has ls 2 [(1, .int (nI ii)), (0, .ref (a 0))] ∧ va_P (dC, dI) zs_cl [(a 0, .inr (2, [.int (zs_b true), .ref (a 1), .ref (a 2), .ref (a 3), .ref (a 4), .ref (a 5), .ref (a 6), .ref (a 7), .ref (a 8), .ref (a 9), .ref (a 10)])), (a 1, .inl (cI, 24, .inl nm)), (a 2, .inl (cI, 24, .inl hi)), (a 3, .inl (cI, 24, .inl ln)), (a 4, .inl (cZ, 24, .inl op)), (a 5, .inl (cI, 1536, .inl wd)), (a 6, .inl (cI, 24, .inl (zs_cp nm nm2 24))), (a 7, .inl (cI, 24, .inl (zs_cp hi hi2 24))), (a 8, .inl (cI, 24, .inl (zs_cp ln ln2 24))), (a 9, .inl (cZ, 24, .inl (zs_cz op op2 24))), (a 10, .inl (cI, 1536, .inl (zs_cp wd wd2 ii)))] H ∧ va_D A [(a 0, .inr (2, [.int (zs_b true), .ref (a 1), .ref (a 2), .ref (a 3), .ref (a 4), .ref (a 5), .ref (a 6), .ref (a 7), .ref (a 8), .ref (a 9), .ref (a 10)])), (a 1, .inl (cI, 24, .inl nm)), (a 2, .inl (cI, 24, .inl hi)), (a 3, .inl (cI, 24, .inl ln)), (a 4, .inl (cZ, 24, .inl op)), (a 5, .inl (cI, 1536, .inl wd)), (a 6, .inl (cI, 24, .inl (zs_cp nm nm2 24))), (a 7, .inl (cI, 24, .inl (zs_cp hi hi2 24))), (a 8, .inl (cI, 24, .inl (zs_cp ln ln2 24))), (a 9, .inl (cZ, 24, .inl (zs_cz op op2 24))), (a 10, .inl (cI, 1536, .inl (zs_cp wd wd2 ii)))] ∧ va_S A s.heap H locs) (fun k2 i2 x2 ls H locs e2 hv ih2 => ?_) (fun x2 ls H locs hv => ?_) 1536 0 () ls H _ rfl ⟨lv_sub hl [0, 1] rfl, by rw [zs_cp_0]; exact hP, by rw [zs_cp_0]; exact hD, hS⟩
      · obtain ⟨hl, hP, hD, hS⟩ := hv
        have hl : lv_has ls 2 [(1, .int (nI i2)), (0, .ref (a 0))] := hl
        have hP : va_P (dC, dI) zs_cl [(a 0, .inr (2, [.int (zs_b true), .ref (a 1), .ref (a 2), .ref (a 3), .ref (a 4), .ref (a 5), .ref (a 6), .ref (a 7), .ref (a 8), .ref (a 9), .ref (a 10)])), (a 1, .inl (cI, 24, .inl nm)), (a 2, .inl (cI, 24, .inl hi)), (a 3, .inl (cI, 24, .inl ln)), (a 4, .inl (cZ, 24, .inl op)), (a 5, .inl (cI, 1536, .inl wd)), (a 6, .inl (cI, 24, .inl (zs_cp nm nm2 24))), (a 7, .inl (cI, 24, .inl (zs_cp hi hi2 24))), (a 8, .inl (cI, 24, .inl (zs_cp ln ln2 24))), (a 9, .inl (cZ, 24, .inl (zs_cz op op2 24))), (a 10, .inl (cI, 1536, .inl (zs_cp wd wd2 i2)))] H := hP
        have hD : va_D A [(a 0, .inr (2, [.int (zs_b true), .ref (a 1), .ref (a 2), .ref (a 3), .ref (a 4), .ref (a 5), .ref (a 6), .ref (a 7), .ref (a 8), .ref (a 9), .ref (a 10)])), (a 1, .inl (cI, 24, .inl nm)), (a 2, .inl (cI, 24, .inl hi)), (a 3, .inl (cI, 24, .inl ln)), (a 4, .inl (cZ, 24, .inl op)), (a 5, .inl (cI, 1536, .inl wd)), (a 6, .inl (cI, 24, .inl (zs_cp nm nm2 24))), (a 7, .inl (cI, 24, .inl (zs_cp hi hi2 24))), (a 8, .inl (cI, 24, .inl (zs_cp ln ln2 24))), (a 9, .inl (cZ, 24, .inl (zs_cz op op2 24))), (a 10, .inl (cI, 1536, .inl (zs_cp wd wd2 i2)))] := hD
        have hlt2 : i2 < 1536 := by omega
        refine lv_iload_n hx hb zd_M_sync_73 rfl (lv_at hl 0 rfl) ?_
        refine lv_sipush (v := 1536) hx hb zd_M_sync_74 (by decide) ?_
        refine zj_in (tgt := 98) (n := 1536) hx hb zd_M_sync_77 rfl (by decide) hlt2 (by decide) ?_
        refine lv_aload_n hx hb zd_M_sync_80 rfl (lv_at hl 1 rfl) ?_
        refine va_get (D := (dC, dI)) (ci := 2) (v := .ref (a 10)) (C := "ZoneShelfModel") (T := zs_T_M) (N := 11) hx hb hz zs_in_M hown hk.1 hP 0 rfl rfl 10 (by decide) (hz _ zq_193) (fun _ h9 => h9) rfl zd_M_sync_81 ?_
        refine lv_iload_n hx hb zd_M_sync_84 rfl (lv_at hl 0 rfl) ?_
        refine lv_aload_n hx hb zd_M_sync_85 rfl (lv_at hl 1 rfl) ?_
        refine va_get (D := (dC, dI)) (ci := 2) (v := .ref (a 5)) (C := "ZoneShelfModel") (T := zs_T_M) (N := 11) hx hb hz zs_in_M hown hk.1 hP 0 rfl rfl 5 (by decide) (hz _ zq_188) (fun _ h9 => h9) rfl zd_M_sync_86 ?_
        refine lv_iload_n hx hb zd_M_sync_89 rfl (lv_at hl 0 rfl) ?_
        refine zi_ald hx hb hk hP 5 (j := i2) rfl (by omega) (by decide) zd_M_sync_90 ?_
        refine zi_ast hx hb hk hP hD hS 10 (j := i2) rfl (by omega) (by decide) zd_M_sync_91 (fun H locs hP hD hS => ?_)
        have hP : va_P (dC, dI) zs_cl [(a 0, .inr (2, [.int (zs_b true), .ref (a 1), .ref (a 2), .ref (a 3), .ref (a 4), .ref (a 5), .ref (a 6), .ref (a 7), .ref (a 8), .ref (a 9), .ref (a 10)])), (a 1, .inl (cI, 24, .inl nm)), (a 2, .inl (cI, 24, .inl hi)), (a 3, .inl (cI, 24, .inl ln)), (a 4, .inl (cZ, 24, .inl op)), (a 5, .inl (cI, 1536, .inl wd)), (a 6, .inl (cI, 24, .inl (zs_cp nm nm2 24))), (a 7, .inl (cI, 24, .inl (zs_cp hi hi2 24))), (a 8, .inl (cI, 24, .inl (zs_cp ln ln2 24))), (a 9, .inl (cZ, 24, .inl (zs_cz op op2 24))), (a 10, .inl (cI, 1536, .inl (upd (zs_cp wd wd2 i2) i2 (wd i2))))] H := hP
        have hD : va_D A [(a 0, .inr (2, [.int (zs_b true), .ref (a 1), .ref (a 2), .ref (a 3), .ref (a 4), .ref (a 5), .ref (a 6), .ref (a 7), .ref (a 8), .ref (a 9), .ref (a 10)])), (a 1, .inl (cI, 24, .inl nm)), (a 2, .inl (cI, 24, .inl hi)), (a 3, .inl (cI, 24, .inl ln)), (a 4, .inl (cZ, 24, .inl op)), (a 5, .inl (cI, 1536, .inl wd)), (a 6, .inl (cI, 24, .inl (zs_cp nm nm2 24))), (a 7, .inl (cI, 24, .inl (zs_cp hi hi2 24))), (a 8, .inl (cI, 24, .inl (zs_cp ln ln2 24))), (a 9, .inl (cZ, 24, .inl (zs_cz op op2 24))), (a 10, .inl (cI, 1536, .inl (upd (zs_cp wd wd2 i2) i2 (wd i2))))] := hD
        refine lv_iinc (k := 0) (v := nI (i2 + 1)) (lv' := [(1, .int (nI (i2 + 1))), (0, .ref (a 0))]) hx hb zd_M_sync_92 hl rfl (zs_inc _) (by decide) rfl (fun ls hl => ?_)
        refine lv_goto (tgt := 73) hx hb zd_M_sync_95 rfl ?_
        rw [zs_cp_s wd wd2 i2] at hP hD
        exact ih2 () ls H locs ⟨lv_sub hl [0, 1] rfl, hP, hD, hS⟩
      · obtain ⟨hl, hP, hD, hS⟩ := hv
        have hl : lv_has ls 2 [(1, .int (nI 1536)), (0, .ref (a 0))] := hl
        have hP : va_P (dC, dI) zs_cl [(a 0, .inr (2, [.int (zs_b true), .ref (a 1), .ref (a 2), .ref (a 3), .ref (a 4), .ref (a 5), .ref (a 6), .ref (a 7), .ref (a 8), .ref (a 9), .ref (a 10)])), (a 1, .inl (cI, 24, .inl nm)), (a 2, .inl (cI, 24, .inl hi)), (a 3, .inl (cI, 24, .inl ln)), (a 4, .inl (cZ, 24, .inl op)), (a 5, .inl (cI, 1536, .inl wd)), (a 6, .inl (cI, 24, .inl (zs_cp nm nm2 24))), (a 7, .inl (cI, 24, .inl (zs_cp hi hi2 24))), (a 8, .inl (cI, 24, .inl (zs_cp ln ln2 24))), (a 9, .inl (cZ, 24, .inl (zs_cz op op2 24))), (a 10, .inl (cI, 1536, .inl (zs_cp wd wd2 1536)))] H := hP
        have hD : va_D A [(a 0, .inr (2, [.int (zs_b true), .ref (a 1), .ref (a 2), .ref (a 3), .ref (a 4), .ref (a 5), .ref (a 6), .ref (a 7), .ref (a 8), .ref (a 9), .ref (a 10)])), (a 1, .inl (cI, 24, .inl nm)), (a 2, .inl (cI, 24, .inl hi)), (a 3, .inl (cI, 24, .inl ln)), (a 4, .inl (cZ, 24, .inl op)), (a 5, .inl (cI, 1536, .inl wd)), (a 6, .inl (cI, 24, .inl (zs_cp nm nm2 24))), (a 7, .inl (cI, 24, .inl (zs_cp hi hi2 24))), (a 8, .inl (cI, 24, .inl (zs_cp ln ln2 24))), (a 9, .inl (cZ, 24, .inl (zs_cz op op2 24))), (a 10, .inl (cI, 1536, .inl (zs_cp wd wd2 1536)))] := hD
        refine lv_iload_n hx hb zd_M_sync_73 rfl (lv_at hl 0 rfl) ?_
        refine lv_sipush (v := 1536) hx hb zd_M_sync_74 (by decide) ?_
        refine zj_out (tgt := 98) (n := 1536) (i := 1536) hx hb zd_M_sync_77 rfl (by decide) (Nat.le_refl _) (by decide) ?_
        refine lv_iconst (v := 1) hx hb zd_M_sync_98 (by decide) ?_
        exact zw_zret (true, (nm, hi, ln, op, wd), (zs_cp nm nm2 24, zs_cp hi hi2 24, zs_cp ln ln2 24, zs_cz op op2 24, zs_cp wd wd2 1536)) hx hb hr hlocks zd_M_sync_99 rfl (show (1, (true, (nm, hi, ln, op, wd), (zs_cp nm nm2 24, zs_cp hi hi2 24, zs_cp ln ln2 24, zs_cz op op2 24, zs_cp wd wd2 1536))) = zm_sync (true, (nm, hi, ln, op, wd), (nm2, hi2, ln2, op2, wd2)) from by simp [zm_sync, zm_copy]) hP hD hS
  · subst h1
    refine lv_iconst (v := 0) hx hb zd_M_sync_7 (by decide) ?_
    exact zw_zret (false, (nm, hi, ln, op, wd), (nm2, hi2, ln2, op2, wd2)) hx hb hr hlocks zd_M_sync_8 rfl (show (0, (false, (nm, hi, ln, op, wd), (nm2, hi2, ln2, op2, wd2))) = zm_sync (false, (nm, hi, ln, op, wd), (nm2, hi2, ln2, op2, wd2)) from by simp [zm_sync]) hP hD hS
set_option maxHeartbeats 4000000 in
set_option maxRecDepth 100000 in
theorem zc_M_mount (l : Launch) (dC : Nat → ClassId) (dI : Nat → Nat → Nat) (cI cZ : ClassId) (a : Nat → Nat) (u : zs_X) (sz : Nat)  : Met l zy_M_mount (.code zy_M_mount zb_M_mount 2 (some .boolean) :: zs_w) ({ frames := 0, cells := 0, slots := 0, locals := 0 }) (va_Pc [.ref (a 0)] (zs_s dC dI cI cZ sz (zs_wM cI cZ a u))) (va_Qi (fun r (v : zs_X) => (r, v) = zm_mount u) (zs_e dC dI (zs_wM cI cZ a) (va_A (zs_wM cI cZ a u) sz)) (va_A (zs_wM cI cZ a u) sz)) 0 0 (va_A (zs_wM cI cZ a u) sz) := by
  obtain ⟨up, ⟨nm, hi, ln, op, wd⟩, ⟨nm2, hi2, ln2, op2, wd2⟩⟩ := u
  refine Met.ofW (cc := zb_M_mount) (maxL := 2) (ret := (some .boolean)) (by decide) rfl ?_
  intro p e s m args below meth c s₁ B hml hv
  obtain ⟨rfl, hsz, hP, hk, hD0⟩ := hv
  have hx := B.exec
  have hb := B.bytes
  have hr := B.returns
  have hts := atoms_spec (ws := .code zy_M_mount zb_M_mount 2 (some .boolean) :: zs_w) B.pre
  have hz : ∀ w ∈ zs_w, w.before _ s = true := fun w h => hts w (List.mem_cons_of_mem _ h)
  have hown : s.vm.findClass "ZoneShelfModel" = some m.cls := findClass_of_methodNamed B.named
  have hlocks := B.notSynchronized
  subst hsz
  have hD := hD0.self (sz := s.heap.size)
  generalize hAe : va_A (zs_wM cI cZ a (up, (nm, hi, ln, op, wd), (nm2, hi2, ln2, op2, wd2))) s.heap.size = A at hD ⊢
  have hA : ∀ q : Nat, s.heap.size ≤ q → A q := fun q h => by rw [← hAe]; exact Or.inr h
  have hS : va_S A s.heap s.heap [] := va_S.rf
  have hP : va_P (dC, dI) zs_cl [(a 0, .inr (2, [.int (zs_b up), .ref (a 1), .ref (a 2), .ref (a 3), .ref (a 4), .ref (a 5), .ref (a 6), .ref (a 7), .ref (a 8), .ref (a 9), .ref (a 10)])), (a 1, .inl (cI, 24, .inl nm)), (a 2, .inl (cI, 24, .inl hi)), (a 3, .inl (cI, 24, .inl ln)), (a 4, .inl (cZ, 24, .inl op)), (a 5, .inl (cI, 1536, .inl wd)), (a 6, .inl (cI, 24, .inl nm2)), (a 7, .inl (cI, 24, .inl hi2)), (a 8, .inl (cI, 24, .inl ln2)), (a 9, .inl (cZ, 24, .inl op2)), (a 10, .inl (cI, 1536, .inl wd2))] s.heap := hP
  have hD : va_D A [(a 0, .inr (2, [.int (zs_b up), .ref (a 1), .ref (a 2), .ref (a 3), .ref (a 4), .ref (a 5), .ref (a 6), .ref (a 7), .ref (a 8), .ref (a 9), .ref (a 10)])), (a 1, .inl (cI, 24, .inl nm)), (a 2, .inl (cI, 24, .inl hi)), (a 3, .inl (cI, 24, .inl ln)), (a 4, .inl (cZ, 24, .inl op)), (a 5, .inl (cI, 1536, .inl wd)), (a 6, .inl (cI, 24, .inl nm2)), (a 7, .inl (cI, 24, .inl hi2)), (a 8, .inl (cI, 24, .inl ln2)), (a 9, .inl (cZ, 24, .inl op2)), (a 10, .inl (cI, 1536, .inl wd2))] := hD
  have hl := lv_entry ([.ref (a 0)]) (n := 2) (Nat.le_of_ble_eq_true rfl)
  rw [lg_entry_eq]
  generalize (lg_sl ([.ref (a 0)]) ++ List.replicate (2 - (lg_sl ([.ref (a 0)])).length) Slot.unset).toArray = ls at hl ⊢
  have hl : lv_has ls 2 [(0, .ref (a 0))] := hl
  refine lv_aload_n hx hb zd_M_mount_0 rfl (lv_at hl 0 rfl) ?_
  refine va_get (D := (dC, dI)) (ci := 2) (v := .int (zs_b up)) (C := "ZoneShelfModel") (T := zs_T_M) (N := 11) hx hb hz zs_in_M hown hk.1 hP 0 rfl rfl 0 (by decide) (hz _ zq_183) (fun _ h9 => h9) rfl zd_M_mount_1 ?_
  refine zi_eq (tgt := 9) hx hb zd_M_mount_4 rfl (fun h1 => ?_) (fun h1 => ?_)
  · subst h1
    refine lv_iconst (v := 0) hx hb zd_M_mount_9 (by decide) ?_
    refine lv_istore_n (lv' := [(1, .int 0), (0, .ref (a 0))]) hx hb zd_M_mount_10 rfl hl (by decide) rfl (fun ls hl => ?_)
    refine zl_w (N := 24) (α := Unit) (fun kk ii xx ls H locs => lv_has ls 2 [(1, .int (nI ii)), (0, .ref (a 0))] ∧ va_P (dC, dI) zs_cl [(a 0, .inr (2, [.int (zs_b false), .ref (a 1), .ref (a 2), .ref (a 3), .ref (a 4), .ref (a 5), .ref (a 6), .ref (a 7), .ref (a 8), .ref (a 9), .ref (a 10)])), (a 1, .inl (cI, 24, .inl (zs_cp nm2 nm ii))), (a 2, .inl (cI, 24, .inl (zs_cp hi2 hi ii))), (a 3, .inl (cI, 24, .inl (zs_cp ln2 ln ii))), (a 4, .inl (cZ, 24, .inl (zs_cz op2 op ii))), (a 5, .inl (cI, 1536, .inl wd)), (a 6, .inl (cI, 24, .inl nm2)), (a 7, .inl (cI, 24, .inl hi2)), (a 8, .inl (cI, 24, .inl ln2)), (a 9, .inl (cZ, 24, .inl op2)), (a 10, .inl (cI, 1536, .inl wd2))] H ∧ va_D A [(a 0, .inr (2, [.int (zs_b false), .ref (a 1), .ref (a 2), .ref (a 3), .ref (a 4), .ref (a 5), .ref (a 6), .ref (a 7), .ref (a 8), .ref (a 9), .ref (a 10)])), (a 1, .inl (cI, 24, .inl (zs_cp nm2 nm ii))), (a 2, .inl (cI, 24, .inl (zs_cp hi2 hi ii))), (a 3, .inl (cI, 24, .inl (zs_cp ln2 ln ii))), (a 4, .inl (cZ, 24, .inl (zs_cz op2 op ii))), (a 5, .inl (cI, 1536, .inl wd)), (a 6, .inl (cI, 24, .inl nm2)), (a 7, .inl (cI, 24, .inl hi2)), (a 8, .inl (cI, 24, .inl ln2)), (a 9, .inl (cZ, 24, .inl op2)), (a 10, .inl (cI, 1536, .inl wd2))] ∧ va_S A s.heap H locs) (fun k1 i1 x1 ls H locs e1 hv ih1 => ?_) (fun x1 ls H locs hv => ?_) 24 0 () ls s.heap _ rfl ⟨lv_sub hl [0, 1] rfl, by rw [zs_cp_0, zs_cp_0, zs_cp_0, zs_cz_0]; exact hP, by rw [zs_cp_0, zs_cp_0, zs_cp_0, zs_cz_0]; exact hD, hS⟩
    · obtain ⟨hl, hP, hD, hS⟩ := hv
      have hl : lv_has ls 2 [(1, .int (nI i1)), (0, .ref (a 0))] := hl
      have hP : va_P (dC, dI) zs_cl [(a 0, .inr (2, [.int (zs_b false), .ref (a 1), .ref (a 2), .ref (a 3), .ref (a 4), .ref (a 5), .ref (a 6), .ref (a 7), .ref (a 8), .ref (a 9), .ref (a 10)])), (a 1, .inl (cI, 24, .inl (zs_cp nm2 nm i1))), (a 2, .inl (cI, 24, .inl (zs_cp hi2 hi i1))), (a 3, .inl (cI, 24, .inl (zs_cp ln2 ln i1))), (a 4, .inl (cZ, 24, .inl (zs_cz op2 op i1))), (a 5, .inl (cI, 1536, .inl wd)), (a 6, .inl (cI, 24, .inl nm2)), (a 7, .inl (cI, 24, .inl hi2)), (a 8, .inl (cI, 24, .inl ln2)), (a 9, .inl (cZ, 24, .inl op2)), (a 10, .inl (cI, 1536, .inl wd2))] H := hP
      have hD : va_D A [(a 0, .inr (2, [.int (zs_b false), .ref (a 1), .ref (a 2), .ref (a 3), .ref (a 4), .ref (a 5), .ref (a 6), .ref (a 7), .ref (a 8), .ref (a 9), .ref (a 10)])), (a 1, .inl (cI, 24, .inl (zs_cp nm2 nm i1))), (a 2, .inl (cI, 24, .inl (zs_cp hi2 hi i1))), (a 3, .inl (cI, 24, .inl (zs_cp ln2 ln i1))), (a 4, .inl (cZ, 24, .inl (zs_cz op2 op i1))), (a 5, .inl (cI, 1536, .inl wd)), (a 6, .inl (cI, 24, .inl nm2)), (a 7, .inl (cI, 24, .inl hi2)), (a 8, .inl (cI, 24, .inl ln2)), (a 9, .inl (cZ, 24, .inl op2)), (a 10, .inl (cI, 1536, .inl wd2))] := hD
      have hlt1 : i1 < 24 := by omega
      refine lv_iload_n hx hb zd_M_mount_11 rfl (lv_at hl 0 rfl) ?_
      refine lv_bipush (v := 24) hx hb zd_M_mount_12 (by decide) ?_
      refine zj_in (tgt := 71) (n := 24) hx hb zd_M_mount_14 rfl (by decide) hlt1 (by decide) ?_
      refine lv_aload_n hx hb zd_M_mount_17 rfl (lv_at hl 1 rfl) ?_
      refine va_get (D := (dC, dI)) (ci := 2) (v := .ref (a 1)) (C := "ZoneShelfModel") (T := zs_T_M) (N := 11) hx hb hz zs_in_M hown hk.1 hP 0 rfl rfl 1 (by decide) (hz _ zq_184) (fun _ h9 => h9) rfl zd_M_mount_18 ?_
      refine lv_iload_n hx hb zd_M_mount_21 rfl (lv_at hl 0 rfl) ?_
      refine lv_aload_n hx hb zd_M_mount_22 rfl (lv_at hl 1 rfl) ?_
      refine va_get (D := (dC, dI)) (ci := 2) (v := .ref (a 6)) (C := "ZoneShelfModel") (T := zs_T_M) (N := 11) hx hb hz zs_in_M hown hk.1 hP 0 rfl rfl 6 (by decide) (hz _ zq_189) (fun _ h9 => h9) rfl zd_M_mount_23 ?_
      refine lv_iload_n hx hb zd_M_mount_26 rfl (lv_at hl 0 rfl) ?_
      refine zi_ald hx hb hk hP 6 (j := i1) rfl (by omega) (by decide) zd_M_mount_27 ?_
      refine zi_ast hx hb hk hP hD hS 1 (j := i1) rfl (by omega) (by decide) zd_M_mount_28 (fun H locs hP hD hS => ?_)
      have hP : va_P (dC, dI) zs_cl [(a 0, .inr (2, [.int (zs_b false), .ref (a 1), .ref (a 2), .ref (a 3), .ref (a 4), .ref (a 5), .ref (a 6), .ref (a 7), .ref (a 8), .ref (a 9), .ref (a 10)])), (a 1, .inl (cI, 24, .inl (upd (zs_cp nm2 nm i1) i1 (nm2 i1)))), (a 2, .inl (cI, 24, .inl (zs_cp hi2 hi i1))), (a 3, .inl (cI, 24, .inl (zs_cp ln2 ln i1))), (a 4, .inl (cZ, 24, .inl (zs_cz op2 op i1))), (a 5, .inl (cI, 1536, .inl wd)), (a 6, .inl (cI, 24, .inl nm2)), (a 7, .inl (cI, 24, .inl hi2)), (a 8, .inl (cI, 24, .inl ln2)), (a 9, .inl (cZ, 24, .inl op2)), (a 10, .inl (cI, 1536, .inl wd2))] H := hP
      have hD : va_D A [(a 0, .inr (2, [.int (zs_b false), .ref (a 1), .ref (a 2), .ref (a 3), .ref (a 4), .ref (a 5), .ref (a 6), .ref (a 7), .ref (a 8), .ref (a 9), .ref (a 10)])), (a 1, .inl (cI, 24, .inl (upd (zs_cp nm2 nm i1) i1 (nm2 i1)))), (a 2, .inl (cI, 24, .inl (zs_cp hi2 hi i1))), (a 3, .inl (cI, 24, .inl (zs_cp ln2 ln i1))), (a 4, .inl (cZ, 24, .inl (zs_cz op2 op i1))), (a 5, .inl (cI, 1536, .inl wd)), (a 6, .inl (cI, 24, .inl nm2)), (a 7, .inl (cI, 24, .inl hi2)), (a 8, .inl (cI, 24, .inl ln2)), (a 9, .inl (cZ, 24, .inl op2)), (a 10, .inl (cI, 1536, .inl wd2))] := hD
      refine lv_aload_n hx hb zd_M_mount_29 rfl (lv_at hl 1 rfl) ?_
      refine va_get (D := (dC, dI)) (ci := 2) (v := .ref (a 2)) (C := "ZoneShelfModel") (T := zs_T_M) (N := 11) hx hb hz zs_in_M hown hk.1 hP 0 rfl rfl 2 (by decide) (hz _ zq_185) (fun _ h9 => h9) rfl zd_M_mount_30 ?_
      refine lv_iload_n hx hb zd_M_mount_33 rfl (lv_at hl 0 rfl) ?_
      refine lv_aload_n hx hb zd_M_mount_34 rfl (lv_at hl 1 rfl) ?_
      refine va_get (D := (dC, dI)) (ci := 2) (v := .ref (a 7)) (C := "ZoneShelfModel") (T := zs_T_M) (N := 11) hx hb hz zs_in_M hown hk.1 hP 0 rfl rfl 7 (by decide) (hz _ zq_190) (fun _ h9 => h9) rfl zd_M_mount_35 ?_
      refine lv_iload_n hx hb zd_M_mount_38 rfl (lv_at hl 0 rfl) ?_
      refine zi_ald hx hb hk hP 7 (j := i1) rfl (by omega) (by decide) zd_M_mount_39 ?_
      refine zi_ast hx hb hk hP hD hS 2 (j := i1) rfl (by omega) (by decide) zd_M_mount_40 (fun H locs hP hD hS => ?_)
      have hP : va_P (dC, dI) zs_cl [(a 0, .inr (2, [.int (zs_b false), .ref (a 1), .ref (a 2), .ref (a 3), .ref (a 4), .ref (a 5), .ref (a 6), .ref (a 7), .ref (a 8), .ref (a 9), .ref (a 10)])), (a 1, .inl (cI, 24, .inl (upd (zs_cp nm2 nm i1) i1 (nm2 i1)))), (a 2, .inl (cI, 24, .inl (upd (zs_cp hi2 hi i1) i1 (hi2 i1)))), (a 3, .inl (cI, 24, .inl (zs_cp ln2 ln i1))), (a 4, .inl (cZ, 24, .inl (zs_cz op2 op i1))), (a 5, .inl (cI, 1536, .inl wd)), (a 6, .inl (cI, 24, .inl nm2)), (a 7, .inl (cI, 24, .inl hi2)), (a 8, .inl (cI, 24, .inl ln2)), (a 9, .inl (cZ, 24, .inl op2)), (a 10, .inl (cI, 1536, .inl wd2))] H := hP
      have hD : va_D A [(a 0, .inr (2, [.int (zs_b false), .ref (a 1), .ref (a 2), .ref (a 3), .ref (a 4), .ref (a 5), .ref (a 6), .ref (a 7), .ref (a 8), .ref (a 9), .ref (a 10)])), (a 1, .inl (cI, 24, .inl (upd (zs_cp nm2 nm i1) i1 (nm2 i1)))), (a 2, .inl (cI, 24, .inl (upd (zs_cp hi2 hi i1) i1 (hi2 i1)))), (a 3, .inl (cI, 24, .inl (zs_cp ln2 ln i1))), (a 4, .inl (cZ, 24, .inl (zs_cz op2 op i1))), (a 5, .inl (cI, 1536, .inl wd)), (a 6, .inl (cI, 24, .inl nm2)), (a 7, .inl (cI, 24, .inl hi2)), (a 8, .inl (cI, 24, .inl ln2)), (a 9, .inl (cZ, 24, .inl op2)), (a 10, .inl (cI, 1536, .inl wd2))] := hD
      refine lv_aload_n hx hb zd_M_mount_41 rfl (lv_at hl 1 rfl) ?_
      refine va_get (D := (dC, dI)) (ci := 2) (v := .ref (a 3)) (C := "ZoneShelfModel") (T := zs_T_M) (N := 11) hx hb hz zs_in_M hown hk.1 hP 0 rfl rfl 3 (by decide) (hz _ zq_186) (fun _ h9 => h9) rfl zd_M_mount_42 ?_
      refine lv_iload_n hx hb zd_M_mount_45 rfl (lv_at hl 0 rfl) ?_
      refine lv_aload_n hx hb zd_M_mount_46 rfl (lv_at hl 1 rfl) ?_
      refine va_get (D := (dC, dI)) (ci := 2) (v := .ref (a 8)) (C := "ZoneShelfModel") (T := zs_T_M) (N := 11) hx hb hz zs_in_M hown hk.1 hP 0 rfl rfl 8 (by decide) (hz _ zq_191) (fun _ h9 => h9) rfl zd_M_mount_47 ?_
      refine lv_iload_n hx hb zd_M_mount_50 rfl (lv_at hl 0 rfl) ?_
      refine zi_ald hx hb hk hP 8 (j := i1) rfl (by omega) (by decide) zd_M_mount_51 ?_
      refine zi_ast hx hb hk hP hD hS 3 (j := i1) rfl (by omega) (by decide) zd_M_mount_52 (fun H locs hP hD hS => ?_)
      have hP : va_P (dC, dI) zs_cl [(a 0, .inr (2, [.int (zs_b false), .ref (a 1), .ref (a 2), .ref (a 3), .ref (a 4), .ref (a 5), .ref (a 6), .ref (a 7), .ref (a 8), .ref (a 9), .ref (a 10)])), (a 1, .inl (cI, 24, .inl (upd (zs_cp nm2 nm i1) i1 (nm2 i1)))), (a 2, .inl (cI, 24, .inl (upd (zs_cp hi2 hi i1) i1 (hi2 i1)))), (a 3, .inl (cI, 24, .inl (upd (zs_cp ln2 ln i1) i1 (ln2 i1)))), (a 4, .inl (cZ, 24, .inl (zs_cz op2 op i1))), (a 5, .inl (cI, 1536, .inl wd)), (a 6, .inl (cI, 24, .inl nm2)), (a 7, .inl (cI, 24, .inl hi2)), (a 8, .inl (cI, 24, .inl ln2)), (a 9, .inl (cZ, 24, .inl op2)), (a 10, .inl (cI, 1536, .inl wd2))] H := hP
      have hD : va_D A [(a 0, .inr (2, [.int (zs_b false), .ref (a 1), .ref (a 2), .ref (a 3), .ref (a 4), .ref (a 5), .ref (a 6), .ref (a 7), .ref (a 8), .ref (a 9), .ref (a 10)])), (a 1, .inl (cI, 24, .inl (upd (zs_cp nm2 nm i1) i1 (nm2 i1)))), (a 2, .inl (cI, 24, .inl (upd (zs_cp hi2 hi i1) i1 (hi2 i1)))), (a 3, .inl (cI, 24, .inl (upd (zs_cp ln2 ln i1) i1 (ln2 i1)))), (a 4, .inl (cZ, 24, .inl (zs_cz op2 op i1))), (a 5, .inl (cI, 1536, .inl wd)), (a 6, .inl (cI, 24, .inl nm2)), (a 7, .inl (cI, 24, .inl hi2)), (a 8, .inl (cI, 24, .inl ln2)), (a 9, .inl (cZ, 24, .inl op2)), (a 10, .inl (cI, 1536, .inl wd2))] := hD
      refine lv_aload_n hx hb zd_M_mount_53 rfl (lv_at hl 1 rfl) ?_
      refine va_get (D := (dC, dI)) (ci := 2) (v := .ref (a 4)) (C := "ZoneShelfModel") (T := zs_T_M) (N := 11) hx hb hz zs_in_M hown hk.1 hP 0 rfl rfl 4 (by decide) (hz _ zq_187) (fun _ h9 => h9) rfl zd_M_mount_54 ?_
      refine lv_iload_n hx hb zd_M_mount_57 rfl (lv_at hl 0 rfl) ?_
      refine lv_aload_n hx hb zd_M_mount_58 rfl (lv_at hl 1 rfl) ?_
      refine va_get (D := (dC, dI)) (ci := 2) (v := .ref (a 9)) (C := "ZoneShelfModel") (T := zs_T_M) (N := 11) hx hb hz zs_in_M hown hk.1 hP 0 rfl rfl 9 (by decide) (hz _ zq_192) (fun _ h9 => h9) rfl zd_M_mount_59 ?_
      refine lv_iload_n hx hb zd_M_mount_62 rfl (lv_at hl 0 rfl) ?_
      refine zi_zld hx hb hk hP 9 (j := i1) rfl (by omega) (by decide) zd_M_mount_63 ?_
      refine zi_zst hx hb hk hP hD hS 4 (j := i1) rfl (by omega) (by decide) zd_M_mount_64 (fun H locs hP hD hS => ?_)
      have hP : va_P (dC, dI) zs_cl [(a 0, .inr (2, [.int (zs_b false), .ref (a 1), .ref (a 2), .ref (a 3), .ref (a 4), .ref (a 5), .ref (a 6), .ref (a 7), .ref (a 8), .ref (a 9), .ref (a 10)])), (a 1, .inl (cI, 24, .inl (upd (zs_cp nm2 nm i1) i1 (nm2 i1)))), (a 2, .inl (cI, 24, .inl (upd (zs_cp hi2 hi i1) i1 (hi2 i1)))), (a 3, .inl (cI, 24, .inl (upd (zs_cp ln2 ln i1) i1 (ln2 i1)))), (a 4, .inl (cZ, 24, .inl (upd (zs_cz op2 op i1) i1 (vp_nar .boolean (op2 i1))))), (a 5, .inl (cI, 1536, .inl wd)), (a 6, .inl (cI, 24, .inl nm2)), (a 7, .inl (cI, 24, .inl hi2)), (a 8, .inl (cI, 24, .inl ln2)), (a 9, .inl (cZ, 24, .inl op2)), (a 10, .inl (cI, 1536, .inl wd2))] H := hP
      have hD : va_D A [(a 0, .inr (2, [.int (zs_b false), .ref (a 1), .ref (a 2), .ref (a 3), .ref (a 4), .ref (a 5), .ref (a 6), .ref (a 7), .ref (a 8), .ref (a 9), .ref (a 10)])), (a 1, .inl (cI, 24, .inl (upd (zs_cp nm2 nm i1) i1 (nm2 i1)))), (a 2, .inl (cI, 24, .inl (upd (zs_cp hi2 hi i1) i1 (hi2 i1)))), (a 3, .inl (cI, 24, .inl (upd (zs_cp ln2 ln i1) i1 (ln2 i1)))), (a 4, .inl (cZ, 24, .inl (upd (zs_cz op2 op i1) i1 (vp_nar .boolean (op2 i1))))), (a 5, .inl (cI, 1536, .inl wd)), (a 6, .inl (cI, 24, .inl nm2)), (a 7, .inl (cI, 24, .inl hi2)), (a 8, .inl (cI, 24, .inl ln2)), (a 9, .inl (cZ, 24, .inl op2)), (a 10, .inl (cI, 1536, .inl wd2))] := hD
      refine lv_iinc (k := 0) (v := nI (i1 + 1)) (lv' := [(1, .int (nI (i1 + 1))), (0, .ref (a 0))]) hx hb zd_M_mount_65 hl rfl (zs_inc _) (by decide) rfl (fun ls hl => ?_)
      refine lv_goto (tgt := 11) hx hb zd_M_mount_68 rfl ?_
      rw [zs_cp_s nm2 nm i1, zs_cp_s hi2 hi i1, zs_cp_s ln2 ln i1, zs_cz_s op2 op i1] at hP hD
      exact ih1 () ls H locs ⟨lv_sub hl [0, 1] rfl, hP, hD, hS⟩
    · obtain ⟨hl, hP, hD, hS⟩ := hv
      have hl : lv_has ls 2 [(1, .int (nI 24)), (0, .ref (a 0))] := hl
      have hP : va_P (dC, dI) zs_cl [(a 0, .inr (2, [.int (zs_b false), .ref (a 1), .ref (a 2), .ref (a 3), .ref (a 4), .ref (a 5), .ref (a 6), .ref (a 7), .ref (a 8), .ref (a 9), .ref (a 10)])), (a 1, .inl (cI, 24, .inl (zs_cp nm2 nm 24))), (a 2, .inl (cI, 24, .inl (zs_cp hi2 hi 24))), (a 3, .inl (cI, 24, .inl (zs_cp ln2 ln 24))), (a 4, .inl (cZ, 24, .inl (zs_cz op2 op 24))), (a 5, .inl (cI, 1536, .inl wd)), (a 6, .inl (cI, 24, .inl nm2)), (a 7, .inl (cI, 24, .inl hi2)), (a 8, .inl (cI, 24, .inl ln2)), (a 9, .inl (cZ, 24, .inl op2)), (a 10, .inl (cI, 1536, .inl wd2))] H := hP
      have hD : va_D A [(a 0, .inr (2, [.int (zs_b false), .ref (a 1), .ref (a 2), .ref (a 3), .ref (a 4), .ref (a 5), .ref (a 6), .ref (a 7), .ref (a 8), .ref (a 9), .ref (a 10)])), (a 1, .inl (cI, 24, .inl (zs_cp nm2 nm 24))), (a 2, .inl (cI, 24, .inl (zs_cp hi2 hi 24))), (a 3, .inl (cI, 24, .inl (zs_cp ln2 ln 24))), (a 4, .inl (cZ, 24, .inl (zs_cz op2 op 24))), (a 5, .inl (cI, 1536, .inl wd)), (a 6, .inl (cI, 24, .inl nm2)), (a 7, .inl (cI, 24, .inl hi2)), (a 8, .inl (cI, 24, .inl ln2)), (a 9, .inl (cZ, 24, .inl op2)), (a 10, .inl (cI, 1536, .inl wd2))] := hD
      refine lv_iload_n hx hb zd_M_mount_11 rfl (lv_at hl 0 rfl) ?_
      refine lv_bipush (v := 24) hx hb zd_M_mount_12 (by decide) ?_
      refine zj_out (tgt := 71) (n := 24) (i := 24) hx hb zd_M_mount_14 rfl (by decide) (Nat.le_refl _) (by decide) ?_
      refine lv_iconst (v := 0) hx hb zd_M_mount_71 (by decide) ?_
      refine lv_istore_n (lv' := [(1, .int 0), (0, .ref (a 0))]) hx hb zd_M_mount_72 rfl hl (by decide) rfl (fun ls hl => ?_)
      refine zl_w (N := 1536) (α := Unit) (fun kk ii xx ls H locs => lv_has ls 2 [(1, .int (nI ii)), (0, .ref (a 0))] ∧ va_P (dC, dI) zs_cl [(a 0, .inr (2, [.int (zs_b false), .ref (a 1), .ref (a 2), .ref (a 3), .ref (a 4), .ref (a 5), .ref (a 6), .ref (a 7), .ref (a 8), .ref (a 9), .ref (a 10)])), (a 1, .inl (cI, 24, .inl (zs_cp nm2 nm 24))), (a 2, .inl (cI, 24, .inl (zs_cp hi2 hi 24))), (a 3, .inl (cI, 24, .inl (zs_cp ln2 ln 24))), (a 4, .inl (cZ, 24, .inl (zs_cz op2 op 24))), (a 5, .inl (cI, 1536, .inl (zs_cp wd2 wd ii))), (a 6, .inl (cI, 24, .inl nm2)), (a 7, .inl (cI, 24, .inl hi2)), (a 8, .inl (cI, 24, .inl ln2)), (a 9, .inl (cZ, 24, .inl op2)), (a 10, .inl (cI, 1536, .inl wd2))] H ∧ va_D A [(a 0, .inr (2, [.int (zs_b false), .ref (a 1), .ref (a 2), .ref (a 3), .ref (a 4), .ref (a 5), .ref (a 6), .ref (a 7), .ref (a 8), .ref (a 9), .ref (a 10)])), (a 1, .inl (cI, 24, .inl (zs_cp nm2 nm 24))), (a 2, .inl (cI, 24, .inl (zs_cp hi2 hi 24))), (a 3, .inl (cI, 24, .inl (zs_cp ln2 ln 24))), (a 4, .inl (cZ, 24, .inl (zs_cz op2 op 24))), (a 5, .inl (cI, 1536, .inl (zs_cp wd2 wd ii))), (a 6, .inl (cI, 24, .inl nm2)), (a 7, .inl (cI, 24, .inl hi2)), (a 8, .inl (cI, 24, .inl ln2)), (a 9, .inl (cZ, 24, .inl op2)), (a 10, .inl (cI, 1536, .inl wd2))] ∧ va_S A s.heap H locs) (fun k2 i2 x2 ls H locs e2 hv ih2 => ?_) (fun x2 ls H locs hv => ?_) 1536 0 () ls H _ rfl ⟨lv_sub hl [0, 1] rfl, by rw [zs_cp_0]; exact hP, by rw [zs_cp_0]; exact hD, hS⟩
      · obtain ⟨hl, hP, hD, hS⟩ := hv
        have hl : lv_has ls 2 [(1, .int (nI i2)), (0, .ref (a 0))] := hl
        have hP : va_P (dC, dI) zs_cl [(a 0, .inr (2, [.int (zs_b false), .ref (a 1), .ref (a 2), .ref (a 3), .ref (a 4), .ref (a 5), .ref (a 6), .ref (a 7), .ref (a 8), .ref (a 9), .ref (a 10)])), (a 1, .inl (cI, 24, .inl (zs_cp nm2 nm 24))), (a 2, .inl (cI, 24, .inl (zs_cp hi2 hi 24))), (a 3, .inl (cI, 24, .inl (zs_cp ln2 ln 24))), (a 4, .inl (cZ, 24, .inl (zs_cz op2 op 24))), (a 5, .inl (cI, 1536, .inl (zs_cp wd2 wd i2))), (a 6, .inl (cI, 24, .inl nm2)), (a 7, .inl (cI, 24, .inl hi2)), (a 8, .inl (cI, 24, .inl ln2)), (a 9, .inl (cZ, 24, .inl op2)), (a 10, .inl (cI, 1536, .inl wd2))] H := hP
        have hD : va_D A [(a 0, .inr (2, [.int (zs_b false), .ref (a 1), .ref (a 2), .ref (a 3), .ref (a 4), .ref (a 5), .ref (a 6), .ref (a 7), .ref (a 8), .ref (a 9), .ref (a 10)])), (a 1, .inl (cI, 24, .inl (zs_cp nm2 nm 24))), (a 2, .inl (cI, 24, .inl (zs_cp hi2 hi 24))), (a 3, .inl (cI, 24, .inl (zs_cp ln2 ln 24))), (a 4, .inl (cZ, 24, .inl (zs_cz op2 op 24))), (a 5, .inl (cI, 1536, .inl (zs_cp wd2 wd i2))), (a 6, .inl (cI, 24, .inl nm2)), (a 7, .inl (cI, 24, .inl hi2)), (a 8, .inl (cI, 24, .inl ln2)), (a 9, .inl (cZ, 24, .inl op2)), (a 10, .inl (cI, 1536, .inl wd2))] := hD
        have hlt2 : i2 < 1536 := by omega
        refine lv_iload_n hx hb zd_M_mount_73 rfl (lv_at hl 0 rfl) ?_
        refine lv_sipush (v := 1536) hx hb zd_M_mount_74 (by decide) ?_
        refine zj_in (tgt := 98) (n := 1536) hx hb zd_M_mount_77 rfl (by decide) hlt2 (by decide) ?_
        refine lv_aload_n hx hb zd_M_mount_80 rfl (lv_at hl 1 rfl) ?_
        refine va_get (D := (dC, dI)) (ci := 2) (v := .ref (a 5)) (C := "ZoneShelfModel") (T := zs_T_M) (N := 11) hx hb hz zs_in_M hown hk.1 hP 0 rfl rfl 5 (by decide) (hz _ zq_188) (fun _ h9 => h9) rfl zd_M_mount_81 ?_
        refine lv_iload_n hx hb zd_M_mount_84 rfl (lv_at hl 0 rfl) ?_
        refine lv_aload_n hx hb zd_M_mount_85 rfl (lv_at hl 1 rfl) ?_
        refine va_get (D := (dC, dI)) (ci := 2) (v := .ref (a 10)) (C := "ZoneShelfModel") (T := zs_T_M) (N := 11) hx hb hz zs_in_M hown hk.1 hP 0 rfl rfl 10 (by decide) (hz _ zq_193) (fun _ h9 => h9) rfl zd_M_mount_86 ?_
        refine lv_iload_n hx hb zd_M_mount_89 rfl (lv_at hl 0 rfl) ?_
        refine zi_ald hx hb hk hP 10 (j := i2) rfl (by omega) (by decide) zd_M_mount_90 ?_
        refine zi_ast hx hb hk hP hD hS 5 (j := i2) rfl (by omega) (by decide) zd_M_mount_91 (fun H locs hP hD hS => ?_)
        have hP : va_P (dC, dI) zs_cl [(a 0, .inr (2, [.int (zs_b false), .ref (a 1), .ref (a 2), .ref (a 3), .ref (a 4), .ref (a 5), .ref (a 6), .ref (a 7), .ref (a 8), .ref (a 9), .ref (a 10)])), (a 1, .inl (cI, 24, .inl (zs_cp nm2 nm 24))), (a 2, .inl (cI, 24, .inl (zs_cp hi2 hi 24))), (a 3, .inl (cI, 24, .inl (zs_cp ln2 ln 24))), (a 4, .inl (cZ, 24, .inl (zs_cz op2 op 24))), (a 5, .inl (cI, 1536, .inl (upd (zs_cp wd2 wd i2) i2 (wd2 i2)))), (a 6, .inl (cI, 24, .inl nm2)), (a 7, .inl (cI, 24, .inl hi2)), (a 8, .inl (cI, 24, .inl ln2)), (a 9, .inl (cZ, 24, .inl op2)), (a 10, .inl (cI, 1536, .inl wd2))] H := hP
        have hD : va_D A [(a 0, .inr (2, [.int (zs_b false), .ref (a 1), .ref (a 2), .ref (a 3), .ref (a 4), .ref (a 5), .ref (a 6), .ref (a 7), .ref (a 8), .ref (a 9), .ref (a 10)])), (a 1, .inl (cI, 24, .inl (zs_cp nm2 nm 24))), (a 2, .inl (cI, 24, .inl (zs_cp hi2 hi 24))), (a 3, .inl (cI, 24, .inl (zs_cp ln2 ln 24))), (a 4, .inl (cZ, 24, .inl (zs_cz op2 op 24))), (a 5, .inl (cI, 1536, .inl (upd (zs_cp wd2 wd i2) i2 (wd2 i2)))), (a 6, .inl (cI, 24, .inl nm2)), (a 7, .inl (cI, 24, .inl hi2)), (a 8, .inl (cI, 24, .inl ln2)), (a 9, .inl (cZ, 24, .inl op2)), (a 10, .inl (cI, 1536, .inl wd2))] := hD
        refine lv_iinc (k := 0) (v := nI (i2 + 1)) (lv' := [(1, .int (nI (i2 + 1))), (0, .ref (a 0))]) hx hb zd_M_mount_92 hl rfl (zs_inc _) (by decide) rfl (fun ls hl => ?_)
        refine lv_goto (tgt := 73) hx hb zd_M_mount_95 rfl ?_
        rw [zs_cp_s wd2 wd i2] at hP hD
        exact ih2 () ls H locs ⟨lv_sub hl [0, 1] rfl, hP, hD, hS⟩
      · obtain ⟨hl, hP, hD, hS⟩ := hv
        have hl : lv_has ls 2 [(1, .int (nI 1536)), (0, .ref (a 0))] := hl
        have hP : va_P (dC, dI) zs_cl [(a 0, .inr (2, [.int (zs_b false), .ref (a 1), .ref (a 2), .ref (a 3), .ref (a 4), .ref (a 5), .ref (a 6), .ref (a 7), .ref (a 8), .ref (a 9), .ref (a 10)])), (a 1, .inl (cI, 24, .inl (zs_cp nm2 nm 24))), (a 2, .inl (cI, 24, .inl (zs_cp hi2 hi 24))), (a 3, .inl (cI, 24, .inl (zs_cp ln2 ln 24))), (a 4, .inl (cZ, 24, .inl (zs_cz op2 op 24))), (a 5, .inl (cI, 1536, .inl (zs_cp wd2 wd 1536))), (a 6, .inl (cI, 24, .inl nm2)), (a 7, .inl (cI, 24, .inl hi2)), (a 8, .inl (cI, 24, .inl ln2)), (a 9, .inl (cZ, 24, .inl op2)), (a 10, .inl (cI, 1536, .inl wd2))] H := hP
        have hD : va_D A [(a 0, .inr (2, [.int (zs_b false), .ref (a 1), .ref (a 2), .ref (a 3), .ref (a 4), .ref (a 5), .ref (a 6), .ref (a 7), .ref (a 8), .ref (a 9), .ref (a 10)])), (a 1, .inl (cI, 24, .inl (zs_cp nm2 nm 24))), (a 2, .inl (cI, 24, .inl (zs_cp hi2 hi 24))), (a 3, .inl (cI, 24, .inl (zs_cp ln2 ln 24))), (a 4, .inl (cZ, 24, .inl (zs_cz op2 op 24))), (a 5, .inl (cI, 1536, .inl (zs_cp wd2 wd 1536))), (a 6, .inl (cI, 24, .inl nm2)), (a 7, .inl (cI, 24, .inl hi2)), (a 8, .inl (cI, 24, .inl ln2)), (a 9, .inl (cZ, 24, .inl op2)), (a 10, .inl (cI, 1536, .inl wd2))] := hD
        refine lv_iload_n hx hb zd_M_mount_73 rfl (lv_at hl 0 rfl) ?_
        refine lv_sipush (v := 1536) hx hb zd_M_mount_74 (by decide) ?_
        refine zj_out (tgt := 98) (n := 1536) (i := 1536) hx hb zd_M_mount_77 rfl (by decide) (Nat.le_refl _) (by decide) ?_
        refine lv_aload_n hx hb zd_M_mount_98 rfl (lv_at hl 1 rfl) ?_
        refine lv_iconst (v := 1) hx hb zd_M_mount_99 (by decide) ?_
        refine va_put (D := (dC, dI)) (ci := 2) (v := .int 1) (ty := .boolean) (C := "ZoneShelfModel") (T := zs_T_M) (N := 11) hx hb hz zs_in_M zs_t_M zs_tok_M zs_nok_M hown hk.1 hP hD hS 0 rfl rfl 0 (by decide) (hz _ zq_183) (fun _ h9 => h9) rfl (by decide +kernel) rfl rfl (Nat.le_of_ble_eq_true rfl) zd_M_mount_100 (fun H locs hP hD hS => ?_)
        have hP : va_P (dC, dI) zs_cl [(a 0, .inr (2, [.int (zs_b true), .ref (a 1), .ref (a 2), .ref (a 3), .ref (a 4), .ref (a 5), .ref (a 6), .ref (a 7), .ref (a 8), .ref (a 9), .ref (a 10)])), (a 1, .inl (cI, 24, .inl (zs_cp nm2 nm 24))), (a 2, .inl (cI, 24, .inl (zs_cp hi2 hi 24))), (a 3, .inl (cI, 24, .inl (zs_cp ln2 ln 24))), (a 4, .inl (cZ, 24, .inl (zs_cz op2 op 24))), (a 5, .inl (cI, 1536, .inl (zs_cp wd2 wd 1536))), (a 6, .inl (cI, 24, .inl nm2)), (a 7, .inl (cI, 24, .inl hi2)), (a 8, .inl (cI, 24, .inl ln2)), (a 9, .inl (cZ, 24, .inl op2)), (a 10, .inl (cI, 1536, .inl wd2))] H := hP
        have hD : va_D A [(a 0, .inr (2, [.int (zs_b true), .ref (a 1), .ref (a 2), .ref (a 3), .ref (a 4), .ref (a 5), .ref (a 6), .ref (a 7), .ref (a 8), .ref (a 9), .ref (a 10)])), (a 1, .inl (cI, 24, .inl (zs_cp nm2 nm 24))), (a 2, .inl (cI, 24, .inl (zs_cp hi2 hi 24))), (a 3, .inl (cI, 24, .inl (zs_cp ln2 ln 24))), (a 4, .inl (cZ, 24, .inl (zs_cz op2 op 24))), (a 5, .inl (cI, 1536, .inl (zs_cp wd2 wd 1536))), (a 6, .inl (cI, 24, .inl nm2)), (a 7, .inl (cI, 24, .inl hi2)), (a 8, .inl (cI, 24, .inl ln2)), (a 9, .inl (cZ, 24, .inl op2)), (a 10, .inl (cI, 1536, .inl wd2))] := hD
        refine lv_iconst (v := 1) hx hb zd_M_mount_103 (by decide) ?_
        exact zw_zret (true, (zs_cp nm2 nm 24, zs_cp hi2 hi 24, zs_cp ln2 ln 24, zs_cz op2 op 24, zs_cp wd2 wd 1536), (nm2, hi2, ln2, op2, wd2)) hx hb hr hlocks zd_M_mount_104 rfl (show (1, (true, (zs_cp nm2 nm 24, zs_cp hi2 hi 24, zs_cp ln2 ln 24, zs_cz op2 op 24, zs_cp wd2 wd 1536), (nm2, hi2, ln2, op2, wd2))) = zm_mount (false, (nm, hi, ln, op, wd), (nm2, hi2, ln2, op2, wd2)) from by simp [zm_mount, zm_copy]) hP hD hS
  · subst h1
    refine lv_iconst (v := 0) hx hb zd_M_mount_7 (by decide) ?_
    exact zw_zret (true, (nm, hi, ln, op, wd), (nm2, hi2, ln2, op2, wd2)) hx hb hr hlocks zd_M_mount_8 rfl (show (0, (true, (nm, hi, ln, op, wd), (nm2, hi2, ln2, op2, wd2))) = zm_mount (true, (nm, hi, ln, op, wd), (nm2, hi2, ln2, op2, wd2)) from by simp [zm_mount]) hP hD hS
set_option maxHeartbeats 4000000 in
set_option maxRecDepth 100000 in
theorem zc_M_cut (l : Launch) (dC : Nat → ClassId) (dI : Nat → Nat → Nat) (cI cZ : ClassId) (a : Nat → Nat) (u : zs_X) (sz : Nat)  : Met l zy_M_cut (.code zy_M_cut zb_M_cut 2 (some .boolean) :: zs_w) ({ frames := 0, cells := 0, slots := 0, locals := 0 }) (va_Pc [.ref (a 0)] (zs_s dC dI cI cZ sz (zs_wM cI cZ a u))) (va_Qi (fun r (v : zs_X) => (r, v) = zm_cut u) (zs_e dC dI (zs_wM cI cZ a) (va_A (zs_wM cI cZ a u) sz)) (va_A (zs_wM cI cZ a u) sz)) 0 0 (va_A (zs_wM cI cZ a u) sz) := by
  obtain ⟨up, ⟨nm, hi, ln, op, wd⟩, ⟨nm2, hi2, ln2, op2, wd2⟩⟩ := u
  refine Met.ofW (cc := zb_M_cut) (maxL := 2) (ret := (some .boolean)) (by decide) rfl ?_
  intro p e s m args below meth c s₁ B hml hv
  obtain ⟨rfl, hsz, hP, hk, hD0⟩ := hv
  have hx := B.exec
  have hb := B.bytes
  have hr := B.returns
  have hts := atoms_spec (ws := .code zy_M_cut zb_M_cut 2 (some .boolean) :: zs_w) B.pre
  have hz : ∀ w ∈ zs_w, w.before _ s = true := fun w h => hts w (List.mem_cons_of_mem _ h)
  have hown : s.vm.findClass "ZoneShelfModel" = some m.cls := findClass_of_methodNamed B.named
  have hlocks := B.notSynchronized
  subst hsz
  have hD := hD0.self (sz := s.heap.size)
  generalize hAe : va_A (zs_wM cI cZ a (up, (nm, hi, ln, op, wd), (nm2, hi2, ln2, op2, wd2))) s.heap.size = A at hD ⊢
  have hA : ∀ q : Nat, s.heap.size ≤ q → A q := fun q h => by rw [← hAe]; exact Or.inr h
  have hS : va_S A s.heap s.heap [] := va_S.rf
  have hP : va_P (dC, dI) zs_cl [(a 0, .inr (2, [.int (zs_b up), .ref (a 1), .ref (a 2), .ref (a 3), .ref (a 4), .ref (a 5), .ref (a 6), .ref (a 7), .ref (a 8), .ref (a 9), .ref (a 10)])), (a 1, .inl (cI, 24, .inl nm)), (a 2, .inl (cI, 24, .inl hi)), (a 3, .inl (cI, 24, .inl ln)), (a 4, .inl (cZ, 24, .inl op)), (a 5, .inl (cI, 1536, .inl wd)), (a 6, .inl (cI, 24, .inl nm2)), (a 7, .inl (cI, 24, .inl hi2)), (a 8, .inl (cI, 24, .inl ln2)), (a 9, .inl (cZ, 24, .inl op2)), (a 10, .inl (cI, 1536, .inl wd2))] s.heap := hP
  have hD : va_D A [(a 0, .inr (2, [.int (zs_b up), .ref (a 1), .ref (a 2), .ref (a 3), .ref (a 4), .ref (a 5), .ref (a 6), .ref (a 7), .ref (a 8), .ref (a 9), .ref (a 10)])), (a 1, .inl (cI, 24, .inl nm)), (a 2, .inl (cI, 24, .inl hi)), (a 3, .inl (cI, 24, .inl ln)), (a 4, .inl (cZ, 24, .inl op)), (a 5, .inl (cI, 1536, .inl wd)), (a 6, .inl (cI, 24, .inl nm2)), (a 7, .inl (cI, 24, .inl hi2)), (a 8, .inl (cI, 24, .inl ln2)), (a 9, .inl (cZ, 24, .inl op2)), (a 10, .inl (cI, 1536, .inl wd2))] := hD
  have hl := lv_entry ([.ref (a 0)]) (n := 2) (Nat.le_of_ble_eq_true rfl)
  rw [lg_entry_eq]
  generalize (lg_sl ([.ref (a 0)]) ++ List.replicate (2 - (lg_sl ([.ref (a 0)])).length) Slot.unset).toArray = ls at hl ⊢
  have hl : lv_has ls 2 [(0, .ref (a 0))] := hl
  refine lv_aload_n hx hb zd_M_cut_0 rfl (lv_at hl 0 rfl) ?_
  refine va_get (D := (dC, dI)) (ci := 2) (v := .int (zs_b up)) (C := "ZoneShelfModel") (T := zs_T_M) (N := 11) hx hb hz zs_in_M hown hk.1 hP 0 rfl rfl 0 (by decide) (hz _ zq_183) (fun _ h9 => h9) rfl zd_M_cut_1 ?_
  refine lv_istore_n (lv' := [(1, .int (zs_b up)), (0, .ref (a 0))]) hx hb zd_M_cut_4 rfl hl (by decide) rfl (fun ls hl => ?_)
  refine lv_aload_n hx hb zd_M_cut_5 rfl (lv_at hl 1 rfl) ?_
  refine lv_iconst (v := 0) hx hb zd_M_cut_6 (by decide) ?_
  refine va_put (D := (dC, dI)) (ci := 2) (v := .int 0) (ty := .boolean) (C := "ZoneShelfModel") (T := zs_T_M) (N := 11) hx hb hz zs_in_M zs_t_M zs_tok_M zs_nok_M hown hk.1 hP hD hS 0 rfl rfl 0 (by decide) (hz _ zq_183) (fun _ h9 => h9) rfl (by decide +kernel) rfl rfl (Nat.le_of_ble_eq_true rfl) zd_M_cut_7 (fun H locs hP hD hS => ?_)
  have hP : va_P (dC, dI) zs_cl [(a 0, .inr (2, [.int (zs_b false), .ref (a 1), .ref (a 2), .ref (a 3), .ref (a 4), .ref (a 5), .ref (a 6), .ref (a 7), .ref (a 8), .ref (a 9), .ref (a 10)])), (a 1, .inl (cI, 24, .inl nm)), (a 2, .inl (cI, 24, .inl hi)), (a 3, .inl (cI, 24, .inl ln)), (a 4, .inl (cZ, 24, .inl op)), (a 5, .inl (cI, 1536, .inl wd)), (a 6, .inl (cI, 24, .inl nm2)), (a 7, .inl (cI, 24, .inl hi2)), (a 8, .inl (cI, 24, .inl ln2)), (a 9, .inl (cZ, 24, .inl op2)), (a 10, .inl (cI, 1536, .inl wd2))] H := hP
  have hD : va_D A [(a 0, .inr (2, [.int (zs_b false), .ref (a 1), .ref (a 2), .ref (a 3), .ref (a 4), .ref (a 5), .ref (a 6), .ref (a 7), .ref (a 8), .ref (a 9), .ref (a 10)])), (a 1, .inl (cI, 24, .inl nm)), (a 2, .inl (cI, 24, .inl hi)), (a 3, .inl (cI, 24, .inl ln)), (a 4, .inl (cZ, 24, .inl op)), (a 5, .inl (cI, 1536, .inl wd)), (a 6, .inl (cI, 24, .inl nm2)), (a 7, .inl (cI, 24, .inl hi2)), (a 8, .inl (cI, 24, .inl ln2)), (a 9, .inl (cZ, 24, .inl op2)), (a 10, .inl (cI, 1536, .inl wd2))] := hD
  refine lv_iload_n hx hb zd_M_cut_10 rfl (lv_at hl 0 rfl) ?_
  exact zw_zret (false, (nm, hi, ln, op, wd), (nm2, hi2, ln2, op2, wd2)) hx hb hr hlocks zd_M_cut_11 (zs_b_n _) (show (zs_b up, (false, (nm, hi, ln, op, wd), (nm2, hi2, ln2, op2, wd2))) = zm_cut (up, (nm, hi, ln, op, wd), (nm2, hi2, ln2, op2, wd2)) from by rfl) hP hD hS
set_option maxHeartbeats 4000000 in
set_option maxRecDepth 100000 in
theorem zc_M_tear (l : Launch) (dC : Nat → ClassId) (dI : Nat → Nat → Nat) (cI cZ : ClassId) (a : Nat → Nat) (u : zs_X) (sz : Nat)  : Met l zy_M_tear (.code zy_M_tear zb_M_tear 1 (some .boolean) :: zs_w) ({ frames := 1, cells := 0, slots := 0, locals := 21 }) (va_Pc [.ref (a 0)] (zs_s dC dI cI cZ sz (zs_wM cI cZ a u))) (va_Qi (fun r (v : zs_X) => (r, v) = zm_cut u) (zs_e dC dI (zs_wM cI cZ a) (va_A (zs_wM cI cZ a u) sz)) (va_A (zs_wM cI cZ a u) sz)) 0 0 (va_A (zs_wM cI cZ a u) sz) := by
  obtain ⟨up, ⟨nm, hi, ln, op, wd⟩, ⟨nm2, hi2, ln2, op2, wd2⟩⟩ := u
  refine Met.ofW (cc := zb_M_tear) (maxL := 1) (ret := (some .boolean)) (by decide) rfl ?_
  intro p e s m args below meth c s₁ B hml hv
  obtain ⟨rfl, hsz, hP, hk, hD0⟩ := hv
  have hx := B.exec
  have hb := B.bytes
  have hr := B.returns
  have hts := atoms_spec (ws := .code zy_M_tear zb_M_tear 1 (some .boolean) :: zs_w) B.pre
  have hz : ∀ w ∈ zs_w, w.before _ s = true := fun w h => hts w (List.mem_cons_of_mem _ h)
  have hown : s.vm.findClass "ZoneShelfModel" = some m.cls := findClass_of_methodNamed B.named
  have hlocks := B.notSynchronized
  subst hsz
  have hD := hD0.self (sz := s.heap.size)
  generalize hAe : va_A (zs_wM cI cZ a (up, (nm, hi, ln, op, wd), (nm2, hi2, ln2, op2, wd2))) s.heap.size = A at hD ⊢
  have hA : ∀ q : Nat, s.heap.size ≤ q → A q := fun q h => by rw [← hAe]; exact Or.inr h
  have hS : va_S A s.heap s.heap [] := va_S.rf
  have hP : va_P (dC, dI) zs_cl [(a 0, .inr (2, [.int (zs_b up), .ref (a 1), .ref (a 2), .ref (a 3), .ref (a 4), .ref (a 5), .ref (a 6), .ref (a 7), .ref (a 8), .ref (a 9), .ref (a 10)])), (a 1, .inl (cI, 24, .inl nm)), (a 2, .inl (cI, 24, .inl hi)), (a 3, .inl (cI, 24, .inl ln)), (a 4, .inl (cZ, 24, .inl op)), (a 5, .inl (cI, 1536, .inl wd)), (a 6, .inl (cI, 24, .inl nm2)), (a 7, .inl (cI, 24, .inl hi2)), (a 8, .inl (cI, 24, .inl ln2)), (a 9, .inl (cZ, 24, .inl op2)), (a 10, .inl (cI, 1536, .inl wd2))] s.heap := hP
  have hD : va_D A [(a 0, .inr (2, [.int (zs_b up), .ref (a 1), .ref (a 2), .ref (a 3), .ref (a 4), .ref (a 5), .ref (a 6), .ref (a 7), .ref (a 8), .ref (a 9), .ref (a 10)])), (a 1, .inl (cI, 24, .inl nm)), (a 2, .inl (cI, 24, .inl hi)), (a 3, .inl (cI, 24, .inl ln)), (a 4, .inl (cZ, 24, .inl op)), (a 5, .inl (cI, 1536, .inl wd)), (a 6, .inl (cI, 24, .inl nm2)), (a 7, .inl (cI, 24, .inl hi2)), (a 8, .inl (cI, 24, .inl ln2)), (a 9, .inl (cZ, 24, .inl op2)), (a 10, .inl (cI, 1536, .inl wd2))] := hD
  have hl := lv_entry ([.ref (a 0)]) (n := 1) (Nat.le_of_ble_eq_true rfl)
  rw [lg_entry_eq]
  generalize (lg_sl ([.ref (a 0)]) ++ List.replicate (1 - (lg_sl ([.ref (a 0)])).length) Slot.unset).toArray = ls at hl ⊢
  have hl : lv_has ls 1 [(0, .ref (a 0))] := hl
  refine lv_aload_n hx hb zd_M_tear_0 rfl (lv_at hl 0 rfl) ?_
  refine zc_wV (rest := []) (wr := []) [] hx hb hml hown hz (zc_M_cut l dC dI cI cZ a (up, (nm, hi, ln, op, wd), (nm2, hi2, ln2, op2, wd2)) s.heap.size  ) zf_M_cut rfl rfl zq_250 zq_251 zq_252 ⟨Nat.le_of_ble_eq_true rfl, Nat.le_of_ble_eq_true rfl⟩ hk hP hD hS hA [0, 1, 2, 3, 4, 5, 6, 7, 8, 9, 10] [] rfl rfl (by decide) (by decide) (by decide) 0 2 rfl rfl rfl rfl hl.1 rfl (Nat.le_of_ble_eq_true rfl) zd_M_tear_1 ⟨Nat.zero_le _, Nat.zero_le _⟩ (fun r1 u3 H locs e2 hP hD hS => ?_)
  exact zw_zret u3 hx hb hr hlocks zd_M_tear_4 (by rw [show r1 = (zm_cut (up, (nm, hi, ln, op, wd), (nm2, hi2, ln2, op2, wd2)) ).1 from congrArg Prod.fst e2]; exact zm_cut_n _ ) (show (r1, u3) = zm_cut (up, (nm, hi, ln, op, wd), (nm2, hi2, ln2, op2, wd2))  from e2) hP hD hS
