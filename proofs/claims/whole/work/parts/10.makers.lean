set_option maxHeartbeats 4000000 in
set_option maxRecDepth 100000 in
theorem zc_J_fill (l : Launch) (dC : Nat → ClassId) (dI : Nat → Nat → Nat) (cI cZ : ClassId) (q : Nat) (f : zs_F) (sz : Nat) (x : Int32) : Met l zy_J_fill (.code zy_J_fill zb_J_fill 4 none :: zs_w) ({ frames := 0, cells := 0, slots := 0, locals := 0 }) (va_Pc [.ref q, .int x] (zs_s dC dI cI cZ sz [(q, .inl (cI, 24, .inl f))])) (va_Qv (fun g : zs_F => g = zs_fl f x 24) (zs_e dC dI (fun g => [(q, .inl (cI, 24, .inl g))]) (va_A ([(q, .inl (cI, 24, .inl f))]) sz)) (va_A ([(q, .inl (cI, 24, .inl f))]) sz)) 0 0 (va_A ([(q, .inl (cI, 24, .inl f))]) sz) := by
  refine Met.ofW (cc := zb_J_fill) (maxL := 4) (ret := none) (by decide) rfl ?_
  intro p e s m args below meth c s₁ B hml hv
  obtain ⟨rfl, hsz, hP, hk, hD0⟩ := hv
  have hx := B.exec
  have hb := B.bytes
  have hr := B.returns
  have hts := atoms_spec (ws := .code zy_J_fill zb_J_fill 4 none :: zs_w) B.pre
  have hz : ∀ w ∈ zs_w, w.before _ s = true := fun w h => hts w (List.mem_cons_of_mem _ h)
  have hown : s.vm.findClass "java/util/Arrays" = some m.cls := findClass_of_methodNamed B.named
  have hlocks := B.notSynchronized
  subst hsz
  have hD := hD0.self (sz := s.heap.size)
  generalize hAe : va_A ([(q, .inl (cI, 24, .inl f))]) s.heap.size = A at hD ⊢
  have hA : ∀ q : Nat, s.heap.size ≤ q → A q := fun q h => by rw [← hAe]; exact Or.inr h
  have hS : va_S A s.heap s.heap [] := va_S.rf
  have hP : va_P (dC, dI) zs_cl [(q, .inl (cI, 24, .inl f))] s.heap := hP
  have hD : va_D A [(q, .inl (cI, 24, .inl f))] := hD
  have hl := lv_entry ([.ref q, .int x]) (n := 4) (Nat.le_of_ble_eq_true rfl)
  rw [lg_entry_eq]
  generalize (lg_sl ([.ref q, .int x]) ++ List.replicate (4 - (lg_sl ([.ref q, .int x])).length) Slot.unset).toArray = ls at hl ⊢
  have hl : lv_has ls 4 [(0, .ref q), (1, .int x)] := hl
  refine lv_iconst (v := 0) hx hb zd_J_fill_0 (by decide) ?_
  refine lv_istore_n (lv' := [(2, .int 0), (0, .ref q), (1, .int x)]) hx hb zd_J_fill_1 rfl hl (by decide) rfl (fun ls hl => ?_)
  refine lv_aload_n hx hb zd_J_fill_2 rfl (lv_at hl 1 rfl) ?_
  refine va_alen hx hb hk.1 hP 0 0 rfl rfl (v := nI 24) rfl zd_J_fill_3 ?_
  refine lv_istore_n (lv' := [(3, .int (nI 24)), (2, .int 0), (0, .ref q), (1, .int x)]) hx hb zd_J_fill_4 rfl hl (by decide) rfl (fun ls hl => ?_)
  refine zl_w (N := 24) (α := Unit) (fun kk ii xx ls H locs => lv_has ls 4 [(2, .int (nI ii)), (3, .int (nI 24)), (0, .ref q), (1, .int x)] ∧ va_P (dC, dI) zs_cl [(q, .inl (cI, 24, .inl (zs_fl f x ii)))] H ∧ va_D A [(q, .inl (cI, 24, .inl (zs_fl f x ii)))] ∧ va_S A s.heap H locs) (fun k1 i1 x1 ls H locs e1 hv ih1 => ?_) (fun x1 ls H locs hv => ?_) 24 0 () ls s.heap _ rfl ⟨lv_sub hl [1, 0, 2, 3] rfl, by rw [zs_fl_0]; exact hP, by rw [zs_fl_0]; exact hD, hS⟩
  · obtain ⟨hl, hP, hD, hS⟩ := hv
    have hl : lv_has ls 4 [(2, .int (nI i1)), (3, .int (nI 24)), (0, .ref q), (1, .int x)] := hl
    have hP : va_P (dC, dI) zs_cl [(q, .inl (cI, 24, .inl (zs_fl f x i1)))] H := hP
    have hD : va_D A [(q, .inl (cI, 24, .inl (zs_fl f x i1)))] := hD
    have hlt1 : i1 < 24 := by omega
    refine lv_iload_n hx hb zd_J_fill_5 rfl (lv_at hl 0 rfl) ?_
    refine lv_iload_n hx hb zd_J_fill_6 rfl (lv_at hl 1 rfl) ?_
    refine zj_in (tgt := 20) (n := 24) hx hb zd_J_fill_7 rfl rfl hlt1 (by decide) ?_
    refine lv_aload_n hx hb zd_J_fill_10 rfl (lv_at hl 2 rfl) ?_
    refine lv_iload_n hx hb zd_J_fill_11 rfl (lv_at hl 0 rfl) ?_
    refine lv_iload_n hx hb zd_J_fill_12 rfl (lv_at hl 3 rfl) ?_
    refine zi_ast hx hb hk hP hD hS 0 (j := i1) rfl (by omega) (by decide) zd_J_fill_13 (fun H locs hP hD hS => ?_)
    have hP : va_P (dC, dI) zs_cl [(q, .inl (cI, 24, .inl (upd (zs_fl f x i1) i1 x)))] H := hP
    have hD : va_D A [(q, .inl (cI, 24, .inl (upd (zs_fl f x i1) i1 x)))] := hD
    refine lv_iinc (k := 0) (v := nI (i1 + 1)) (lv' := [(2, .int (nI (i1 + 1))), (3, .int (nI 24)), (0, .ref q), (1, .int x)]) hx hb zd_J_fill_14 hl rfl (zs_inc _) (by decide) rfl (fun ls hl => ?_)
    refine lv_goto (tgt := 5) hx hb zd_J_fill_17 rfl ?_
    rw [zs_fl_s f x i1] at hP hD
    exact ih1 () ls H locs ⟨lv_sub hl [0, 1, 2, 3] rfl, hP, hD, hS⟩
  · obtain ⟨hl, hP, hD, hS⟩ := hv
    have hl : lv_has ls 4 [(2, .int (nI 24)), (3, .int (nI 24)), (0, .ref q), (1, .int x)] := hl
    have hP : va_P (dC, dI) zs_cl [(q, .inl (cI, 24, .inl (zs_fl f x 24)))] H := hP
    have hD : va_D A [(q, .inl (cI, 24, .inl (zs_fl f x 24)))] := hD
    refine lv_iload_n hx hb zd_J_fill_5 rfl (lv_at hl 0 rfl) ?_
    refine lv_iload_n hx hb zd_J_fill_6 rfl (lv_at hl 1 rfl) ?_
    refine zj_out (tgt := 20) (n := 24) (i := 24) hx hb zd_J_fill_7 rfl rfl (Nat.le_refl _) (by decide) ?_
    exact zw_vret (zs_fl f x 24) hx hb hr hlocks zd_J_fill_20 rfl hP hD hS
set_option maxHeartbeats 4000000 in
set_option maxRecDepth 100000 in
theorem zc_C_init (l : Launch) (dC : Nat → ClassId) (dI : Nat → Nat → Nat) (cI cZ : ClassId) (q0 sz : Nat) : Met l zy_C_init (.code zy_C_init zb_C_init 1 none :: zs_w) ({ frames := 1, cells := 5, slots := 1632, locals := 23 }) (va_Pc [.ref q0] (zs_s dC dI cI cZ sz [(q0, .inr (1, [.null, .null, .null, .null, .null]))])) (va_Qv (fun _ : Nat × Nat × Nat × Nat × Nat => True) (zs_e dC dI (fun v : Nat × Nat × Nat × Nat × Nat => zs_wC cI cZ q0 v.1 v.2.1 v.2.2.1 v.2.2.2.1 v.2.2.2.2 (zs_fl (fun _ => 0) (-1) 24, fun _ => 0, fun _ => 0, fun _ => 0, fun _ => 0)) (va_A ([(q0, .inr (1, [.null, .null, .null, .null, .null]))]) sz)) (va_A ([(q0, .inr (1, [.null, .null, .null, .null, .null]))]) sz)) 5 1632 (va_A ([(q0, .inr (1, [.null, .null, .null, .null, .null]))]) sz) := by
  refine Met.ofW (cc := zb_C_init) (maxL := 1) (ret := none) (by decide) rfl ?_
  intro p e s m args below meth c s₁ B hml hv
  obtain ⟨rfl, hsz, hP, hk, hD0⟩ := hv
  have hx := B.exec
  have hb := B.bytes
  have hr := B.returns
  have hts := atoms_spec (ws := .code zy_C_init zb_C_init 1 none :: zs_w) B.pre
  have hz : ∀ w ∈ zs_w, w.before _ s = true := fun w h => hts w (List.mem_cons_of_mem _ h)
  have hown : s.vm.findClass "ZoneShelf$Contents" = some m.cls := findClass_of_methodNamed B.named
  have hlocks := B.notSynchronized
  have hin : meth.name = "<init>" := (name_of_methodNamed B.named B.method).1
  subst hsz
  have hD := hD0.self (sz := s.heap.size)
  generalize hAe : va_A ([(q0, .inr (1, [.null, .null, .null, .null, .null]))]) s.heap.size = A at hD ⊢
  have hA : ∀ q : Nat, s.heap.size ≤ q → A q := fun q h => by rw [← hAe]; exact Or.inr h
  have hS : va_S A s.heap s.heap [] := va_S.rf
  have hP : va_P (dC, dI) zs_cl [(q0, .inr (1, [.null, .null, .null, .null, .null]))] s.heap := hP
  have hD : va_D A [(q0, .inr (1, [.null, .null, .null, .null, .null]))] := hD
  have hl := lv_entry ([.ref q0]) (n := 1) (Nat.le_of_ble_eq_true rfl)
  rw [lg_entry_eq]
  generalize (lg_sl ([.ref q0]) ++ List.replicate (1 - (lg_sl ([.ref q0])).length) Slot.unset).toArray = ls at hl ⊢
  have hl : lv_has ls 1 [(0, .ref q0)] := hl
  refine lv_aload_n hx hb zd_C_init_0 rfl (lv_at hl 0 rfl) ?_
  refine W.objInit hx hb hown (hz _ zq_36) (hz _ zq_30) (hz _ zq_31) rfl (by rw [hml]; exact hl.1) rfl zd_C_init_1 (Nat.le_of_ble_eq_true rfl) (Nat.le_of_ble_eq_true rfl) ?_
  refine W.eq (g2 := F0 m 4 ls []) rfl ?_
  refine lv_aload_n hx hb zd_C_init_4 rfl (lv_at hl 0 rfl) ?_
  refine lv_bipush (v := 24) hx hb zd_C_init_5 (by decide) ?_
  refine zi_newi (N := 24) hx hb hz zq_50 hk hP hD hS hA (by decide) (by decide) (by decide) (Nat.le_of_ble_eq_true rfl) (Nat.le_of_ble_eq_true rfl) zd_C_init_7 (fun q1 H hP hD hS => ?_)
  have hP : va_P (dC, dI) zs_cl [(q0, .inr (1, [.null, .null, .null, .null, .null])), (q1, .inl (cI, 24, .inl (fun _ => 0)))] H := hP
  have hD : va_D A [(q0, .inr (1, [.null, .null, .null, .null, .null])), (q1, .inl (cI, 24, .inl (fun _ => 0)))] := hD
  refine va_putF (D := (dC, dI)) (ci := 1) (v := .ref q1) (ty := (.array .int)) (C := "ZoneShelf$Contents") (T := zs_T_C) (N := 5) hx hb hz zs_in_C zs_t_C zs_tok_C zs_nok_C hown hk.1 hP hD hS 0 rfl rfl 0 (by decide) (hz _ zq_40) (fun _ h9 => h9) rfl hin rfl (by decide +kernel) rfl rfl (Nat.le_of_ble_eq_true rfl) zd_C_init_9 (fun H locs hP hD hS => ?_)
  have hP : va_P (dC, dI) zs_cl [(q0, .inr (1, [.ref q1, .null, .null, .null, .null])), (q1, .inl (cI, 24, .inl (fun _ => 0)))] H := hP
  have hD : va_D A [(q0, .inr (1, [.ref q1, .null, .null, .null, .null])), (q1, .inl (cI, 24, .inl (fun _ => 0)))] := hD
  refine lv_aload_n hx hb zd_C_init_12 rfl (lv_at hl 0 rfl) ?_
  refine lv_bipush (v := 24) hx hb zd_C_init_13 (by decide) ?_
  refine zi_newi (N := 24) hx hb hz zq_50 hk hP hD hS hA (by decide) (by decide) (by decide) (Nat.le_of_ble_eq_true rfl) (Nat.le_of_ble_eq_true rfl) zd_C_init_15 (fun q2 H hP hD hS => ?_)
  have hP : va_P (dC, dI) zs_cl [(q0, .inr (1, [.ref q1, .null, .null, .null, .null])), (q1, .inl (cI, 24, .inl (fun _ => 0))), (q2, .inl (cI, 24, .inl (fun _ => 0)))] H := hP
  have hD : va_D A [(q0, .inr (1, [.ref q1, .null, .null, .null, .null])), (q1, .inl (cI, 24, .inl (fun _ => 0))), (q2, .inl (cI, 24, .inl (fun _ => 0)))] := hD
  refine va_putF (D := (dC, dI)) (ci := 1) (v := .ref q2) (ty := (.array .int)) (C := "ZoneShelf$Contents") (T := zs_T_C) (N := 5) hx hb hz zs_in_C zs_t_C zs_tok_C zs_nok_C hown hk.1 hP hD hS 0 rfl rfl 1 (by decide) (hz _ zq_41) (fun _ h9 => h9) rfl hin rfl (by decide +kernel) rfl rfl (Nat.le_of_ble_eq_true rfl) zd_C_init_17 (fun H locs hP hD hS => ?_)
  have hP : va_P (dC, dI) zs_cl [(q0, .inr (1, [.ref q1, .ref q2, .null, .null, .null])), (q1, .inl (cI, 24, .inl (fun _ => 0))), (q2, .inl (cI, 24, .inl (fun _ => 0)))] H := hP
  have hD : va_D A [(q0, .inr (1, [.ref q1, .ref q2, .null, .null, .null])), (q1, .inl (cI, 24, .inl (fun _ => 0))), (q2, .inl (cI, 24, .inl (fun _ => 0)))] := hD
  refine lv_aload_n hx hb zd_C_init_20 rfl (lv_at hl 0 rfl) ?_
  refine lv_bipush (v := 24) hx hb zd_C_init_21 (by decide) ?_
  refine zi_newi (N := 24) hx hb hz zq_50 hk hP hD hS hA (by decide) (by decide) (by decide) (Nat.le_of_ble_eq_true rfl) (Nat.le_of_ble_eq_true rfl) zd_C_init_23 (fun q3 H hP hD hS => ?_)
  have hP : va_P (dC, dI) zs_cl [(q0, .inr (1, [.ref q1, .ref q2, .null, .null, .null])), (q1, .inl (cI, 24, .inl (fun _ => 0))), (q2, .inl (cI, 24, .inl (fun _ => 0))), (q3, .inl (cI, 24, .inl (fun _ => 0)))] H := hP
  have hD : va_D A [(q0, .inr (1, [.ref q1, .ref q2, .null, .null, .null])), (q1, .inl (cI, 24, .inl (fun _ => 0))), (q2, .inl (cI, 24, .inl (fun _ => 0))), (q3, .inl (cI, 24, .inl (fun _ => 0)))] := hD
  refine va_putF (D := (dC, dI)) (ci := 1) (v := .ref q3) (ty := (.array .int)) (C := "ZoneShelf$Contents") (T := zs_T_C) (N := 5) hx hb hz zs_in_C zs_t_C zs_tok_C zs_nok_C hown hk.1 hP hD hS 0 rfl rfl 2 (by decide) (hz _ zq_42) (fun _ h9 => h9) rfl hin rfl (by decide +kernel) rfl rfl (Nat.le_of_ble_eq_true rfl) zd_C_init_25 (fun H locs hP hD hS => ?_)
  have hP : va_P (dC, dI) zs_cl [(q0, .inr (1, [.ref q1, .ref q2, .ref q3, .null, .null])), (q1, .inl (cI, 24, .inl (fun _ => 0))), (q2, .inl (cI, 24, .inl (fun _ => 0))), (q3, .inl (cI, 24, .inl (fun _ => 0)))] H := hP
  have hD : va_D A [(q0, .inr (1, [.ref q1, .ref q2, .ref q3, .null, .null])), (q1, .inl (cI, 24, .inl (fun _ => 0))), (q2, .inl (cI, 24, .inl (fun _ => 0))), (q3, .inl (cI, 24, .inl (fun _ => 0)))] := hD
  refine lv_aload_n hx hb zd_C_init_28 rfl (lv_at hl 0 rfl) ?_
  refine lv_bipush (v := 24) hx hb zd_C_init_29 (by decide) ?_
  refine zi_newz (N := 24) hx hb hz zq_51 hk hP hD hS hA (by decide) (by decide) (by decide) (Nat.le_of_ble_eq_true rfl) (Nat.le_of_ble_eq_true rfl) zd_C_init_31 (fun q4 H hP hD hS => ?_)
  have hP : va_P (dC, dI) zs_cl [(q0, .inr (1, [.ref q1, .ref q2, .ref q3, .null, .null])), (q1, .inl (cI, 24, .inl (fun _ => 0))), (q2, .inl (cI, 24, .inl (fun _ => 0))), (q3, .inl (cI, 24, .inl (fun _ => 0))), (q4, .inl (cZ, 24, .inl (fun _ => 0)))] H := hP
  have hD : va_D A [(q0, .inr (1, [.ref q1, .ref q2, .ref q3, .null, .null])), (q1, .inl (cI, 24, .inl (fun _ => 0))), (q2, .inl (cI, 24, .inl (fun _ => 0))), (q3, .inl (cI, 24, .inl (fun _ => 0))), (q4, .inl (cZ, 24, .inl (fun _ => 0)))] := hD
  refine va_putF (D := (dC, dI)) (ci := 1) (v := .ref q4) (ty := (.array .boolean)) (C := "ZoneShelf$Contents") (T := zs_T_C) (N := 5) hx hb hz zs_in_C zs_t_C zs_tok_C zs_nok_C hown hk.1 hP hD hS 0 rfl rfl 3 (by decide) (hz _ zq_43) (fun _ h9 => h9) rfl hin rfl (by decide +kernel) rfl rfl (Nat.le_of_ble_eq_true rfl) zd_C_init_33 (fun H locs hP hD hS => ?_)
  have hP : va_P (dC, dI) zs_cl [(q0, .inr (1, [.ref q1, .ref q2, .ref q3, .ref q4, .null])), (q1, .inl (cI, 24, .inl (fun _ => 0))), (q2, .inl (cI, 24, .inl (fun _ => 0))), (q3, .inl (cI, 24, .inl (fun _ => 0))), (q4, .inl (cZ, 24, .inl (fun _ => 0)))] H := hP
  have hD : va_D A [(q0, .inr (1, [.ref q1, .ref q2, .ref q3, .ref q4, .null])), (q1, .inl (cI, 24, .inl (fun _ => 0))), (q2, .inl (cI, 24, .inl (fun _ => 0))), (q3, .inl (cI, 24, .inl (fun _ => 0))), (q4, .inl (cZ, 24, .inl (fun _ => 0)))] := hD
  refine lv_aload_n hx hb zd_C_init_36 rfl (lv_at hl 0 rfl) ?_
  refine lv_sipush (v := 1536) hx hb zd_C_init_37 (by decide) ?_
  refine zi_newi (N := 1536) hx hb hz zq_50 hk hP hD hS hA (by decide) (by decide) (by decide) (Nat.le_of_ble_eq_true rfl) (Nat.le_of_ble_eq_true rfl) zd_C_init_40 (fun q5 H hP hD hS => ?_)
  have hP : va_P (dC, dI) zs_cl [(q0, .inr (1, [.ref q1, .ref q2, .ref q3, .ref q4, .null])), (q1, .inl (cI, 24, .inl (fun _ => 0))), (q2, .inl (cI, 24, .inl (fun _ => 0))), (q3, .inl (cI, 24, .inl (fun _ => 0))), (q4, .inl (cZ, 24, .inl (fun _ => 0))), (q5, .inl (cI, 1536, .inl (fun _ => 0)))] H := hP
  have hD : va_D A [(q0, .inr (1, [.ref q1, .ref q2, .ref q3, .ref q4, .null])), (q1, .inl (cI, 24, .inl (fun _ => 0))), (q2, .inl (cI, 24, .inl (fun _ => 0))), (q3, .inl (cI, 24, .inl (fun _ => 0))), (q4, .inl (cZ, 24, .inl (fun _ => 0))), (q5, .inl (cI, 1536, .inl (fun _ => 0)))] := hD
  refine va_putF (D := (dC, dI)) (ci := 1) (v := .ref q5) (ty := (.array .int)) (C := "ZoneShelf$Contents") (T := zs_T_C) (N := 5) hx hb hz zs_in_C zs_t_C zs_tok_C zs_nok_C hown hk.1 hP hD hS 0 rfl rfl 4 (by decide) (hz _ zq_44) (fun _ h9 => h9) rfl hin rfl (by decide +kernel) rfl rfl (Nat.le_of_ble_eq_true rfl) zd_C_init_42 (fun H locs hP hD hS => ?_)
  have hP : va_P (dC, dI) zs_cl [(q0, .inr (1, [.ref q1, .ref q2, .ref q3, .ref q4, .ref q5])), (q1, .inl (cI, 24, .inl (fun _ => 0))), (q2, .inl (cI, 24, .inl (fun _ => 0))), (q3, .inl (cI, 24, .inl (fun _ => 0))), (q4, .inl (cZ, 24, .inl (fun _ => 0))), (q5, .inl (cI, 1536, .inl (fun _ => 0)))] H := hP
  have hD : va_D A [(q0, .inr (1, [.ref q1, .ref q2, .ref q3, .ref q4, .ref q5])), (q1, .inl (cI, 24, .inl (fun _ => 0))), (q2, .inl (cI, 24, .inl (fun _ => 0))), (q3, .inl (cI, 24, .inl (fun _ => 0))), (q4, .inl (cZ, 24, .inl (fun _ => 0))), (q5, .inl (cI, 1536, .inl (fun _ => 0)))] := hD
  refine lv_aload_n hx hb zd_C_init_45 rfl (lv_at hl 0 rfl) ?_
  refine va_get (D := (dC, dI)) (ci := 1) (v := .ref q1) (C := "ZoneShelf$Contents") (T := zs_T_C) (N := 5) hx hb hz zs_in_C hown hk.1 hP 0 rfl rfl 0 (by decide) (hz _ zq_40) (fun _ h9 => h9) rfl zd_C_init_46 ?_
  refine lv_iconst (v := (-1)) hx hb zd_C_init_49 (by decide) ?_
  refine zc_wS (rest := []) (wr := [(q0, .inr (1, [.ref q1, .ref q2, .ref q3, .ref q4, .ref q5])), (q2, .inl (cI, 24, .inl (fun _ => 0))), (q3, .inl (cI, 24, .inl (fun _ => 0))), (q4, .inl (cZ, 24, .inl (fun _ => 0))), (q5, .inl (cI, 1536, .inl (fun _ => 0)))]) [.ref q1, .int (-1)] hx hb hml hown hz (zc_J_fill l dC dI cI cZ q1 (fun _ => 0) H.size (-1)) zf_J_fill rfl rfl zq_37 zq_38 ⟨Nat.le_of_ble_eq_true rfl, Nat.le_of_ble_eq_true rfl⟩ hk hP hD hS hA [1] [0, 2, 3, 4, 5] rfl rfl (by decide) (by decide) (by decide) rfl hl.1 rfl (Nat.le_of_ble_eq_true rfl) zd_C_init_50 ⟨Nat.le_of_ble_eq_true rfl, Nat.le_of_ble_eq_true rfl⟩ (fun g H locs eg hP hD hS => ?_)
  obtain rfl : g = zs_fl (fun _ => 0) (-1) 24 := eg
  have hP : va_P (dC, dI) zs_cl [(q0, .inr (1, [.ref q1, .ref q2, .ref q3, .ref q4, .ref q5])), (q2, .inl (cI, 24, .inl (fun _ => 0))), (q3, .inl (cI, 24, .inl (fun _ => 0))), (q4, .inl (cZ, 24, .inl (fun _ => 0))), (q5, .inl (cI, 1536, .inl (fun _ => 0))), (q1, .inl (cI, 24, .inl (zs_fl (fun _ => 0) (-1) 24)))] H := hP
  have hD : va_D A [(q0, .inr (1, [.ref q1, .ref q2, .ref q3, .ref q4, .ref q5])), (q2, .inl (cI, 24, .inl (fun _ => 0))), (q3, .inl (cI, 24, .inl (fun _ => 0))), (q4, .inl (cZ, 24, .inl (fun _ => 0))), (q5, .inl (cI, 1536, .inl (fun _ => 0))), (q1, .inl (cI, 24, .inl (zs_fl (fun _ => 0) (-1) 24)))] := hD
  refine W.widen (k := 5) (n := 1632) (Nat.le_of_ble_eq_true rfl) (Nat.le_of_ble_eq_true rfl) ?_
  exact zw_vret (q1, q2, q3, q4, q5) hx hb hr hlocks zd_C_init_53 trivial (hP.sub [0, 5, 1, 2, 3, 4] rfl) (hD.sub [0, 5, 1, 2, 3, 4] (by decide) rfl) hS
set_option maxHeartbeats 4000000 in
set_option maxRecDepth 100000 in
theorem zc_X_init (l : Launch) (dC : Nat → ClassId) (dI : Nat → Nat → Nat) (cI cZ : ClassId) (h0 sz : Nat) : Met l zy_X_init (.code zy_X_init zb_X_init 1 none :: zs_w) ({ frames := 2, cells := 12, slots := 3274, locals := 43 }) (va_Pc [.ref h0] (zs_s dC dI cI cZ sz [(h0, .inr (0, [.null, .null, .int 0]))])) (va_Qv (fun v : Nat → Nat => v 0 = h0) (zs_e dC dI (fun v : Nat → Nat => zs_wX cI cZ v zs_0) (va_A ([(h0, .inr (0, [.null, .null, .int 0]))]) sz)) (va_A ([(h0, .inr (0, [.null, .null, .int 0]))]) sz)) 12 3274 (va_A ([(h0, .inr (0, [.null, .null, .int 0]))]) sz) := by
  refine Met.ofW (cc := zb_X_init) (maxL := 1) (ret := none) (by decide) rfl ?_
  intro p e s m args below meth c s₁ B hml hv
  obtain ⟨rfl, hsz, hP, hk, hD0⟩ := hv
  have hx := B.exec
  have hb := B.bytes
  have hr := B.returns
  have hts := atoms_spec (ws := .code zy_X_init zb_X_init 1 none :: zs_w) B.pre
  have hz : ∀ w ∈ zs_w, w.before _ s = true := fun w h => hts w (List.mem_cons_of_mem _ h)
  have hown : s.vm.findClass "ZoneShelf" = some m.cls := findClass_of_methodNamed B.named
  have hlocks := B.notSynchronized
  have hin : meth.name = "<init>" := (name_of_methodNamed B.named B.method).1
  subst hsz
  have hD := hD0.self (sz := s.heap.size)
  generalize hAe : va_A ([(h0, .inr (0, [.null, .null, .int 0]))]) s.heap.size = A at hD ⊢
  have hA : ∀ q : Nat, s.heap.size ≤ q → A q := fun q h => by rw [← hAe]; exact Or.inr h
  have hS : va_S A s.heap s.heap [] := va_S.rf
  have hP : va_P (dC, dI) zs_cl [(h0, .inr (0, [.null, .null, .int 0]))] s.heap := hP
  have hD : va_D A [(h0, .inr (0, [.null, .null, .int 0]))] := hD
  have hl := lv_entry ([.ref h0]) (n := 1) (Nat.le_of_ble_eq_true rfl)
  rw [lg_entry_eq]
  generalize (lg_sl ([.ref h0]) ++ List.replicate (1 - (lg_sl ([.ref h0])).length) Slot.unset).toArray = ls at hl ⊢
  have hl : lv_has ls 1 [(0, .ref h0)] := hl
  refine lv_aload_n hx hb zd_X_init_0 rfl (lv_at hl 0 rfl) ?_
  refine W.objInit hx hb hown (hz _ zq_29) (hz _ zq_30) (hz _ zq_31) rfl (by rw [hml]; exact hl.1) rfl zd_X_init_1 (Nat.le_of_ble_eq_true rfl) (Nat.le_of_ble_eq_true rfl) ?_
  refine W.eq (g2 := F0 m 4 ls []) rfl ?_
  refine lv_aload_n hx hb zd_X_init_4 rfl (lv_at hl 0 rfl) ?_
  refine va_new (ci := 1) (fs := [.null, .null, .null, .null, .null]) (C := "ZoneShelf$Contents") (T := zs_T_C) (N := 5) hx hb hz zs_in_C zs_t_C zs_tok_C hown (hz _ zq_32) (hz _ zq_33) (hz _ zq_19) hk.1 hP hD hS hA rfl (fun j hj => by rcases (show j = 0 ∨ j = 1 ∨ j = 2 ∨ j = 3 ∨ j = 4 by omega) with rfl | rfl | rfl | rfl | rfl <;> rfl) (Nat.le_of_ble_eq_true rfl) (Nat.le_of_ble_eq_true rfl) zd_X_init_5 (fun c1 H hP hD hS => ?_)
  have hP : va_P (dC, dI) zs_cl [(h0, .inr (0, [.null, .null, .int 0])), (c1, .inr (1, [.null, .null, .null, .null, .null]))] H := hP
  have hD : va_D A [(h0, .inr (0, [.null, .null, .int 0])), (c1, .inr (1, [.null, .null, .null, .null, .null]))] := hD
  refine lv_dup hx hb zd_X_init_8 rfl ?_
  refine zc_iN (rest := [.ref c1, .ref h0]) (wr := [(h0, .inr (0, [.null, .null, .int 0]))]) hx hb hml hown hz (zc_C_init l dC dI cI cZ c1 H.size) zf_C_init rfl rfl zv_0 zq_34 rfl ⟨Nat.le_of_ble_eq_true rfl, Nat.le_of_ble_eq_true rfl⟩ hk hP hD hS hA [1] [0] rfl rfl (by decide) (by decide) (by decide) hl.1 rfl (Nat.le_of_ble_eq_true rfl) zd_X_init_9 ⟨Nat.le_of_ble_eq_true rfl, Nat.le_of_ble_eq_true rfl⟩ (fun g H locs eg hP hD hS => ?_)
  obtain ⟨n1, h1, l1, o1, w1⟩ := g
  have hP : va_P (dC, dI) zs_cl [(h0, .inr (0, [.null, .null, .int 0])), (c1, .inr (1, [.ref n1, .ref h1, .ref l1, .ref o1, .ref w1])), (n1, .inl (cI, 24, .inl (zs_fl (fun _ => 0) (-1) 24))), (h1, .inl (cI, 24, .inl (fun _ => 0))), (l1, .inl (cI, 24, .inl (fun _ => 0))), (o1, .inl (cZ, 24, .inl (fun _ => 0))), (w1, .inl (cI, 1536, .inl (fun _ => 0)))] H := hP
  have hD : va_D A [(h0, .inr (0, [.null, .null, .int 0])), (c1, .inr (1, [.ref n1, .ref h1, .ref l1, .ref o1, .ref w1])), (n1, .inl (cI, 24, .inl (zs_fl (fun _ => 0) (-1) 24))), (h1, .inl (cI, 24, .inl (fun _ => 0))), (l1, .inl (cI, 24, .inl (fun _ => 0))), (o1, .inl (cZ, 24, .inl (fun _ => 0))), (w1, .inl (cI, 1536, .inl (fun _ => 0)))] := hD
  refine va_putF (D := (dC, dI)) (ci := 0) (v := .ref c1) (ty := (.object "ZoneShelf$Contents")) (C := "ZoneShelf") (T := zs_T_X) (N := 3) hx hb hz zs_in_X zs_t_X zs_tok_X zs_nok_X hown hk.1 hP hD hS 0 rfl rfl 0 (by decide) (hz _ zq_52) (fun _ h9 => h9) rfl hin rfl (by decide +kernel) rfl rfl (Nat.le_of_ble_eq_true rfl) zd_X_init_12 (fun H locs hP hD hS => ?_)
  have hP : va_P (dC, dI) zs_cl [(h0, .inr (0, [.ref c1, .null, .int 0])), (c1, .inr (1, [.ref n1, .ref h1, .ref l1, .ref o1, .ref w1])), (n1, .inl (cI, 24, .inl (zs_fl (fun _ => 0) (-1) 24))), (h1, .inl (cI, 24, .inl (fun _ => 0))), (l1, .inl (cI, 24, .inl (fun _ => 0))), (o1, .inl (cZ, 24, .inl (fun _ => 0))), (w1, .inl (cI, 1536, .inl (fun _ => 0)))] H := hP
  have hD : va_D A [(h0, .inr (0, [.ref c1, .null, .int 0])), (c1, .inr (1, [.ref n1, .ref h1, .ref l1, .ref o1, .ref w1])), (n1, .inl (cI, 24, .inl (zs_fl (fun _ => 0) (-1) 24))), (h1, .inl (cI, 24, .inl (fun _ => 0))), (l1, .inl (cI, 24, .inl (fun _ => 0))), (o1, .inl (cZ, 24, .inl (fun _ => 0))), (w1, .inl (cI, 1536, .inl (fun _ => 0)))] := hD
  refine lv_aload_n hx hb zd_X_init_15 rfl (lv_at hl 0 rfl) ?_
  refine va_new (ci := 1) (fs := [.null, .null, .null, .null, .null]) (C := "ZoneShelf$Contents") (T := zs_T_C) (N := 5) hx hb hz zs_in_C zs_t_C zs_tok_C hown (hz _ zq_32) (hz _ zq_33) (hz _ zq_19) hk.1 hP hD hS hA rfl (fun j hj => by rcases (show j = 0 ∨ j = 1 ∨ j = 2 ∨ j = 3 ∨ j = 4 by omega) with rfl | rfl | rfl | rfl | rfl <;> rfl) (Nat.le_of_ble_eq_true rfl) (Nat.le_of_ble_eq_true rfl) zd_X_init_16 (fun c2 H hP hD hS => ?_)
  have hP : va_P (dC, dI) zs_cl [(h0, .inr (0, [.ref c1, .null, .int 0])), (c1, .inr (1, [.ref n1, .ref h1, .ref l1, .ref o1, .ref w1])), (n1, .inl (cI, 24, .inl (zs_fl (fun _ => 0) (-1) 24))), (h1, .inl (cI, 24, .inl (fun _ => 0))), (l1, .inl (cI, 24, .inl (fun _ => 0))), (o1, .inl (cZ, 24, .inl (fun _ => 0))), (w1, .inl (cI, 1536, .inl (fun _ => 0))), (c2, .inr (1, [.null, .null, .null, .null, .null]))] H := hP
  have hD : va_D A [(h0, .inr (0, [.ref c1, .null, .int 0])), (c1, .inr (1, [.ref n1, .ref h1, .ref l1, .ref o1, .ref w1])), (n1, .inl (cI, 24, .inl (zs_fl (fun _ => 0) (-1) 24))), (h1, .inl (cI, 24, .inl (fun _ => 0))), (l1, .inl (cI, 24, .inl (fun _ => 0))), (o1, .inl (cZ, 24, .inl (fun _ => 0))), (w1, .inl (cI, 1536, .inl (fun _ => 0))), (c2, .inr (1, [.null, .null, .null, .null, .null]))] := hD
  refine lv_dup hx hb zd_X_init_19 rfl ?_
  refine zc_iN (rest := [.ref c2, .ref h0]) (wr := [(h0, .inr (0, [.ref c1, .null, .int 0])), (c1, .inr (1, [.ref n1, .ref h1, .ref l1, .ref o1, .ref w1])), (n1, .inl (cI, 24, .inl (zs_fl (fun _ => 0) (-1) 24))), (h1, .inl (cI, 24, .inl (fun _ => 0))), (l1, .inl (cI, 24, .inl (fun _ => 0))), (o1, .inl (cZ, 24, .inl (fun _ => 0))), (w1, .inl (cI, 1536, .inl (fun _ => 0)))]) hx hb hml hown hz (zc_C_init l dC dI cI cZ c2 H.size) zf_C_init rfl rfl zv_0 zq_34 rfl ⟨Nat.le_of_ble_eq_true rfl, Nat.le_of_ble_eq_true rfl⟩ hk hP hD hS hA [7] [0, 1, 2, 3, 4, 5, 6] rfl rfl (by decide) (by decide) (by decide) hl.1 rfl (Nat.le_of_ble_eq_true rfl) zd_X_init_20 ⟨Nat.le_of_ble_eq_true rfl, Nat.le_of_ble_eq_true rfl⟩ (fun g H locs eg hP hD hS => ?_)
  obtain ⟨n2, h2, l2, o2, w2⟩ := g
  have hP : va_P (dC, dI) zs_cl [(h0, .inr (0, [.ref c1, .null, .int 0])), (c1, .inr (1, [.ref n1, .ref h1, .ref l1, .ref o1, .ref w1])), (n1, .inl (cI, 24, .inl (zs_fl (fun _ => 0) (-1) 24))), (h1, .inl (cI, 24, .inl (fun _ => 0))), (l1, .inl (cI, 24, .inl (fun _ => 0))), (o1, .inl (cZ, 24, .inl (fun _ => 0))), (w1, .inl (cI, 1536, .inl (fun _ => 0))), (c2, .inr (1, [.ref n2, .ref h2, .ref l2, .ref o2, .ref w2])), (n2, .inl (cI, 24, .inl (zs_fl (fun _ => 0) (-1) 24))), (h2, .inl (cI, 24, .inl (fun _ => 0))), (l2, .inl (cI, 24, .inl (fun _ => 0))), (o2, .inl (cZ, 24, .inl (fun _ => 0))), (w2, .inl (cI, 1536, .inl (fun _ => 0)))] H := hP
  have hD : va_D A [(h0, .inr (0, [.ref c1, .null, .int 0])), (c1, .inr (1, [.ref n1, .ref h1, .ref l1, .ref o1, .ref w1])), (n1, .inl (cI, 24, .inl (zs_fl (fun _ => 0) (-1) 24))), (h1, .inl (cI, 24, .inl (fun _ => 0))), (l1, .inl (cI, 24, .inl (fun _ => 0))), (o1, .inl (cZ, 24, .inl (fun _ => 0))), (w1, .inl (cI, 1536, .inl (fun _ => 0))), (c2, .inr (1, [.ref n2, .ref h2, .ref l2, .ref o2, .ref w2])), (n2, .inl (cI, 24, .inl (zs_fl (fun _ => 0) (-1) 24))), (h2, .inl (cI, 24, .inl (fun _ => 0))), (l2, .inl (cI, 24, .inl (fun _ => 0))), (o2, .inl (cZ, 24, .inl (fun _ => 0))), (w2, .inl (cI, 1536, .inl (fun _ => 0)))] := hD
  refine va_putF (D := (dC, dI)) (ci := 0) (v := .ref c2) (ty := (.object "ZoneShelf$Contents")) (C := "ZoneShelf") (T := zs_T_X) (N := 3) hx hb hz zs_in_X zs_t_X zs_tok_X zs_nok_X hown hk.1 hP hD hS 0 rfl rfl 1 (by decide) (hz _ zq_53) (fun _ h9 => h9) rfl hin rfl (by decide +kernel) rfl rfl (Nat.le_of_ble_eq_true rfl) zd_X_init_23 (fun H locs hP hD hS => ?_)
  have hP : va_P (dC, dI) zs_cl [(h0, .inr (0, [.ref c1, .ref c2, .int 0])), (c1, .inr (1, [.ref n1, .ref h1, .ref l1, .ref o1, .ref w1])), (n1, .inl (cI, 24, .inl (zs_fl (fun _ => 0) (-1) 24))), (h1, .inl (cI, 24, .inl (fun _ => 0))), (l1, .inl (cI, 24, .inl (fun _ => 0))), (o1, .inl (cZ, 24, .inl (fun _ => 0))), (w1, .inl (cI, 1536, .inl (fun _ => 0))), (c2, .inr (1, [.ref n2, .ref h2, .ref l2, .ref o2, .ref w2])), (n2, .inl (cI, 24, .inl (zs_fl (fun _ => 0) (-1) 24))), (h2, .inl (cI, 24, .inl (fun _ => 0))), (l2, .inl (cI, 24, .inl (fun _ => 0))), (o2, .inl (cZ, 24, .inl (fun _ => 0))), (w2, .inl (cI, 1536, .inl (fun _ => 0)))] H := hP
  have hD : va_D A [(h0, .inr (0, [.ref c1, .ref c2, .int 0])), (c1, .inr (1, [.ref n1, .ref h1, .ref l1, .ref o1, .ref w1])), (n1, .inl (cI, 24, .inl (zs_fl (fun _ => 0) (-1) 24))), (h1, .inl (cI, 24, .inl (fun _ => 0))), (l1, .inl (cI, 24, .inl (fun _ => 0))), (o1, .inl (cZ, 24, .inl (fun _ => 0))), (w1, .inl (cI, 1536, .inl (fun _ => 0))), (c2, .inr (1, [.ref n2, .ref h2, .ref l2, .ref o2, .ref w2])), (n2, .inl (cI, 24, .inl (zs_fl (fun _ => 0) (-1) 24))), (h2, .inl (cI, 24, .inl (fun _ => 0))), (l2, .inl (cI, 24, .inl (fun _ => 0))), (o2, .inl (cZ, 24, .inl (fun _ => 0))), (w2, .inl (cI, 1536, .inl (fun _ => 0)))] := hD
  refine lv_aload_n hx hb zd_X_init_26 rfl (lv_at hl 0 rfl) ?_
  refine lv_iconst (v := 1) hx hb zd_X_init_27 (by decide) ?_
  refine va_put (D := (dC, dI)) (ci := 0) (v := .int 1) (ty := .boolean) (C := "ZoneShelf") (T := zs_T_X) (N := 3) hx hb hz zs_in_X zs_t_X zs_tok_X zs_nok_X hown hk.1 hP hD hS 0 rfl rfl 2 (by decide) (hz _ zq_54) (fun _ h9 => h9) rfl (by decide +kernel) rfl rfl (Nat.le_of_ble_eq_true rfl) zd_X_init_28 (fun H locs hP hD hS => ?_)
  have hP : va_P (dC, dI) zs_cl [(h0, .inr (0, [.ref c1, .ref c2, .int (zs_b true)])), (c1, .inr (1, [.ref n1, .ref h1, .ref l1, .ref o1, .ref w1])), (n1, .inl (cI, 24, .inl (zs_fl (fun _ => 0) (-1) 24))), (h1, .inl (cI, 24, .inl (fun _ => 0))), (l1, .inl (cI, 24, .inl (fun _ => 0))), (o1, .inl (cZ, 24, .inl (fun _ => 0))), (w1, .inl (cI, 1536, .inl (fun _ => 0))), (c2, .inr (1, [.ref n2, .ref h2, .ref l2, .ref o2, .ref w2])), (n2, .inl (cI, 24, .inl (zs_fl (fun _ => 0) (-1) 24))), (h2, .inl (cI, 24, .inl (fun _ => 0))), (l2, .inl (cI, 24, .inl (fun _ => 0))), (o2, .inl (cZ, 24, .inl (fun _ => 0))), (w2, .inl (cI, 1536, .inl (fun _ => 0)))] H := hP
  have hD : va_D A [(h0, .inr (0, [.ref c1, .ref c2, .int (zs_b true)])), (c1, .inr (1, [.ref n1, .ref h1, .ref l1, .ref o1, .ref w1])), (n1, .inl (cI, 24, .inl (zs_fl (fun _ => 0) (-1) 24))), (h1, .inl (cI, 24, .inl (fun _ => 0))), (l1, .inl (cI, 24, .inl (fun _ => 0))), (o1, .inl (cZ, 24, .inl (fun _ => 0))), (w1, .inl (cI, 1536, .inl (fun _ => 0))), (c2, .inr (1, [.ref n2, .ref h2, .ref l2, .ref o2, .ref w2])), (n2, .inl (cI, 24, .inl (zs_fl (fun _ => 0) (-1) 24))), (h2, .inl (cI, 24, .inl (fun _ => 0))), (l2, .inl (cI, 24, .inl (fun _ => 0))), (o2, .inl (cZ, 24, .inl (fun _ => 0))), (w2, .inl (cI, 1536, .inl (fun _ => 0)))] := hD
  refine W.widen (k := 12) (n := 3274) (Nat.le_of_ble_eq_true rfl) (Nat.le_of_ble_eq_true rfl) ?_
  exact zw_vret (fun k => [h0, c1, n1, h1, l1, o1, w1, c2, n2, h2, l2, o2, w2].getD k 0) hx hb hr hlocks zd_X_init_31 rfl (hP.sub [0, 1, 2, 3, 4, 5, 6, 7, 8, 9, 10, 11, 12] rfl) (hD.sub [0, 1, 2, 3, 4, 5, 6, 7, 8, 9, 10, 11, 12] (by decide) rfl) hS
set_option maxHeartbeats 4000000 in
set_option maxRecDepth 100000 in
theorem zc_M_init (l : Launch) (dC : Nat → ClassId) (dI : Nat → Nat → Nat) (cI cZ : ClassId) (h0 sz : Nat) : Met l zy_M_init (.code zy_M_init zb_M_init 1 none :: zs_w) ({ frames := 1, cells := 10, slots := 3264, locals := 20 }) (va_Pc [.ref h0] (zs_s dC dI cI cZ sz [(h0, .inr (2, [.int 0, .null, .null, .null, .null, .null, .null, .null, .null, .null, .null]))])) (va_Qv (fun v : Nat → Nat => v 0 = h0) (zs_e dC dI (fun v : Nat → Nat => zs_wM cI cZ v zm_0) (va_A ([(h0, .inr (2, [.int 0, .null, .null, .null, .null, .null, .null, .null, .null, .null, .null]))]) sz)) (va_A ([(h0, .inr (2, [.int 0, .null, .null, .null, .null, .null, .null, .null, .null, .null, .null]))]) sz)) 10 3264 (va_A ([(h0, .inr (2, [.int 0, .null, .null, .null, .null, .null, .null, .null, .null, .null, .null]))]) sz) := by
  refine Met.ofW (cc := zb_M_init) (maxL := 1) (ret := none) (by decide) rfl ?_
  intro p e s m args below meth c s₁ B hml hv
  obtain ⟨rfl, hsz, hP, hk, hD0⟩ := hv
  have hx := B.exec
  have hb := B.bytes
  have hr := B.returns
  have hts := atoms_spec (ws := .code zy_M_init zb_M_init 1 none :: zs_w) B.pre
  have hz : ∀ w ∈ zs_w, w.before _ s = true := fun w h => hts w (List.mem_cons_of_mem _ h)
  have hown : s.vm.findClass "ZoneShelfModel" = some m.cls := findClass_of_methodNamed B.named
  have hlocks := B.notSynchronized
  have hin : meth.name = "<init>" := (name_of_methodNamed B.named B.method).1
  subst hsz
  have hD := hD0.self (sz := s.heap.size)
  generalize hAe : va_A ([(h0, .inr (2, [.int 0, .null, .null, .null, .null, .null, .null, .null, .null, .null, .null]))]) s.heap.size = A at hD ⊢
  have hA : ∀ q : Nat, s.heap.size ≤ q → A q := fun q h => by rw [← hAe]; exact Or.inr h
  have hS : va_S A s.heap s.heap [] := va_S.rf
  have hP : va_P (dC, dI) zs_cl [(h0, .inr (2, [.int 0, .null, .null, .null, .null, .null, .null, .null, .null, .null, .null]))] s.heap := hP
  have hD : va_D A [(h0, .inr (2, [.int 0, .null, .null, .null, .null, .null, .null, .null, .null, .null, .null]))] := hD
  have hl := lv_entry ([.ref h0]) (n := 1) (Nat.le_of_ble_eq_true rfl)
  rw [lg_entry_eq]
  generalize (lg_sl ([.ref h0]) ++ List.replicate (1 - (lg_sl ([.ref h0])).length) Slot.unset).toArray = ls at hl ⊢
  have hl : lv_has ls 1 [(0, .ref h0)] := hl
  refine lv_aload_n hx hb zd_M_init_0 rfl (lv_at hl 0 rfl) ?_
  refine W.objInit hx hb hown (hz _ zq_182) (hz _ zq_30) (hz _ zq_31) rfl (by rw [hml]; exact hl.1) rfl zd_M_init_1 (Nat.le_of_ble_eq_true rfl) (Nat.le_of_ble_eq_true rfl) ?_
  refine W.eq (g2 := F0 m 4 ls []) rfl ?_
  refine lv_aload_n hx hb zd_M_init_4 rfl (lv_at hl 0 rfl) ?_
  refine lv_iconst (v := 1) hx hb zd_M_init_5 (by decide) ?_
  refine va_put (D := (dC, dI)) (ci := 2) (v := .int 1) (ty := .boolean) (C := "ZoneShelfModel") (T := zs_T_M) (N := 11) hx hb hz zs_in_M zs_t_M zs_tok_M zs_nok_M hown hk.1 hP hD hS 0 rfl rfl 0 (by decide) (hz _ zq_183) (fun _ h9 => h9) rfl (by decide +kernel) rfl rfl (Nat.le_of_ble_eq_true rfl) zd_M_init_6 (fun H locs hP hD hS => ?_)
  have hP : va_P (dC, dI) zs_cl [(h0, .inr (2, [.int (zs_b true), .null, .null, .null, .null, .null, .null, .null, .null, .null, .null]))] H := hP
  have hD : va_D A [(h0, .inr (2, [.int (zs_b true), .null, .null, .null, .null, .null, .null, .null, .null, .null, .null]))] := hD
  refine lv_aload_n hx hb zd_M_init_9 rfl (lv_at hl 0 rfl) ?_
  refine lv_bipush (v := 24) hx hb zd_M_init_10 (by decide) ?_
  refine zi_newi (N := 24) hx hb hz zq_50 hk hP hD hS hA (by decide) (by decide) (by decide) (Nat.le_of_ble_eq_true rfl) (Nat.le_of_ble_eq_true rfl) zd_M_init_12 (fun q1 H hP hD hS => ?_)
  have hP : va_P (dC, dI) zs_cl [(h0, .inr (2, [.int (zs_b true), .null, .null, .null, .null, .null, .null, .null, .null, .null, .null])), (q1, .inl (cI, 24, .inl (fun _ => 0)))] H := hP
  have hD : va_D A [(h0, .inr (2, [.int (zs_b true), .null, .null, .null, .null, .null, .null, .null, .null, .null, .null])), (q1, .inl (cI, 24, .inl (fun _ => 0)))] := hD
  refine va_putF (D := (dC, dI)) (ci := 2) (v := .ref q1) (ty := (.array .int)) (C := "ZoneShelfModel") (T := zs_T_M) (N := 11) hx hb hz zs_in_M zs_t_M zs_tok_M zs_nok_M hown hk.1 hP hD hS 0 rfl rfl 1 (by decide) (hz _ zq_184) (fun _ h9 => h9) rfl hin rfl (by decide +kernel) rfl rfl (Nat.le_of_ble_eq_true rfl) zd_M_init_14 (fun H locs hP hD hS => ?_)
  have hP : va_P (dC, dI) zs_cl [(h0, .inr (2, [.int (zs_b true), .ref q1, .null, .null, .null, .null, .null, .null, .null, .null, .null])), (q1, .inl (cI, 24, .inl (fun _ => 0)))] H := hP
  have hD : va_D A [(h0, .inr (2, [.int (zs_b true), .ref q1, .null, .null, .null, .null, .null, .null, .null, .null, .null])), (q1, .inl (cI, 24, .inl (fun _ => 0)))] := hD
  refine lv_aload_n hx hb zd_M_init_17 rfl (lv_at hl 0 rfl) ?_
  refine lv_bipush (v := 24) hx hb zd_M_init_18 (by decide) ?_
  refine zi_newi (N := 24) hx hb hz zq_50 hk hP hD hS hA (by decide) (by decide) (by decide) (Nat.le_of_ble_eq_true rfl) (Nat.le_of_ble_eq_true rfl) zd_M_init_20 (fun q2 H hP hD hS => ?_)
  have hP : va_P (dC, dI) zs_cl [(h0, .inr (2, [.int (zs_b true), .ref q1, .null, .null, .null, .null, .null, .null, .null, .null, .null])), (q1, .inl (cI, 24, .inl (fun _ => 0))), (q2, .inl (cI, 24, .inl (fun _ => 0)))] H := hP
  have hD : va_D A [(h0, .inr (2, [.int (zs_b true), .ref q1, .null, .null, .null, .null, .null, .null, .null, .null, .null])), (q1, .inl (cI, 24, .inl (fun _ => 0))), (q2, .inl (cI, 24, .inl (fun _ => 0)))] := hD
  refine va_putF (D := (dC, dI)) (ci := 2) (v := .ref q2) (ty := (.array .int)) (C := "ZoneShelfModel") (T := zs_T_M) (N := 11) hx hb hz zs_in_M zs_t_M zs_tok_M zs_nok_M hown hk.1 hP hD hS 0 rfl rfl 2 (by decide) (hz _ zq_185) (fun _ h9 => h9) rfl hin rfl (by decide +kernel) rfl rfl (Nat.le_of_ble_eq_true rfl) zd_M_init_22 (fun H locs hP hD hS => ?_)
  have hP : va_P (dC, dI) zs_cl [(h0, .inr (2, [.int (zs_b true), .ref q1, .ref q2, .null, .null, .null, .null, .null, .null, .null, .null])), (q1, .inl (cI, 24, .inl (fun _ => 0))), (q2, .inl (cI, 24, .inl (fun _ => 0)))] H := hP
  have hD : va_D A [(h0, .inr (2, [.int (zs_b true), .ref q1, .ref q2, .null, .null, .null, .null, .null, .null, .null, .null])), (q1, .inl (cI, 24, .inl (fun _ => 0))), (q2, .inl (cI, 24, .inl (fun _ => 0)))] := hD
  refine lv_aload_n hx hb zd_M_init_25 rfl (lv_at hl 0 rfl) ?_
  refine lv_bipush (v := 24) hx hb zd_M_init_26 (by decide) ?_
  refine zi_newi (N := 24) hx hb hz zq_50 hk hP hD hS hA (by decide) (by decide) (by decide) (Nat.le_of_ble_eq_true rfl) (Nat.le_of_ble_eq_true rfl) zd_M_init_28 (fun q3 H hP hD hS => ?_)
  have hP : va_P (dC, dI) zs_cl [(h0, .inr (2, [.int (zs_b true), .ref q1, .ref q2, .null, .null, .null, .null, .null, .null, .null, .null])), (q1, .inl (cI, 24, .inl (fun _ => 0))), (q2, .inl (cI, 24, .inl (fun _ => 0))), (q3, .inl (cI, 24, .inl (fun _ => 0)))] H := hP
  have hD : va_D A [(h0, .inr (2, [.int (zs_b true), .ref q1, .ref q2, .null, .null, .null, .null, .null, .null, .null, .null])), (q1, .inl (cI, 24, .inl (fun _ => 0))), (q2, .inl (cI, 24, .inl (fun _ => 0))), (q3, .inl (cI, 24, .inl (fun _ => 0)))] := hD
  refine va_putF (D := (dC, dI)) (ci := 2) (v := .ref q3) (ty := (.array .int)) (C := "ZoneShelfModel") (T := zs_T_M) (N := 11) hx hb hz zs_in_M zs_t_M zs_tok_M zs_nok_M hown hk.1 hP hD hS 0 rfl rfl 3 (by decide) (hz _ zq_186) (fun _ h9 => h9) rfl hin rfl (by decide +kernel) rfl rfl (Nat.le_of_ble_eq_true rfl) zd_M_init_30 (fun H locs hP hD hS => ?_)
  have hP : va_P (dC, dI) zs_cl [(h0, .inr (2, [.int (zs_b true), .ref q1, .ref q2, .ref q3, .null, .null, .null, .null, .null, .null, .null])), (q1, .inl (cI, 24, .inl (fun _ => 0))), (q2, .inl (cI, 24, .inl (fun _ => 0))), (q3, .inl (cI, 24, .inl (fun _ => 0)))] H := hP
  have hD : va_D A [(h0, .inr (2, [.int (zs_b true), .ref q1, .ref q2, .ref q3, .null, .null, .null, .null, .null, .null, .null])), (q1, .inl (cI, 24, .inl (fun _ => 0))), (q2, .inl (cI, 24, .inl (fun _ => 0))), (q3, .inl (cI, 24, .inl (fun _ => 0)))] := hD
  refine lv_aload_n hx hb zd_M_init_33 rfl (lv_at hl 0 rfl) ?_
  refine lv_bipush (v := 24) hx hb zd_M_init_34 (by decide) ?_
  refine zi_newz (N := 24) hx hb hz zq_51 hk hP hD hS hA (by decide) (by decide) (by decide) (Nat.le_of_ble_eq_true rfl) (Nat.le_of_ble_eq_true rfl) zd_M_init_36 (fun q4 H hP hD hS => ?_)
  have hP : va_P (dC, dI) zs_cl [(h0, .inr (2, [.int (zs_b true), .ref q1, .ref q2, .ref q3, .null, .null, .null, .null, .null, .null, .null])), (q1, .inl (cI, 24, .inl (fun _ => 0))), (q2, .inl (cI, 24, .inl (fun _ => 0))), (q3, .inl (cI, 24, .inl (fun _ => 0))), (q4, .inl (cZ, 24, .inl (fun _ => 0)))] H := hP
  have hD : va_D A [(h0, .inr (2, [.int (zs_b true), .ref q1, .ref q2, .ref q3, .null, .null, .null, .null, .null, .null, .null])), (q1, .inl (cI, 24, .inl (fun _ => 0))), (q2, .inl (cI, 24, .inl (fun _ => 0))), (q3, .inl (cI, 24, .inl (fun _ => 0))), (q4, .inl (cZ, 24, .inl (fun _ => 0)))] := hD
  refine va_putF (D := (dC, dI)) (ci := 2) (v := .ref q4) (ty := (.array .boolean)) (C := "ZoneShelfModel") (T := zs_T_M) (N := 11) hx hb hz zs_in_M zs_t_M zs_tok_M zs_nok_M hown hk.1 hP hD hS 0 rfl rfl 4 (by decide) (hz _ zq_187) (fun _ h9 => h9) rfl hin rfl (by decide +kernel) rfl rfl (Nat.le_of_ble_eq_true rfl) zd_M_init_38 (fun H locs hP hD hS => ?_)
  have hP : va_P (dC, dI) zs_cl [(h0, .inr (2, [.int (zs_b true), .ref q1, .ref q2, .ref q3, .ref q4, .null, .null, .null, .null, .null, .null])), (q1, .inl (cI, 24, .inl (fun _ => 0))), (q2, .inl (cI, 24, .inl (fun _ => 0))), (q3, .inl (cI, 24, .inl (fun _ => 0))), (q4, .inl (cZ, 24, .inl (fun _ => 0)))] H := hP
  have hD : va_D A [(h0, .inr (2, [.int (zs_b true), .ref q1, .ref q2, .ref q3, .ref q4, .null, .null, .null, .null, .null, .null])), (q1, .inl (cI, 24, .inl (fun _ => 0))), (q2, .inl (cI, 24, .inl (fun _ => 0))), (q3, .inl (cI, 24, .inl (fun _ => 0))), (q4, .inl (cZ, 24, .inl (fun _ => 0)))] := hD
  refine lv_aload_n hx hb zd_M_init_41 rfl (lv_at hl 0 rfl) ?_
  refine lv_sipush (v := 1536) hx hb zd_M_init_42 (by decide) ?_
  refine zi_newi (N := 1536) hx hb hz zq_50 hk hP hD hS hA (by decide) (by decide) (by decide) (Nat.le_of_ble_eq_true rfl) (Nat.le_of_ble_eq_true rfl) zd_M_init_45 (fun q5 H hP hD hS => ?_)
  have hP : va_P (dC, dI) zs_cl [(h0, .inr (2, [.int (zs_b true), .ref q1, .ref q2, .ref q3, .ref q4, .null, .null, .null, .null, .null, .null])), (q1, .inl (cI, 24, .inl (fun _ => 0))), (q2, .inl (cI, 24, .inl (fun _ => 0))), (q3, .inl (cI, 24, .inl (fun _ => 0))), (q4, .inl (cZ, 24, .inl (fun _ => 0))), (q5, .inl (cI, 1536, .inl (fun _ => 0)))] H := hP
  have hD : va_D A [(h0, .inr (2, [.int (zs_b true), .ref q1, .ref q2, .ref q3, .ref q4, .null, .null, .null, .null, .null, .null])), (q1, .inl (cI, 24, .inl (fun _ => 0))), (q2, .inl (cI, 24, .inl (fun _ => 0))), (q3, .inl (cI, 24, .inl (fun _ => 0))), (q4, .inl (cZ, 24, .inl (fun _ => 0))), (q5, .inl (cI, 1536, .inl (fun _ => 0)))] := hD
  refine va_putF (D := (dC, dI)) (ci := 2) (v := .ref q5) (ty := (.array .int)) (C := "ZoneShelfModel") (T := zs_T_M) (N := 11) hx hb hz zs_in_M zs_t_M zs_tok_M zs_nok_M hown hk.1 hP hD hS 0 rfl rfl 5 (by decide) (hz _ zq_188) (fun _ h9 => h9) rfl hin rfl (by decide +kernel) rfl rfl (Nat.le_of_ble_eq_true rfl) zd_M_init_47 (fun H locs hP hD hS => ?_)
  have hP : va_P (dC, dI) zs_cl [(h0, .inr (2, [.int (zs_b true), .ref q1, .ref q2, .ref q3, .ref q4, .ref q5, .null, .null, .null, .null, .null])), (q1, .inl (cI, 24, .inl (fun _ => 0))), (q2, .inl (cI, 24, .inl (fun _ => 0))), (q3, .inl (cI, 24, .inl (fun _ => 0))), (q4, .inl (cZ, 24, .inl (fun _ => 0))), (q5, .inl (cI, 1536, .inl (fun _ => 0)))] H := hP
  have hD : va_D A [(h0, .inr (2, [.int (zs_b true), .ref q1, .ref q2, .ref q3, .ref q4, .ref q5, .null, .null, .null, .null, .null])), (q1, .inl (cI, 24, .inl (fun _ => 0))), (q2, .inl (cI, 24, .inl (fun _ => 0))), (q3, .inl (cI, 24, .inl (fun _ => 0))), (q4, .inl (cZ, 24, .inl (fun _ => 0))), (q5, .inl (cI, 1536, .inl (fun _ => 0)))] := hD
  refine lv_aload_n hx hb zd_M_init_50 rfl (lv_at hl 0 rfl) ?_
  refine lv_bipush (v := 24) hx hb zd_M_init_51 (by decide) ?_
  refine zi_newi (N := 24) hx hb hz zq_50 hk hP hD hS hA (by decide) (by decide) (by decide) (Nat.le_of_ble_eq_true rfl) (Nat.le_of_ble_eq_true rfl) zd_M_init_53 (fun q6 H hP hD hS => ?_)
  have hP : va_P (dC, dI) zs_cl [(h0, .inr (2, [.int (zs_b true), .ref q1, .ref q2, .ref q3, .ref q4, .ref q5, .null, .null, .null, .null, .null])), (q1, .inl (cI, 24, .inl (fun _ => 0))), (q2, .inl (cI, 24, .inl (fun _ => 0))), (q3, .inl (cI, 24, .inl (fun _ => 0))), (q4, .inl (cZ, 24, .inl (fun _ => 0))), (q5, .inl (cI, 1536, .inl (fun _ => 0))), (q6, .inl (cI, 24, .inl (fun _ => 0)))] H := hP
  have hD : va_D A [(h0, .inr (2, [.int (zs_b true), .ref q1, .ref q2, .ref q3, .ref q4, .ref q5, .null, .null, .null, .null, .null])), (q1, .inl (cI, 24, .inl (fun _ => 0))), (q2, .inl (cI, 24, .inl (fun _ => 0))), (q3, .inl (cI, 24, .inl (fun _ => 0))), (q4, .inl (cZ, 24, .inl (fun _ => 0))), (q5, .inl (cI, 1536, .inl (fun _ => 0))), (q6, .inl (cI, 24, .inl (fun _ => 0)))] := hD
  refine va_putF (D := (dC, dI)) (ci := 2) (v := .ref q6) (ty := (.array .int)) (C := "ZoneShelfModel") (T := zs_T_M) (N := 11) hx hb hz zs_in_M zs_t_M zs_tok_M zs_nok_M hown hk.1 hP hD hS 0 rfl rfl 6 (by decide) (hz _ zq_189) (fun _ h9 => h9) rfl hin rfl (by decide +kernel) rfl rfl (Nat.le_of_ble_eq_true rfl) zd_M_init_55 (fun H locs hP hD hS => ?_)
  have hP : va_P (dC, dI) zs_cl [(h0, .inr (2, [.int (zs_b true), .ref q1, .ref q2, .ref q3, .ref q4, .ref q5, .ref q6, .null, .null, .null, .null])), (q1, .inl (cI, 24, .inl (fun _ => 0))), (q2, .inl (cI, 24, .inl (fun _ => 0))), (q3, .inl (cI, 24, .inl (fun _ => 0))), (q4, .inl (cZ, 24, .inl (fun _ => 0))), (q5, .inl (cI, 1536, .inl (fun _ => 0))), (q6, .inl (cI, 24, .inl (fun _ => 0)))] H := hP
  have hD : va_D A [(h0, .inr (2, [.int (zs_b true), .ref q1, .ref q2, .ref q3, .ref q4, .ref q5, .ref q6, .null, .null, .null, .null])), (q1, .inl (cI, 24, .inl (fun _ => 0))), (q2, .inl (cI, 24, .inl (fun _ => 0))), (q3, .inl (cI, 24, .inl (fun _ => 0))), (q4, .inl (cZ, 24, .inl (fun _ => 0))), (q5, .inl (cI, 1536, .inl (fun _ => 0))), (q6, .inl (cI, 24, .inl (fun _ => 0)))] := hD
  refine lv_aload_n hx hb zd_M_init_58 rfl (lv_at hl 0 rfl) ?_
  refine lv_bipush (v := 24) hx hb zd_M_init_59 (by decide) ?_
  refine zi_newi (N := 24) hx hb hz zq_50 hk hP hD hS hA (by decide) (by decide) (by decide) (Nat.le_of_ble_eq_true rfl) (Nat.le_of_ble_eq_true rfl) zd_M_init_61 (fun q7 H hP hD hS => ?_)
  have hP : va_P (dC, dI) zs_cl [(h0, .inr (2, [.int (zs_b true), .ref q1, .ref q2, .ref q3, .ref q4, .ref q5, .ref q6, .null, .null, .null, .null])), (q1, .inl (cI, 24, .inl (fun _ => 0))), (q2, .inl (cI, 24, .inl (fun _ => 0))), (q3, .inl (cI, 24, .inl (fun _ => 0))), (q4, .inl (cZ, 24, .inl (fun _ => 0))), (q5, .inl (cI, 1536, .inl (fun _ => 0))), (q6, .inl (cI, 24, .inl (fun _ => 0))), (q7, .inl (cI, 24, .inl (fun _ => 0)))] H := hP
  have hD : va_D A [(h0, .inr (2, [.int (zs_b true), .ref q1, .ref q2, .ref q3, .ref q4, .ref q5, .ref q6, .null, .null, .null, .null])), (q1, .inl (cI, 24, .inl (fun _ => 0))), (q2, .inl (cI, 24, .inl (fun _ => 0))), (q3, .inl (cI, 24, .inl (fun _ => 0))), (q4, .inl (cZ, 24, .inl (fun _ => 0))), (q5, .inl (cI, 1536, .inl (fun _ => 0))), (q6, .inl (cI, 24, .inl (fun _ => 0))), (q7, .inl (cI, 24, .inl (fun _ => 0)))] := hD
  refine va_putF (D := (dC, dI)) (ci := 2) (v := .ref q7) (ty := (.array .int)) (C := "ZoneShelfModel") (T := zs_T_M) (N := 11) hx hb hz zs_in_M zs_t_M zs_tok_M zs_nok_M hown hk.1 hP hD hS 0 rfl rfl 7 (by decide) (hz _ zq_190) (fun _ h9 => h9) rfl hin rfl (by decide +kernel) rfl rfl (Nat.le_of_ble_eq_true rfl) zd_M_init_63 (fun H locs hP hD hS => ?_)
  have hP : va_P (dC, dI) zs_cl [(h0, .inr (2, [.int (zs_b true), .ref q1, .ref q2, .ref q3, .ref q4, .ref q5, .ref q6, .ref q7, .null, .null, .null])), (q1, .inl (cI, 24, .inl (fun _ => 0))), (q2, .inl (cI, 24, .inl (fun _ => 0))), (q3, .inl (cI, 24, .inl (fun _ => 0))), (q4, .inl (cZ, 24, .inl (fun _ => 0))), (q5, .inl (cI, 1536, .inl (fun _ => 0))), (q6, .inl (cI, 24, .inl (fun _ => 0))), (q7, .inl (cI, 24, .inl (fun _ => 0)))] H := hP
  have hD : va_D A [(h0, .inr (2, [.int (zs_b true), .ref q1, .ref q2, .ref q3, .ref q4, .ref q5, .ref q6, .ref q7, .null, .null, .null])), (q1, .inl (cI, 24, .inl (fun _ => 0))), (q2, .inl (cI, 24, .inl (fun _ => 0))), (q3, .inl (cI, 24, .inl (fun _ => 0))), (q4, .inl (cZ, 24, .inl (fun _ => 0))), (q5, .inl (cI, 1536, .inl (fun _ => 0))), (q6, .inl (cI, 24, .inl (fun _ => 0))), (q7, .inl (cI, 24, .inl (fun _ => 0)))] := hD
  refine lv_aload_n hx hb zd_M_init_66 rfl (lv_at hl 0 rfl) ?_
  refine lv_bipush (v := 24) hx hb zd_M_init_67 (by decide) ?_
  refine zi_newi (N := 24) hx hb hz zq_50 hk hP hD hS hA (by decide) (by decide) (by decide) (Nat.le_of_ble_eq_true rfl) (Nat.le_of_ble_eq_true rfl) zd_M_init_69 (fun q8 H hP hD hS => ?_)
  have hP : va_P (dC, dI) zs_cl [(h0, .inr (2, [.int (zs_b true), .ref q1, .ref q2, .ref q3, .ref q4, .ref q5, .ref q6, .ref q7, .null, .null, .null])), (q1, .inl (cI, 24, .inl (fun _ => 0))), (q2, .inl (cI, 24, .inl (fun _ => 0))), (q3, .inl (cI, 24, .inl (fun _ => 0))), (q4, .inl (cZ, 24, .inl (fun _ => 0))), (q5, .inl (cI, 1536, .inl (fun _ => 0))), (q6, .inl (cI, 24, .inl (fun _ => 0))), (q7, .inl (cI, 24, .inl (fun _ => 0))), (q8, .inl (cI, 24, .inl (fun _ => 0)))] H := hP
  have hD : va_D A [(h0, .inr (2, [.int (zs_b true), .ref q1, .ref q2, .ref q3, .ref q4, .ref q5, .ref q6, .ref q7, .null, .null, .null])), (q1, .inl (cI, 24, .inl (fun _ => 0))), (q2, .inl (cI, 24, .inl (fun _ => 0))), (q3, .inl (cI, 24, .inl (fun _ => 0))), (q4, .inl (cZ, 24, .inl (fun _ => 0))), (q5, .inl (cI, 1536, .inl (fun _ => 0))), (q6, .inl (cI, 24, .inl (fun _ => 0))), (q7, .inl (cI, 24, .inl (fun _ => 0))), (q8, .inl (cI, 24, .inl (fun _ => 0)))] := hD
  refine va_putF (D := (dC, dI)) (ci := 2) (v := .ref q8) (ty := (.array .int)) (C := "ZoneShelfModel") (T := zs_T_M) (N := 11) hx hb hz zs_in_M zs_t_M zs_tok_M zs_nok_M hown hk.1 hP hD hS 0 rfl rfl 8 (by decide) (hz _ zq_191) (fun _ h9 => h9) rfl hin rfl (by decide +kernel) rfl rfl (Nat.le_of_ble_eq_true rfl) zd_M_init_71 (fun H locs hP hD hS => ?_)
  have hP : va_P (dC, dI) zs_cl [(h0, .inr (2, [.int (zs_b true), .ref q1, .ref q2, .ref q3, .ref q4, .ref q5, .ref q6, .ref q7, .ref q8, .null, .null])), (q1, .inl (cI, 24, .inl (fun _ => 0))), (q2, .inl (cI, 24, .inl (fun _ => 0))), (q3, .inl (cI, 24, .inl (fun _ => 0))), (q4, .inl (cZ, 24, .inl (fun _ => 0))), (q5, .inl (cI, 1536, .inl (fun _ => 0))), (q6, .inl (cI, 24, .inl (fun _ => 0))), (q7, .inl (cI, 24, .inl (fun _ => 0))), (q8, .inl (cI, 24, .inl (fun _ => 0)))] H := hP
  have hD : va_D A [(h0, .inr (2, [.int (zs_b true), .ref q1, .ref q2, .ref q3, .ref q4, .ref q5, .ref q6, .ref q7, .ref q8, .null, .null])), (q1, .inl (cI, 24, .inl (fun _ => 0))), (q2, .inl (cI, 24, .inl (fun _ => 0))), (q3, .inl (cI, 24, .inl (fun _ => 0))), (q4, .inl (cZ, 24, .inl (fun _ => 0))), (q5, .inl (cI, 1536, .inl (fun _ => 0))), (q6, .inl (cI, 24, .inl (fun _ => 0))), (q7, .inl (cI, 24, .inl (fun _ => 0))), (q8, .inl (cI, 24, .inl (fun _ => 0)))] := hD
  refine lv_aload_n hx hb zd_M_init_74 rfl (lv_at hl 0 rfl) ?_
  refine lv_bipush (v := 24) hx hb zd_M_init_75 (by decide) ?_
  refine zi_newz (N := 24) hx hb hz zq_51 hk hP hD hS hA (by decide) (by decide) (by decide) (Nat.le_of_ble_eq_true rfl) (Nat.le_of_ble_eq_true rfl) zd_M_init_77 (fun q9 H hP hD hS => ?_)
  have hP : va_P (dC, dI) zs_cl [(h0, .inr (2, [.int (zs_b true), .ref q1, .ref q2, .ref q3, .ref q4, .ref q5, .ref q6, .ref q7, .ref q8, .null, .null])), (q1, .inl (cI, 24, .inl (fun _ => 0))), (q2, .inl (cI, 24, .inl (fun _ => 0))), (q3, .inl (cI, 24, .inl (fun _ => 0))), (q4, .inl (cZ, 24, .inl (fun _ => 0))), (q5, .inl (cI, 1536, .inl (fun _ => 0))), (q6, .inl (cI, 24, .inl (fun _ => 0))), (q7, .inl (cI, 24, .inl (fun _ => 0))), (q8, .inl (cI, 24, .inl (fun _ => 0))), (q9, .inl (cZ, 24, .inl (fun _ => 0)))] H := hP
  have hD : va_D A [(h0, .inr (2, [.int (zs_b true), .ref q1, .ref q2, .ref q3, .ref q4, .ref q5, .ref q6, .ref q7, .ref q8, .null, .null])), (q1, .inl (cI, 24, .inl (fun _ => 0))), (q2, .inl (cI, 24, .inl (fun _ => 0))), (q3, .inl (cI, 24, .inl (fun _ => 0))), (q4, .inl (cZ, 24, .inl (fun _ => 0))), (q5, .inl (cI, 1536, .inl (fun _ => 0))), (q6, .inl (cI, 24, .inl (fun _ => 0))), (q7, .inl (cI, 24, .inl (fun _ => 0))), (q8, .inl (cI, 24, .inl (fun _ => 0))), (q9, .inl (cZ, 24, .inl (fun _ => 0)))] := hD
  refine va_putF (D := (dC, dI)) (ci := 2) (v := .ref q9) (ty := (.array .boolean)) (C := "ZoneShelfModel") (T := zs_T_M) (N := 11) hx hb hz zs_in_M zs_t_M zs_tok_M zs_nok_M hown hk.1 hP hD hS 0 rfl rfl 9 (by decide) (hz _ zq_192) (fun _ h9 => h9) rfl hin rfl (by decide +kernel) rfl rfl (Nat.le_of_ble_eq_true rfl) zd_M_init_79 (fun H locs hP hD hS => ?_)
  have hP : va_P (dC, dI) zs_cl [(h0, .inr (2, [.int (zs_b true), .ref q1, .ref q2, .ref q3, .ref q4, .ref q5, .ref q6, .ref q7, .ref q8, .ref q9, .null])), (q1, .inl (cI, 24, .inl (fun _ => 0))), (q2, .inl (cI, 24, .inl (fun _ => 0))), (q3, .inl (cI, 24, .inl (fun _ => 0))), (q4, .inl (cZ, 24, .inl (fun _ => 0))), (q5, .inl (cI, 1536, .inl (fun _ => 0))), (q6, .inl (cI, 24, .inl (fun _ => 0))), (q7, .inl (cI, 24, .inl (fun _ => 0))), (q8, .inl (cI, 24, .inl (fun _ => 0))), (q9, .inl (cZ, 24, .inl (fun _ => 0)))] H := hP
  have hD : va_D A [(h0, .inr (2, [.int (zs_b true), .ref q1, .ref q2, .ref q3, .ref q4, .ref q5, .ref q6, .ref q7, .ref q8, .ref q9, .null])), (q1, .inl (cI, 24, .inl (fun _ => 0))), (q2, .inl (cI, 24, .inl (fun _ => 0))), (q3, .inl (cI, 24, .inl (fun _ => 0))), (q4, .inl (cZ, 24, .inl (fun _ => 0))), (q5, .inl (cI, 1536, .inl (fun _ => 0))), (q6, .inl (cI, 24, .inl (fun _ => 0))), (q7, .inl (cI, 24, .inl (fun _ => 0))), (q8, .inl (cI, 24, .inl (fun _ => 0))), (q9, .inl (cZ, 24, .inl (fun _ => 0)))] := hD
  refine lv_aload_n hx hb zd_M_init_82 rfl (lv_at hl 0 rfl) ?_
  refine lv_sipush (v := 1536) hx hb zd_M_init_83 (by decide) ?_
  refine zi_newi (N := 1536) hx hb hz zq_50 hk hP hD hS hA (by decide) (by decide) (by decide) (Nat.le_of_ble_eq_true rfl) (Nat.le_of_ble_eq_true rfl) zd_M_init_86 (fun q10 H hP hD hS => ?_)
  have hP : va_P (dC, dI) zs_cl [(h0, .inr (2, [.int (zs_b true), .ref q1, .ref q2, .ref q3, .ref q4, .ref q5, .ref q6, .ref q7, .ref q8, .ref q9, .null])), (q1, .inl (cI, 24, .inl (fun _ => 0))), (q2, .inl (cI, 24, .inl (fun _ => 0))), (q3, .inl (cI, 24, .inl (fun _ => 0))), (q4, .inl (cZ, 24, .inl (fun _ => 0))), (q5, .inl (cI, 1536, .inl (fun _ => 0))), (q6, .inl (cI, 24, .inl (fun _ => 0))), (q7, .inl (cI, 24, .inl (fun _ => 0))), (q8, .inl (cI, 24, .inl (fun _ => 0))), (q9, .inl (cZ, 24, .inl (fun _ => 0))), (q10, .inl (cI, 1536, .inl (fun _ => 0)))] H := hP
  have hD : va_D A [(h0, .inr (2, [.int (zs_b true), .ref q1, .ref q2, .ref q3, .ref q4, .ref q5, .ref q6, .ref q7, .ref q8, .ref q9, .null])), (q1, .inl (cI, 24, .inl (fun _ => 0))), (q2, .inl (cI, 24, .inl (fun _ => 0))), (q3, .inl (cI, 24, .inl (fun _ => 0))), (q4, .inl (cZ, 24, .inl (fun _ => 0))), (q5, .inl (cI, 1536, .inl (fun _ => 0))), (q6, .inl (cI, 24, .inl (fun _ => 0))), (q7, .inl (cI, 24, .inl (fun _ => 0))), (q8, .inl (cI, 24, .inl (fun _ => 0))), (q9, .inl (cZ, 24, .inl (fun _ => 0))), (q10, .inl (cI, 1536, .inl (fun _ => 0)))] := hD
  refine va_putF (D := (dC, dI)) (ci := 2) (v := .ref q10) (ty := (.array .int)) (C := "ZoneShelfModel") (T := zs_T_M) (N := 11) hx hb hz zs_in_M zs_t_M zs_tok_M zs_nok_M hown hk.1 hP hD hS 0 rfl rfl 10 (by decide) (hz _ zq_193) (fun _ h9 => h9) rfl hin rfl (by decide +kernel) rfl rfl (Nat.le_of_ble_eq_true rfl) zd_M_init_88 (fun H locs hP hD hS => ?_)
  have hP : va_P (dC, dI) zs_cl [(h0, .inr (2, [.int (zs_b true), .ref q1, .ref q2, .ref q3, .ref q4, .ref q5, .ref q6, .ref q7, .ref q8, .ref q9, .ref q10])), (q1, .inl (cI, 24, .inl (fun _ => 0))), (q2, .inl (cI, 24, .inl (fun _ => 0))), (q3, .inl (cI, 24, .inl (fun _ => 0))), (q4, .inl (cZ, 24, .inl (fun _ => 0))), (q5, .inl (cI, 1536, .inl (fun _ => 0))), (q6, .inl (cI, 24, .inl (fun _ => 0))), (q7, .inl (cI, 24, .inl (fun _ => 0))), (q8, .inl (cI, 24, .inl (fun _ => 0))), (q9, .inl (cZ, 24, .inl (fun _ => 0))), (q10, .inl (cI, 1536, .inl (fun _ => 0)))] H := hP
  have hD : va_D A [(h0, .inr (2, [.int (zs_b true), .ref q1, .ref q2, .ref q3, .ref q4, .ref q5, .ref q6, .ref q7, .ref q8, .ref q9, .ref q10])), (q1, .inl (cI, 24, .inl (fun _ => 0))), (q2, .inl (cI, 24, .inl (fun _ => 0))), (q3, .inl (cI, 24, .inl (fun _ => 0))), (q4, .inl (cZ, 24, .inl (fun _ => 0))), (q5, .inl (cI, 1536, .inl (fun _ => 0))), (q6, .inl (cI, 24, .inl (fun _ => 0))), (q7, .inl (cI, 24, .inl (fun _ => 0))), (q8, .inl (cI, 24, .inl (fun _ => 0))), (q9, .inl (cZ, 24, .inl (fun _ => 0))), (q10, .inl (cI, 1536, .inl (fun _ => 0)))] := hD
  refine W.widen (k := 10) (n := 3264) (Nat.le_of_ble_eq_true rfl) (Nat.le_of_ble_eq_true rfl) ?_
  exact zw_vret (fun k => [h0, q1, q2, q3, q4, q5, q6, q7, q8, q9, q10].getD k 0) hx hb hr hlocks zd_M_init_91 rfl (hP.sub [0, 1, 2, 3, 4, 5, 6, 7, 8, 9, 10] rfl) (hD.sub [0, 1, 2, 3, 4, 5, 6, 7, 8, 9, 10] (by decide) rfl) hS
