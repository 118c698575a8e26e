set_option maxHeartbeats 4000000 in
set_option maxRecDepth 100000 in
theorem zc_C_isTaken (l : Launch) (dC : Nat → ClassId) (dI : Nat → Nat → Nat) (cI cZ : ClassId) (q0 q1 q2 q3 q4 q5 : Nat) (u : zs_C) (j : Nat) (hj : j < 24) : Met l zy_C_isTaken (.code zy_C_isTaken zb_C_isTaken 2 (some .boolean) :: zs_w) ({ frames := 0, cells := 0, slots := 0, locals := 0 }) (va_Pc [.ref q0, .int (nI j)] (zs_r dC dI cI cZ (zs_wC cI cZ q0 q1 q2 q3 q4 q5 u))) (vp_Si (fun r => r = zs_b (zs_t u.1 j))) 0 0 (fun _ => False) := by
  obtain ⟨nm, hi, ln, op, wd⟩ := u
  refine Met.ofW (cc := zb_C_isTaken) (maxL := 2) (ret := (some .boolean)) (by decide) rfl ?_
  intro p e s m args below meth c s₁ B hml hv
  obtain ⟨rfl, hP, hk⟩ := hv
  have hx := B.exec
  have hb := B.bytes
  have hr := B.returns
  have hts := atoms_spec (ws := .code zy_C_isTaken zb_C_isTaken 2 (some .boolean) :: zs_w) B.pre
  have hz : ∀ w ∈ zs_w, w.before _ s = true := fun w h => hts w (List.mem_cons_of_mem _ h)
  have hown : s.vm.findClass "ZoneShelf$Contents" = some m.cls := findClass_of_methodNamed B.named
  have hlocks := B.notSynchronized
  have hP : va_P (dC, dI) zs_cl [(q0, .inr (1, [.ref q1, .ref q2, .ref q3, .ref q4, .ref q5])), (q1, .inl (cI, 24, .inl nm)), (q2, .inl (cI, 24, .inl hi)), (q3, .inl (cI, 24, .inl ln)), (q4, .inl (cZ, 24, .inl op)), (q5, .inl (cI, 1536, .inl wd))] s.heap := hP
  have hl := lv_entry ([.ref q0, .int (nI j)]) (n := 2) (Nat.le_of_ble_eq_true rfl)
  rw [lg_entry_eq]
  generalize (lg_sl ([.ref q0, .int (nI j)]) ++ List.replicate (2 - (lg_sl ([.ref q0, .int (nI j)])).length) Slot.unset).toArray = ls at hl ⊢
  have hl : lv_has ls 2 [(0, .ref q0), (1, .int (nI j))] := hl
  refine lv_aload_n hx hb zd_C_isTaken_0 rfl (lv_at hl 0 rfl) ?_
  refine va_get (D := (dC, dI)) (ci := 1) (v := .ref q1) (C := "ZoneShelf$Contents") (T := zs_T_C) (N := 5) hx hb hz zs_in_C hown hk.1 hP 0 rfl rfl 0 (by decide) (hz _ zq_40) (fun _ h9 => h9) rfl zd_C_isTaken_1 ?_
  refine lv_iload_n hx hb zd_C_isTaken_4 rfl (lv_at hl 1 rfl) ?_
  refine zi_ald hx hb hk hP 1 (j := j) rfl (by omega) (by decide) zd_C_isTaken_5 ?_
  refine lv_iconst (v := (-1)) hx hb zd_C_isTaken_6 (by decide) ?_
  refine lv_icmp_eq (tgt := 14) hx hb zd_C_isTaken_7 rfl (fun h1 => ?_) (fun h1 => ?_)
  · refine lv_iconst (v := 0) hx hb zd_C_isTaken_14 (by decide) ?_
    exact zr_zret hx hb hr hlocks zd_C_isTaken_15 rfl (show 0 = zs_b (zs_t nm j) from by simp [zs_t, zs_b, h1])
  · refine lv_iconst (v := 1) hx hb zd_C_isTaken_10 (by decide) ?_
    refine lv_goto (tgt := 15) hx hb zd_C_isTaken_11 rfl ?_
    exact zr_zret hx hb hr hlocks zd_C_isTaken_15 rfl (show 1 = zs_b (zs_t nm j) from by simp [zs_t, zs_b, h1])
set_option maxHeartbeats 4000000 in
set_option maxRecDepth 100000 in
theorem zc_C_leastFreeNumber (l : Launch) (dC : Nat → ClassId) (dI : Nat → Nat → Nat) (cI cZ : ClassId) (q0 q1 q2 q3 q4 q5 : Nat) (u : zs_C)  : Met l zy_C_leastFreeNumber (.code zy_C_leastFreeNumber zb_C_leastFreeNumber 2 (some .int) :: zs_w) ({ frames := 1, cells := 0, slots := 0, locals := 21 }) (va_Pc [.ref q0] (zs_r dC dI cI cZ (zs_wC cI cZ q0 q1 q2 q3 q4 q5 u))) (vp_Si (fun r => r = zs_free u.1 24 0)) 0 0 (fun _ => False) := by
  obtain ⟨nm, hi, ln, op, wd⟩ := u
  refine Met.ofW (cc := zb_C_leastFreeNumber) (maxL := 2) (ret := (some .int)) (by decide) rfl ?_
  intro p e s m args below meth c s₁ B hml hv
  obtain ⟨rfl, hP, hk⟩ := hv
  have hx := B.exec
  have hb := B.bytes
  have hr := B.returns
  have hts := atoms_spec (ws := .code zy_C_leastFreeNumber zb_C_leastFreeNumber 2 (some .int) :: zs_w) B.pre
  have hz : ∀ w ∈ zs_w, w.before _ s = true := fun w h => hts w (List.mem_cons_of_mem _ h)
  have hown : s.vm.findClass "ZoneShelf$Contents" = some m.cls := findClass_of_methodNamed B.named
  have hlocks := B.notSynchronized
  have hP : va_P (dC, dI) zs_cl [(q0, .inr (1, [.ref q1, .ref q2, .ref q3, .ref q4, .ref q5])), (q1, .inl (cI, 24, .inl nm)), (q2, .inl (cI, 24, .inl hi)), (q3, .inl (cI, 24, .inl ln)), (q4, .inl (cZ, 24, .inl op)), (q5, .inl (cI, 1536, .inl wd))] s.heap := hP
  have hl := lv_entry ([.ref q0]) (n := 2) (Nat.le_of_ble_eq_true rfl)
  rw [lg_entry_eq]
  generalize (lg_sl ([.ref q0]) ++ List.replicate (2 - (lg_sl ([.ref q0])).length) Slot.unset).toArray = ls at hl ⊢
  have hl : lv_has ls 2 [(0, .ref q0)] := hl
  refine lv_iconst (v := 0) hx hb zd_C_leastFreeNumber_0 (by decide) ?_
  refine lv_istore_n (lv' := [(1, .int 0), (0, .ref q0)]) hx hb zd_C_leastFreeNumber_1 rfl hl (by decide) rfl (fun ls hl => ?_)
  obtain ⟨v, hv0⟩ : ∃ v, v = zs_free nm 24 0 := ⟨_, rfl⟩
  refine zl_r (N := 24) (α := Unit) (fun kk ii xx ls => lv_has ls 2 [(1, .int (nI ii)), (0, .ref q0)] ∧ zs_free nm kk ii = v) (fun k1 i1 x1 ls e1 hv ih1 => ?_) (fun x1 ls hv => ?_) 24 0 () ls rfl ⟨lv_sub hl [0, 1] rfl, hv0.symm⟩
  · obtain ⟨hl, hI1⟩ := hv
    have hl : lv_has ls 2 [(1, .int (nI i1)), (0, .ref q0)] := hl
    have hI1 : zs_free nm (k1 + 1) i1 = v := hI1
    have hlt1 : i1 < 24 := by omega
    refine lv_iload_n hx hb zd_C_leastFreeNumber_2 rfl (lv_at hl 0 rfl) ?_
    refine lv_bipush (v := 24) hx hb zd_C_leastFreeNumber_3 (by decide) ?_
    refine zj_in (tgt := 24) (n := 24) hx hb zd_C_leastFreeNumber_5 rfl (by decide) hlt1 (by decide) ?_
    refine lv_aload_n hx hb zd_C_leastFreeNumber_8 rfl (lv_at hl 1 rfl) ?_
    refine lv_iload_n hx hb zd_C_leastFreeNumber_9 rfl (lv_at hl 0 rfl) ?_
    refine zc_rV (rest := []) [.int (nI i1)] hx hb hml hown hz (zc_C_isTaken l dC dI cI cZ q0 q1 q2 q3 q4 q5 (nm, hi, ln, op, wd) i1 (by omega)) zf_C_isTaken rfl rfl zq_75 zq_76 zq_3 ⟨Nat.le_of_ble_eq_true rfl, Nat.le_of_ble_eq_true rfl⟩ hk (hP.sub [0, 1, 2, 3, 4, 5] rfl) 0 1 rfl rfl rfl rfl hl.1 rfl (Nat.le_of_ble_eq_true rfl) zd_C_leastFreeNumber_10 ⟨Nat.zero_le _, Nat.zero_le _⟩ (fun r1 e2 => ?_)
    obtain rfl : r1 = zs_b (zs_t nm i1) := e2
    refine zi_ne (tgt := 18) hx hb zd_C_leastFreeNumber_13 rfl (fun h3 => ?_) (fun h3 => ?_)
    · refine lv_iinc (k := 0) (v := nI (i1 + 1)) (lv' := [(1, .int (nI (i1 + 1))), (0, .ref q0)]) hx hb zd_C_leastFreeNumber_18 hl rfl (zs_inc _) (by decide) rfl (fun ls hl => ?_)
      refine lv_goto (tgt := 2) hx hb zd_C_leastFreeNumber_21 rfl ?_
      exact ih1 () ls ⟨lv_sub hl [0, 1] rfl, by rw [← hI1]; simp [zs_free, h3]⟩
    · refine lv_iload_n hx hb zd_C_leastFreeNumber_16 rfl (lv_at hl 0 rfl) ?_
      exact zr_iret hx hb hr hlocks zd_C_leastFreeNumber_17 (show (nI i1) = zs_free nm 24 0 from by rw [← hv0, ← hI1]; simp [zs_free, h3])
  · obtain ⟨hl, hI1⟩ := hv
    have hl : lv_has ls 2 [(1, .int (nI 24)), (0, .ref q0)] := hl
    have hI1 : zs_free nm 0 24 = v := hI1
    refine lv_iload_n hx hb zd_C_leastFreeNumber_2 rfl (lv_at hl 0 rfl) ?_
    refine lv_bipush (v := 24) hx hb zd_C_leastFreeNumber_3 (by decide) ?_
    refine zj_out (tgt := 24) (n := 24) (i := 24) hx hb zd_C_leastFreeNumber_5 rfl (by decide) (Nat.le_refl _) (by decide) ?_
    refine lv_iconst (v := (-1)) hx hb zd_C_leastFreeNumber_24 (by decide) ?_
    exact zr_iret hx hb hr hlocks zd_C_leastFreeNumber_25 (show (-1) = zs_free nm 24 0 from by rw [← hv0, ← hI1]; rfl)
set_option maxHeartbeats 4000000 in
set_option maxRecDepth 100000 in
theorem zc_C_numberOf (l : Launch) (dC : Nat → ClassId) (dI : Nat → Nat → Nat) (cI cZ : ClassId) (q0 q1 q2 q3 q4 q5 : Nat) (u : zs_C) (x : Int32) : Met l zy_C_numberOf (.code zy_C_numberOf zb_C_numberOf 3 (some .int) :: zs_w) ({ frames := 0, cells := 0, slots := 0, locals := 0 }) (va_Pc [.ref q0, .int x] (zs_r dC dI cI cZ (zs_wC cI cZ q0 q1 q2 q3 q4 q5 u))) (vp_Si (fun r => r = zs_num u.1 x 24 0)) 0 0 (fun _ => False) := by
  obtain ⟨nm, hi, ln, op, wd⟩ := u
  refine Met.ofW (cc := zb_C_numberOf) (maxL := 3) (ret := (some .int)) (by decide) rfl ?_
  intro p e s m args below meth c s₁ B hml hv
  obtain ⟨rfl, hP, hk⟩ := hv
  have hx := B.exec
  have hb := B.bytes
  have hr := B.returns
  have hts := atoms_spec (ws := .code zy_C_numberOf zb_C_numberOf 3 (some .int) :: zs_w) B.pre
  have hz : ∀ w ∈ zs_w, w.before _ s = true := fun w h => hts w (List.mem_cons_of_mem _ h)
  have hown : s.vm.findClass "ZoneShelf$Contents" = some m.cls := findClass_of_methodNamed B.named
  have hlocks := B.notSynchronized
  have hP : va_P (dC, dI) zs_cl [(q0, .inr (1, [.ref q1, .ref q2, .ref q3, .ref q4, .ref q5])), (q1, .inl (cI, 24, .inl nm)), (q2, .inl (cI, 24, .inl hi)), (q3, .inl (cI, 24, .inl ln)), (q4, .inl (cZ, 24, .inl op)), (q5, .inl (cI, 1536, .inl wd))] s.heap := hP
  have hl := lv_entry ([.ref q0, .int x]) (n := 3) (Nat.le_of_ble_eq_true rfl)
  rw [lg_entry_eq]
  generalize (lg_sl ([.ref q0, .int x]) ++ List.replicate (3 - (lg_sl ([.ref q0, .int x])).length) Slot.unset).toArray = ls at hl ⊢
  have hl : lv_has ls 3 [(0, .ref q0), (1, .int x)] := hl
  refine lv_iconst (v := 0) hx hb zd_C_numberOf_0 (by decide) ?_
  refine lv_istore_n (lv' := [(2, .int 0), (0, .ref q0), (1, .int x)]) hx hb zd_C_numberOf_1 rfl hl (by decide) rfl (fun ls hl => ?_)
  obtain ⟨v, hv0⟩ : ∃ v, v = zs_num nm x 24 0 := ⟨_, rfl⟩
  refine zl_r (N := 24) (α := Unit) (fun kk ii xx ls => lv_has ls 3 [(2, .int (nI ii)), (0, .ref q0), (1, .int x)] ∧ zs_num nm x kk ii = v) (fun k1 i1 x1 ls e1 hv ih1 => ?_) (fun x1 ls hv => ?_) 24 0 () ls rfl ⟨lv_sub hl [0, 1, 2] rfl, hv0.symm⟩
  · obtain ⟨hl, hI1⟩ := hv
    have hl : lv_has ls 3 [(2, .int (nI i1)), (0, .ref q0), (1, .int x)] := hl
    have hI1 : zs_num nm x (k1 + 1) i1 = v := hI1
    have hlt1 : i1 < 24 := by omega
    refine lv_iload_n hx hb zd_C_numberOf_2 rfl (lv_at hl 0 rfl) ?_
    refine lv_bipush (v := 24) hx hb zd_C_numberOf_3 (by decide) ?_
    refine zj_in (tgt := 26) (n := 24) hx hb zd_C_numberOf_5 rfl (by decide) hlt1 (by decide) ?_
    refine lv_aload_n hx hb zd_C_numberOf_8 rfl (lv_at hl 1 rfl) ?_
    refine va_get (D := (dC, dI)) (ci := 1) (v := .ref q1) (C := "ZoneShelf$Contents") (T := zs_T_C) (N := 5) hx hb hz zs_in_C hown hk.1 hP 0 rfl rfl 0 (by decide) (hz _ zq_40) (fun _ h9 => h9) rfl zd_C_numberOf_9 ?_
    refine lv_iload_n hx hb zd_C_numberOf_12 rfl (lv_at hl 0 rfl) ?_
    refine zi_ald hx hb hk hP 1 (j := i1) rfl (by omega) (by decide) zd_C_numberOf_13 ?_
    refine lv_iload_n hx hb zd_C_numberOf_14 rfl (lv_at hl 2 rfl) ?_
    refine lv_icmp_ne (tgt := 20) hx hb zd_C_numberOf_15 rfl (fun h1 => ?_) (fun h1 => ?_)
    · refine lv_iinc (k := 0) (v := nI (i1 + 1)) (lv' := [(2, .int (nI (i1 + 1))), (0, .ref q0), (1, .int x)]) hx hb zd_C_numberOf_20 hl rfl (zs_inc _) (by decide) rfl (fun ls hl => ?_)
      refine lv_goto (tgt := 2) hx hb zd_C_numberOf_23 rfl ?_
      exact ih1 () ls ⟨lv_sub hl [0, 1, 2] rfl, by rw [← hI1]; simp [zs_num, h1]⟩
    · refine lv_iload_n hx hb zd_C_numberOf_18 rfl (lv_at hl 0 rfl) ?_
      exact zr_iret hx hb hr hlocks zd_C_numberOf_19 (show (nI i1) = zs_num nm x 24 0 from by rw [← hv0, ← hI1]; simp [zs_num, h1])
  · obtain ⟨hl, hI1⟩ := hv
    have hl : lv_has ls 3 [(2, .int (nI 24)), (0, .ref q0), (1, .int x)] := hl
    have hI1 : zs_num nm x 0 24 = v := hI1
    refine lv_iload_n hx hb zd_C_numberOf_2 rfl (lv_at hl 0 rfl) ?_
    refine lv_bipush (v := 24) hx hb zd_C_numberOf_3 (by decide) ?_
    refine zj_out (tgt := 26) (n := 24) (i := 24) hx hb zd_C_numberOf_5 rfl (by decide) (Nat.le_refl _) (by decide) ?_
    refine lv_iconst (v := (-1)) hx hb zd_C_numberOf_26 (by decide) ?_
    exact zr_iret hx hb hr hlocks zd_C_numberOf_27 (show (-1) = zs_num nm x 24 0 from by rw [← hv0, ← hI1]; rfl)
set_option maxHeartbeats 4000000 in
set_option maxRecDepth 100000 in
theorem zc_C_countNamesBelow (l : Launch) (dC : Nat → ClassId) (dI : Nat → Nat → Nat) (cI cZ : ClassId) (q0 q1 q2 q3 q4 q5 : Nat) (u : zs_C) (x : Int32) : Met l zy_C_countNamesBelow (.code zy_C_countNamesBelow zb_C_countNamesBelow 4 (some .int) :: zs_w) ({ frames := 1, cells := 0, slots := 0, locals := 21 }) (va_Pc [.ref q0, .int x] (zs_r dC dI cI cZ (zs_wC cI cZ q0 q1 q2 q3 q4 q5 u))) (vp_Si (fun r => r = zs_below u.1 x 24 0 0)) 0 0 (fun _ => False) := by
  obtain ⟨nm, hi, ln, op, wd⟩ := u
  refine Met.ofW (cc := zb_C_countNamesBelow) (maxL := 4) (ret := (some .int)) (by decide) rfl ?_
  intro p e s m args below meth c s₁ B hml hv
  obtain ⟨rfl, hP, hk⟩ := hv
  have hx := B.exec
  have hb := B.bytes
  have hr := B.returns
  have hts := atoms_spec (ws := .code zy_C_countNamesBelow zb_C_countNamesBelow 4 (some .int) :: zs_w) B.pre
  have hz : ∀ w ∈ zs_w, w.before _ s = true := fun w h => hts w (List.mem_cons_of_mem _ h)
  have hown : s.vm.findClass "ZoneShelf$Contents" = some m.cls := findClass_of_methodNamed B.named
  have hlocks := B.notSynchronized
  have hP : va_P (dC, dI) zs_cl [(q0, .inr (1, [.ref q1, .ref q2, .ref q3, .ref q4, .ref q5])), (q1, .inl (cI, 24, .inl nm)), (q2, .inl (cI, 24, .inl hi)), (q3, .inl (cI, 24, .inl ln)), (q4, .inl (cZ, 24, .inl op)), (q5, .inl (cI, 1536, .inl wd))] s.heap := hP
  have hl := lv_entry ([.ref q0, .int x]) (n := 4) (Nat.le_of_ble_eq_true rfl)
  rw [lg_entry_eq]
  generalize (lg_sl ([.ref q0, .int x]) ++ List.replicate (4 - (lg_sl ([.ref q0, .int x])).length) Slot.unset).toArray = ls at hl ⊢
  have hl : lv_has ls 4 [(0, .ref q0), (1, .int x)] := hl
  refine lv_iconst (v := 0) hx hb zd_C_countNamesBelow_0 (by decide) ?_
  refine lv_istore_n (lv' := [(2, .int 0), (0, .ref q0), (1, .int x)]) hx hb zd_C_countNamesBelow_1 rfl hl (by decide) rfl (fun ls hl => ?_)
  refine lv_iconst (v := 0) hx hb zd_C_countNamesBelow_2 (by decide) ?_
  refine lv_istore_n (lv' := [(3, .int 0), (2, .int 0), (0, .ref q0), (1, .int x)]) hx hb zd_C_countNamesBelow_3 rfl hl (by decide) rfl (fun ls hl => ?_)
  obtain ⟨v, hv0⟩ : ∃ v, v = zs_below nm x 24 0 0 := ⟨_, rfl⟩
  refine zl_r (N := 24) (α := Int32) (fun kk ii xx ls => lv_has ls 4 [(3, .int (nI ii)), (2, .int xx), (0, .ref q0), (1, .int x)] ∧ zs_below nm x kk ii xx = v) (fun k1 i1 x1 ls e1 hv ih1 => ?_) (fun x1 ls hv => ?_) 24 0 0 ls rfl ⟨lv_sub hl [0, 1, 2, 3] rfl, hv0.symm⟩
  · obtain ⟨hl, hI1⟩ := hv
    have hl : lv_has ls 4 [(3, .int (nI i1)), (2, .int x1), (0, .ref q0), (1, .int x)] := hl
    have hI1 : zs_below nm x (k1 + 1) i1 x1 = v := hI1
    have hlt1 : i1 < 24 := by omega
    refine lv_iload_n hx hb zd_C_countNamesBelow_4 rfl (lv_at hl 0 rfl) ?_
    refine lv_bipush (v := 24) hx hb zd_C_countNamesBelow_5 (by decide) ?_
    refine zj_in (tgt := 37) (n := 24) hx hb zd_C_countNamesBelow_7 rfl (by decide) hlt1 (by decide) ?_
    refine lv_aload_n hx hb zd_C_countNamesBelow_10 rfl (lv_at hl 2 rfl) ?_
    refine lv_iload_n hx hb zd_C_countNamesBelow_11 rfl (lv_at hl 0 rfl) ?_
    refine zc_rV (rest := []) [.int (nI i1)] hx hb hml hown hz (zc_C_isTaken l dC dI cI cZ q0 q1 q2 q3 q4 q5 (nm, hi, ln, op, wd) i1 (by omega)) zf_C_isTaken rfl rfl zq_75 zq_76 zq_3 ⟨Nat.le_of_ble_eq_true rfl, Nat.le_of_ble_eq_true rfl⟩ hk (hP.sub [0, 1, 2, 3, 4, 5] rfl) 0 1 rfl rfl rfl rfl hl.1 rfl (Nat.le_of_ble_eq_true rfl) zd_C_countNamesBelow_12 ⟨Nat.zero_le _, Nat.zero_le _⟩ (fun r1 e2 => ?_)
    obtain rfl : r1 = zs_b (zs_t nm i1) := e2
    refine zi_eq (tgt := 31) hx hb zd_C_countNamesBelow_15 rfl (fun h3 => ?_) (fun h3 => ?_)
    · refine lv_iinc (k := 0) (v := nI (i1 + 1)) (lv' := [(3, .int (nI (i1 + 1))), (2, .int x1), (0, .ref q0), (1, .int x)]) hx hb zd_C_countNamesBelow_31 hl rfl (zs_inc _) (by decide) rfl (fun ls hl => ?_)
      refine lv_goto (tgt := 4) hx hb zd_C_countNamesBelow_34 rfl ?_
      exact ih1 x1 ls ⟨lv_sub hl [0, 1, 2, 3] rfl, by rw [← hI1]; simp [zs_below, h3]⟩
    · refine lv_aload_n hx hb zd_C_countNamesBelow_18 rfl (lv_at hl 2 rfl) ?_
      refine va_get (D := (dC, dI)) (ci := 1) (v := .ref q1) (C := "ZoneShelf$Contents") (T := zs_T_C) (N := 5) hx hb hz zs_in_C hown hk.1 hP 0 rfl rfl 0 (by decide) (hz _ zq_40) (fun _ h9 => h9) rfl zd_C_countNamesBelow_19 ?_
      refine lv_iload_n hx hb zd_C_countNamesBelow_22 rfl (lv_at hl 0 rfl) ?_
      refine zi_ald hx hb hk hP 1 (j := i1) rfl (by omega) (by decide) zd_C_countNamesBelow_23 ?_
      refine lv_iload_n hx hb zd_C_countNamesBelow_24 rfl (lv_at hl 3 rfl) ?_
      refine lv_icmp_ge (tgt := 31) hx hb zd_C_countNamesBelow_25 rfl (fun h4 => ?_) (fun h4 => ?_)
      · refine lv_iinc (k := 0) (v := nI (i1 + 1)) (lv' := [(3, .int (nI (i1 + 1))), (2, .int x1), (0, .ref q0), (1, .int x)]) hx hb zd_C_countNamesBelow_31 hl rfl (zs_inc _) (by decide) rfl (fun ls hl => ?_)
        refine lv_goto (tgt := 4) hx hb zd_C_countNamesBelow_34 rfl ?_
        exact ih1 x1 ls ⟨lv_sub hl [0, 1, 2, 3] rfl, by rw [← hI1]; simp [zs_below, h3, h4]⟩
      · refine lv_iinc (k := 1) (v := x1 + 1) (lv' := [(2, .int (x1 + 1)), (3, .int (nI i1)), (0, .ref q0), (1, .int x)]) hx hb zd_C_countNamesBelow_28 hl rfl (zs_inc1 _) (by decide) rfl (fun ls hl => ?_)
        refine lv_iinc (k := 1) (v := nI (i1 + 1)) (lv' := [(3, .int (nI (i1 + 1))), (2, .int (x1 + 1)), (0, .ref q0), (1, .int x)]) hx hb zd_C_countNamesBelow_31 hl rfl (zs_inc _) (by decide) rfl (fun ls hl => ?_)
        refine lv_goto (tgt := 4) hx hb zd_C_countNamesBelow_34 rfl ?_
        exact ih1 (x1 + 1) ls ⟨lv_sub hl [0, 1, 2, 3] rfl, by rw [← hI1]; simp [zs_below, h3, h4]⟩
  · obtain ⟨hl, hI1⟩ := hv
    have hl : lv_has ls 4 [(3, .int (nI 24)), (2, .int x1), (0, .ref q0), (1, .int x)] := hl
    have hI1 : zs_below nm x 0 24 x1 = v := hI1
    refine lv_iload_n hx hb zd_C_countNamesBelow_4 rfl (lv_at hl 0 rfl) ?_
    refine lv_bipush (v := 24) hx hb zd_C_countNamesBelow_5 (by decide) ?_
    refine zj_out (tgt := 37) (n := 24) (i := 24) hx hb zd_C_countNamesBelow_7 rfl (by decide) (Nat.le_refl _) (by decide) ?_
    refine lv_iload_n hx hb zd_C_countNamesBelow_37 rfl (lv_at hl 1 rfl) ?_
    exact zr_iret hx hb hr hlocks zd_C_countNamesBelow_38 (show x1 = zs_below nm x 24 0 0 from by rw [← hv0, ← hI1]; rfl)
set_option maxHeartbeats 4000000 in
set_option maxRecDepth 100000 in
theorem zc_C_numberAtRank (l : Launch) (dC : Nat → ClassId) (dI : Nat → Nat → Nat) (cI cZ : ClassId) (q0 q1 q2 q3 q4 q5 : Nat) (u : zs_C) (x : Int32) : Met l zy_C_numberAtRank (.code zy_C_numberAtRank zb_C_numberAtRank 3 (some .int) :: zs_w) ({ frames := 2, cells := 0, slots := 0, locals := 44 }) (va_Pc [.ref q0, .int x] (zs_r dC dI cI cZ (zs_wC cI cZ q0 q1 q2 q3 q4 q5 u))) (vp_Si (fun r => r = zs_rank u.1 x 24 0)) 0 0 (fun _ => False) := by
  obtain ⟨nm, hi, ln, op, wd⟩ := u
  refine Met.ofW (cc := zb_C_numberAtRank) (maxL := 3) (ret := (some .int)) (by decide) rfl ?_
  intro p e s m args below meth c s₁ B hml hv
  obtain ⟨rfl, hP, hk⟩ := hv
  have hx := B.exec
  have hb := B.bytes
  have hr := B.returns
  have hts := atoms_spec (ws := .code zy_C_numberAtRank zb_C_numberAtRank 3 (some .int) :: zs_w) B.pre
  have hz : ∀ w ∈ zs_w, w.before _ s = true := fun w h => hts w (List.mem_cons_of_mem _ h)
  have hown : s.vm.findClass "ZoneShelf$Contents" = some m.cls := findClass_of_methodNamed B.named
  have hlocks := B.notSynchronized
  have hP : va_P (dC, dI) zs_cl [(q0, .inr (1, [.ref q1, .ref q2, .ref q3, .ref q4, .ref q5])), (q1, .inl (cI, 24, .inl nm)), (q2, .inl (cI, 24, .inl hi)), (q3, .inl (cI, 24, .inl ln)), (q4, .inl (cZ, 24, .inl op)), (q5, .inl (cI, 1536, .inl wd))] s.heap := hP
  have hl := lv_entry ([.ref q0, .int x]) (n := 3) (Nat.le_of_ble_eq_true rfl)
  rw [lg_entry_eq]
  generalize (lg_sl ([.ref q0, .int x]) ++ List.replicate (3 - (lg_sl ([.ref q0, .int x])).length) Slot.unset).toArray = ls at hl ⊢
  have hl : lv_has ls 3 [(0, .ref q0), (1, .int x)] := hl
  refine lv_iconst (v := 0) hx hb zd_C_numberAtRank_0 (by decide) ?_
  refine lv_istore_n (lv' := [(2, .int 0), (0, .ref q0), (1, .int x)]) hx hb zd_C_numberAtRank_1 rfl hl (by decide) rfl (fun ls hl => ?_)
  obtain ⟨v, hv0⟩ : ∃ v, v = zs_rank nm x 24 0 := ⟨_, rfl⟩
  refine zl_r (N := 24) (α := Unit) (fun kk ii xx ls => lv_has ls 3 [(2, .int (nI ii)), (0, .ref q0), (1, .int x)] ∧ zs_rank nm x kk ii = v) (fun k1 i1 x1 ls e1 hv ih1 => ?_) (fun x1 ls hv => ?_) 24 0 () ls rfl ⟨lv_sub hl [0, 1, 2] rfl, hv0.symm⟩
  · obtain ⟨hl, hI1⟩ := hv
    have hl : lv_has ls 3 [(2, .int (nI i1)), (0, .ref q0), (1, .int x)] := hl
    have hI1 : zs_rank nm x (k1 + 1) i1 = v := hI1
    have hlt1 : i1 < 24 := by omega
    refine lv_iload_n hx hb zd_C_numberAtRank_2 rfl (lv_at hl 0 rfl) ?_
    refine lv_bipush (v := 24) hx hb zd_C_numberAtRank_3 (by decide) ?_
    refine zj_in (tgt := 38) (n := 24) hx hb zd_C_numberAtRank_5 rfl (by decide) hlt1 (by decide) ?_
    refine lv_aload_n hx hb zd_C_numberAtRank_8 rfl (lv_at hl 1 rfl) ?_
    refine lv_iload_n hx hb zd_C_numberAtRank_9 rfl (lv_at hl 0 rfl) ?_
    refine zc_rV (rest := []) [.int (nI i1)] hx hb hml hown hz (zc_C_isTaken l dC dI cI cZ q0 q1 q2 q3 q4 q5 (nm, hi, ln, op, wd) i1 (by omega)) zf_C_isTaken rfl rfl zq_75 zq_76 zq_3 ⟨Nat.le_of_ble_eq_true rfl, Nat.le_of_ble_eq_true rfl⟩ hk (hP.sub [0, 1, 2, 3, 4, 5] rfl) 0 1 rfl rfl rfl rfl hl.1 rfl (Nat.le_of_ble_eq_true rfl) zd_C_numberAtRank_10 ⟨Nat.zero_le _, Nat.zero_le _⟩ (fun r1 e2 => ?_)
    obtain rfl : r1 = zs_b (zs_t nm i1) := e2
    refine zi_eq (tgt := 32) hx hb zd_C_numberAtRank_13 rfl (fun h3 => ?_) (fun h3 => ?_)
    · refine lv_iinc (k := 0) (v := nI (i1 + 1)) (lv' := [(2, .int (nI (i1 + 1))), (0, .ref q0), (1, .int x)]) hx hb zd_C_numberAtRank_32 hl rfl (zs_inc _) (by decide) rfl (fun ls hl => ?_)
      refine lv_goto (tgt := 2) hx hb zd_C_numberAtRank_35 rfl ?_
      exact ih1 () ls ⟨lv_sub hl [0, 1, 2] rfl, by rw [← hI1]; simp [zs_rank, h3]⟩
    · refine lv_aload_n hx hb zd_C_numberAtRank_16 rfl (lv_at hl 1 rfl) ?_
      refine lv_aload_n hx hb zd_C_numberAtRank_17 rfl (lv_at hl 1 rfl) ?_
      refine va_get (D := (dC, dI)) (ci := 1) (v := .ref q1) (C := "ZoneShelf$Contents") (T := zs_T_C) (N := 5) hx hb hz zs_in_C hown hk.1 hP 0 rfl rfl 0 (by decide) (hz _ zq_40) (fun _ h9 => h9) rfl zd_C_numberAtRank_18 ?_
      refine lv_iload_n hx hb zd_C_numberAtRank_21 rfl (lv_at hl 0 rfl) ?_
      refine zi_ald hx hb hk hP 1 (j := i1) rfl (by omega) (by decide) zd_C_numberAtRank_22 ?_
      refine zc_rV (rest := []) [.int (nm i1)] hx hb hml hown hz (zc_C_countNamesBelow l dC dI cI cZ q0 q1 q2 q3 q4 q5 (nm, hi, ln, op, wd) (nm i1)) zf_C_countNamesBelow rfl rfl zq_174 zq_175 zq_13 ⟨Nat.le_of_ble_eq_true rfl, Nat.le_of_ble_eq_true rfl⟩ hk (hP.sub [0, 1, 2, 3, 4, 5] rfl) 0 1 rfl rfl rfl rfl hl.1 rfl (Nat.le_of_ble_eq_true rfl) zd_C_numberAtRank_23 ⟨Nat.zero_le _, Nat.zero_le _⟩ (fun r4 e5 => ?_)
      obtain rfl : r4 = zs_below nm (nm i1) 24 0 0 := e5
      refine lv_iload_n hx hb zd_C_numberAtRank_26 rfl (lv_at hl 2 rfl) ?_
      refine lv_icmp_ne (tgt := 32) hx hb zd_C_numberAtRank_27 rfl (fun h6 => ?_) (fun h6 => ?_)
      · refine lv_iinc (k := 0) (v := nI (i1 + 1)) (lv' := [(2, .int (nI (i1 + 1))), (0, .ref q0), (1, .int x)]) hx hb zd_C_numberAtRank_32 hl rfl (zs_inc _) (by decide) rfl (fun ls hl => ?_)
        refine lv_goto (tgt := 2) hx hb zd_C_numberAtRank_35 rfl ?_
        exact ih1 () ls ⟨lv_sub hl [0, 1, 2] rfl, by rw [← hI1]; simp only [zs_rank]; rw [if_neg (fun q => h6 q.2)]⟩
      · refine lv_iload_n hx hb zd_C_numberAtRank_30 rfl (lv_at hl 0 rfl) ?_
        exact zr_iret hx hb hr hlocks zd_C_numberAtRank_31 (show (nI i1) = zs_rank nm x 24 0 from by rw [← hv0, ← hI1]; simp only [zs_rank]; rw [if_pos ⟨h3, h6⟩])
  · obtain ⟨hl, hI1⟩ := hv
    have hl : lv_has ls 3 [(2, .int (nI 24)), (0, .ref q0), (1, .int x)] := hl
    have hI1 : zs_rank nm x 0 24 = v := hI1
    refine lv_iload_n hx hb zd_C_numberAtRank_2 rfl (lv_at hl 0 rfl) ?_
    refine lv_bipush (v := 24) hx hb zd_C_numberAtRank_3 (by decide) ?_
    refine zj_out (tgt := 38) (n := 24) (i := 24) hx hb zd_C_numberAtRank_5 rfl (by decide) (Nat.le_refl _) (by decide) ?_
    refine lv_iconst (v := (-1)) hx hb zd_C_numberAtRank_38 (by decide) ?_
    exact zr_iret hx hb hr hlocks zd_C_numberAtRank_39 (show (-1) = zs_rank nm x 24 0 from by rw [← hv0, ← hI1]; rfl)
set_option maxHeartbeats 4000000 in
set_option maxRecDepth 100000 in
theorem zc_C_countObjects (l : Launch) (dC : Nat → ClassId) (dI : Nat → Nat → Nat) (cI cZ : ClassId) (q0 q1 q2 q3 q4 q5 : Nat) (u : zs_C)  : Met l zy_C_countObjects (.code zy_C_countObjects zb_C_countObjects 3 (some .int) :: zs_w) ({ frames := 1, cells := 0, slots := 0, locals := 21 }) (va_Pc [.ref q0] (zs_r dC dI cI cZ (zs_wC cI cZ q0 q1 q2 q3 q4 q5 u))) (vp_Si (fun r => r = zs_cnt u.1 24 0 0)) 0 0 (fun _ => False) := by
  obtain ⟨nm, hi, ln, op, wd⟩ := u
  refine Met.ofW (cc := zb_C_countObjects) (maxL := 3) (ret := (some .int)) (by decide) rfl ?_
  intro p e s m args below meth c s₁ B hml hv
  obtain ⟨rfl, hP, hk⟩ := hv
  have hx := B.exec
  have hb := B.bytes
  have hr := B.returns
  have hts := atoms_spec (ws := .code zy_C_countObjects zb_C_countObjects 3 (some .int) :: zs_w) B.pre
  have hz : ∀ w ∈ zs_w, w.before _ s = true := fun w h => hts w (List.mem_cons_of_mem _ h)
  have hown : s.vm.findClass "ZoneShelf$Contents" = some m.cls := findClass_of_methodNamed B.named
  have hlocks := B.notSynchronized
  have hP : va_P (dC, dI) zs_cl [(q0, .inr (1, [.ref q1, .ref q2, .ref q3, .ref q4, .ref q5])), (q1, .inl (cI, 24, .inl nm)), (q2, .inl (cI, 24, .inl hi)), (q3, .inl (cI, 24, .inl ln)), (q4, .inl (cZ, 24, .inl op)), (q5, .inl (cI, 1536, .inl wd))] s.heap := hP
  have hl := lv_entry ([.ref q0]) (n := 3) (Nat.le_of_ble_eq_true rfl)
  rw [lg_entry_eq]
  generalize (lg_sl ([.ref q0]) ++ List.replicate (3 - (lg_sl ([.ref q0])).length) Slot.unset).toArray = ls at hl ⊢
  have hl : lv_has ls 3 [(0, .ref q0)] := hl
  refine lv_iconst (v := 0) hx hb zd_C_countObjects_0 (by decide) ?_
  refine lv_istore_n (lv' := [(1, .int 0), (0, .ref q0)]) hx hb zd_C_countObjects_1 rfl hl (by decide) rfl (fun ls hl => ?_)
  refine lv_iconst (v := 0) hx hb zd_C_countObjects_2 (by decide) ?_
  refine lv_istore_n (lv' := [(2, .int 0), (1, .int 0), (0, .ref q0)]) hx hb zd_C_countObjects_3 rfl hl (by decide) rfl (fun ls hl => ?_)
  obtain ⟨v, hv0⟩ : ∃ v, v = zs_cnt nm 24 0 0 := ⟨_, rfl⟩
  refine zl_r (N := 24) (α := Int32) (fun kk ii xx ls => lv_has ls 3 [(2, .int (nI ii)), (1, .int xx), (0, .ref q0)] ∧ zs_cnt nm kk ii xx = v) (fun k1 i1 x1 ls e1 hv ih1 => ?_) (fun x1 ls hv => ?_) 24 0 0 ls rfl ⟨lv_sub hl [0, 1, 2] rfl, hv0.symm⟩
  · obtain ⟨hl, hI1⟩ := hv
    have hl : lv_has ls 3 [(2, .int (nI i1)), (1, .int x1), (0, .ref q0)] := hl
    have hI1 : zs_cnt nm (k1 + 1) i1 x1 = v := hI1
    have hlt1 : i1 < 24 := by omega
    refine lv_iload_n hx hb zd_C_countObjects_4 rfl (lv_at hl 0 rfl) ?_
    refine lv_bipush (v := 24) hx hb zd_C_countObjects_5 (by decide) ?_
    refine zj_in (tgt := 27) (n := 24) hx hb zd_C_countObjects_7 rfl (by decide) hlt1 (by decide) ?_
    refine lv_aload_n hx hb zd_C_countObjects_10 rfl (lv_at hl 2 rfl) ?_
    refine lv_iload_n hx hb zd_C_countObjects_11 rfl (lv_at hl 0 rfl) ?_
    refine zc_rV (rest := []) [.int (nI i1)] hx hb hml hown hz (zc_C_isTaken l dC dI cI cZ q0 q1 q2 q3 q4 q5 (nm, hi, ln, op, wd) i1 (by omega)) zf_C_isTaken rfl rfl zq_75 zq_76 zq_3 ⟨Nat.le_of_ble_eq_true rfl, Nat.le_of_ble_eq_true rfl⟩ hk (hP.sub [0, 1, 2, 3, 4, 5] rfl) 0 1 rfl rfl rfl rfl hl.1 rfl (Nat.le_of_ble_eq_true rfl) zd_C_countObjects_12 ⟨Nat.zero_le _, Nat.zero_le _⟩ (fun r1 e2 => ?_)
    obtain rfl : r1 = zs_b (zs_t nm i1) := e2
    refine zi_eq (tgt := 21) hx hb zd_C_countObjects_15 rfl (fun h3 => ?_) (fun h3 => ?_)
    · refine lv_iinc (k := 0) (v := nI (i1 + 1)) (lv' := [(2, .int (nI (i1 + 1))), (1, .int x1), (0, .ref q0)]) hx hb zd_C_countObjects_21 hl rfl (zs_inc _) (by decide) rfl (fun ls hl => ?_)
      refine lv_goto (tgt := 4) hx hb zd_C_countObjects_24 rfl ?_
      exact ih1 x1 ls ⟨lv_sub hl [0, 1, 2] rfl, by rw [← hI1]; simp [zs_cnt, h3]⟩
    · refine lv_iinc (k := 1) (v := x1 + 1) (lv' := [(1, .int (x1 + 1)), (2, .int (nI i1)), (0, .ref q0)]) hx hb zd_C_countObjects_18 hl rfl (zs_inc1 _) (by decide) rfl (fun ls hl => ?_)
      refine lv_iinc (k := 1) (v := nI (i1 + 1)) (lv' := [(2, .int (nI (i1 + 1))), (1, .int (x1 + 1)), (0, .ref q0)]) hx hb zd_C_countObjects_21 hl rfl (zs_inc _) (by decide) rfl (fun ls hl => ?_)
      refine lv_goto (tgt := 4) hx hb zd_C_countObjects_24 rfl ?_
      exact ih1 (x1 + 1) ls ⟨lv_sub hl [0, 1, 2] rfl, by rw [← hI1]; simp [zs_cnt, h3]⟩
  · obtain ⟨hl, hI1⟩ := hv
    have hl : lv_has ls 3 [(2, .int (nI 24)), (1, .int x1), (0, .ref q0)] := hl
    have hI1 : zs_cnt nm 0 24 x1 = v := hI1
    refine lv_iload_n hx hb zd_C_countObjects_4 rfl (lv_at hl 0 rfl) ?_
    refine lv_bipush (v := 24) hx hb zd_C_countObjects_5 (by decide) ?_
    refine zj_out (tgt := 27) (n := 24) (i := 24) hx hb zd_C_countObjects_7 rfl (by decide) (Nat.le_refl _) (by decide) ?_
    refine lv_iload_n hx hb zd_C_countObjects_27 rfl (lv_at hl 1 rfl) ?_
    exact zr_iret hx hb hr hlocks zd_C_countObjects_28 (show x1 = zs_cnt nm 24 0 0 from by rw [← hv0, ← hI1]; rfl)
set_option maxHeartbeats 4000000 in
set_option maxRecDepth 100000 in
theorem zc_C_countWords (l : Launch) (dC : Nat → ClassId) (dI : Nat → Nat → Nat) (cI cZ : ClassId) (q0 q1 q2 q3 q4 q5 : Nat) (u : zs_C)  : Met l zy_C_countWords (.code zy_C_countWords zb_C_countWords 3 (some .int) :: zs_w) ({ frames := 0, cells := 0, slots := 0, locals := 0 }) (va_Pc [.ref q0] (zs_r dC dI cI cZ (zs_wC cI cZ q0 q1 q2 q3 q4 q5 u))) (vp_Si (fun r => r = zs_sum u.2.2.1 24 0 0)) 0 0 (fun _ => False) := by
  obtain ⟨nm, hi, ln, op, wd⟩ := u
  refine Met.ofW (cc := zb_C_countWords) (maxL := 3) (ret := (some .int)) (by decide) rfl ?_
  intro p e s m args below meth c s₁ B hml hv
  obtain ⟨rfl, hP, hk⟩ := hv
  have hx := B.exec
  have hb := B.bytes
  have hr := B.returns
  have hts := atoms_spec (ws := .code zy_C_countWords zb_C_countWords 3 (some .int) :: zs_w) B.pre
  have hz : ∀ w ∈ zs_w, w.before _ s = true := fun w h => hts w (List.mem_cons_of_mem _ h)
  have hown : s.vm.findClass "ZoneShelf$Contents" = some m.cls := findClass_of_methodNamed B.named
  have hlocks := B.notSynchronized
  have hP : va_P (dC, dI) zs_cl [(q0, .inr (1, [.ref q1, .ref q2, .ref q3, .ref q4, .ref q5])), (q1, .inl (cI, 24, .inl nm)), (q2, .inl (cI, 24, .inl hi)), (q3, .inl (cI, 24, .inl ln)), (q4, .inl (cZ, 24, .inl op)), (q5, .inl (cI, 1536, .inl wd))] s.heap := hP
  have hl := lv_entry ([.ref q0]) (n := 3) (Nat.le_of_ble_eq_true rfl)
  rw [lg_entry_eq]
  generalize (lg_sl ([.ref q0]) ++ List.replicate (3 - (lg_sl ([.ref q0])).length) Slot.unset).toArray = ls at hl ⊢
  have hl : lv_has ls 3 [(0, .ref q0)] := hl
  refine lv_iconst (v := 0) hx hb zd_C_countWords_0 (by decide) ?_
  refine lv_istore_n (lv' := [(1, .int 0), (0, .ref q0)]) hx hb zd_C_countWords_1 rfl hl (by decide) rfl (fun ls hl => ?_)
  refine lv_iconst (v := 0) hx hb zd_C_countWords_2 (by decide) ?_
  refine lv_istore_n (lv' := [(2, .int 0), (1, .int 0), (0, .ref q0)]) hx hb zd_C_countWords_3 rfl hl (by decide) rfl (fun ls hl => ?_)
  obtain ⟨v, hv0⟩ : ∃ v, v = zs_sum ln 24 0 0 := ⟨_, rfl⟩
  refine zl_r (N := 24) (α := Int32) (fun kk ii xx ls => lv_has ls 3 [(2, .int (nI ii)), (1, .int xx), (0, .ref q0)] ∧ zs_sum ln kk ii xx = v) (fun k1 i1 x1 ls e1 hv ih1 => ?_) (fun x1 ls hv => ?_) 24 0 0 ls rfl ⟨lv_sub hl [0, 1, 2] rfl, hv0.symm⟩
  · obtain ⟨hl, hI1⟩ := hv
    have hl : lv_has ls 3 [(2, .int (nI i1)), (1, .int x1), (0, .ref q0)] := hl
    have hI1 : zs_sum ln (k1 + 1) i1 x1 = v := hI1
    have hlt1 : i1 < 24 := by omega
    refine lv_iload_n hx hb zd_C_countWords_4 rfl (lv_at hl 0 rfl) ?_
    refine lv_bipush (v := 24) hx hb zd_C_countWords_5 (by decide) ?_
    refine zj_in (tgt := 25) (n := 24) hx hb zd_C_countWords_7 rfl (by decide) hlt1 (by decide) ?_
    refine lv_iload_n hx hb zd_C_countWords_10 rfl (lv_at hl 1 rfl) ?_
    refine lv_aload_n hx hb zd_C_countWords_11 rfl (lv_at hl 2 rfl) ?_
    refine va_get (D := (dC, dI)) (ci := 1) (v := .ref q3) (C := "ZoneShelf$Contents") (T := zs_T_C) (N := 5) hx hb hz zs_in_C hown hk.1 hP 0 rfl rfl 2 (by decide) (hz _ zq_42) (fun _ h9 => h9) rfl zd_C_countWords_12 ?_
    refine lv_iload_n hx hb zd_C_countWords_15 rfl (lv_at hl 0 rfl) ?_
    refine zi_ald hx hb hk hP 3 (j := i1) rfl (by omega) (by decide) zd_C_countWords_16 ?_
    refine lv_iadd hx hb zd_C_countWords_17 ?_
    refine lv_istore_n (lv' := [(1, .int (x1 + (ln i1))), (2, .int (nI i1)), (0, .ref q0)]) hx hb zd_C_countWords_18 rfl hl (by decide) rfl (fun ls hl => ?_)
    refine lv_iinc (k := 1) (v := nI (i1 + 1)) (lv' := [(2, .int (nI (i1 + 1))), (1, .int (x1 + (ln i1))), (0, .ref q0)]) hx hb zd_C_countWords_19 hl rfl (zs_inc _) (by decide) rfl (fun ls hl => ?_)
    refine lv_goto (tgt := 4) hx hb zd_C_countWords_22 rfl ?_
    exact ih1 (x1 + ln i1) ls ⟨lv_sub hl [0, 1, 2] rfl, by rw [← hI1]; rfl⟩
  · obtain ⟨hl, hI1⟩ := hv
    have hl : lv_has ls 3 [(2, .int (nI 24)), (1, .int x1), (0, .ref q0)] := hl
    have hI1 : zs_sum ln 0 24 x1 = v := hI1
    refine lv_iload_n hx hb zd_C_countWords_4 rfl (lv_at hl 0 rfl) ?_
    refine lv_bipush (v := 24) hx hb zd_C_countWords_5 (by decide) ?_
    refine zj_out (tgt := 25) (n := 24) (i := 24) hx hb zd_C_countWords_7 rfl (by decide) (Nat.le_refl _) (by decide) ?_
    refine lv_iload_n hx hb zd_C_countWords_25 rfl (lv_at hl 1 rfl) ?_
    exact zr_iret hx hb hr hlocks zd_C_countWords_26 (show x1 = zs_sum ln 24 0 0 from by rw [← hv0, ← hI1]; rfl)
set_option maxHeartbeats 4000000 in
set_option maxRecDepth 100000 in
theorem zc_C_place (l : Launch) (dC : Nat → ClassId) (dI : Nat → Nat → Nat) (cI cZ : ClassId) (q0 q1 q2 q3 q4 q5 : Nat) (u : zs_C) (sz : Nat) (j : Nat) (hj : j < 24) (n h : Int32) : Met l zy_C_place (.code zy_C_place zb_C_place 4 none :: zs_w) ({ frames := 0, cells := 0, slots := 0, locals := 0 }) (va_Pc [.ref q0, .int (nI j), .int n, .int h] (zs_s dC dI cI cZ sz (zs_wC cI cZ q0 q1 q2 q3 q4 q5 u))) (va_Qv (fun v : zs_C => v = (upd u.1 j n, upd u.2.1 j h, u.2.2.1, upd u.2.2.2.1 j (vp_nar .boolean 1), u.2.2.2.2)) (zs_e dC dI (zs_wC cI cZ q0 q1 q2 q3 q4 q5) (va_A (zs_wC cI cZ q0 q1 q2 q3 q4 q5 u) sz)) (va_A (zs_wC cI cZ q0 q1 q2 q3 q4 q5 u) sz)) 0 0 (va_A (zs_wC cI cZ q0 q1 q2 q3 q4 q5 u) sz) := by
  obtain ⟨nm, hi, ln, op, wd⟩ := u
  refine Met.ofW (cc := zb_C_place) (maxL := 4) (ret := none) (by decide) rfl ?_
  intro p e s m args below meth c s₁ B hml hv
  obtain ⟨rfl, hsz, hP, hk, hD0⟩ := hv
  have hx := B.exec
  have hb := B.bytes
  have hr := B.returns
  have hts := atoms_spec (ws := .code zy_C_place zb_C_place 4 none :: zs_w) B.pre
  have hz : ∀ w ∈ zs_w, w.before _ s = true := fun w h => hts w (List.mem_cons_of_mem _ h)
  have hown : s.vm.findClass "ZoneShelf$Contents" = some m.cls := findClass_of_methodNamed B.named
  have hlocks := B.notSynchronized
  subst hsz
  have hD := hD0.self (sz := s.heap.size)
  generalize hAe : va_A (zs_wC cI cZ q0 q1 q2 q3 q4 q5 (nm, hi, ln, op, wd)) s.heap.size = A at hD ⊢
  have hA : ∀ q : Nat, s.heap.size ≤ q → A q := fun q h => by rw [← hAe]; exact Or.inr h
  have hS : va_S A s.heap s.heap [] := va_S.rf
  have hP : va_P (dC, dI) zs_cl [(q0, .inr (1, [.ref q1, .ref q2, .ref q3, .ref q4, .ref q5])), (q1, .inl (cI, 24, .inl nm)), (q2, .inl (cI, 24, .inl hi)), (q3, .inl (cI, 24, .inl ln)), (q4, .inl (cZ, 24, .inl op)), (q5, .inl (cI, 1536, .inl wd))] s.heap := hP
  have hD : va_D A [(q0, .inr (1, [.ref q1, .ref q2, .ref q3, .ref q4, .ref q5])), (q1, .inl (cI, 24, .inl nm)), (q2, .inl (cI, 24, .inl hi)), (q3, .inl (cI, 24, .inl ln)), (q4, .inl (cZ, 24, .inl op)), (q5, .inl (cI, 1536, .inl wd))] := hD
  have hl := lv_entry ([.ref q0, .int (nI j), .int n, .int h]) (n := 4) (Nat.le_of_ble_eq_true rfl)
  rw [lg_entry_eq]
  generalize (lg_sl ([.ref q0, .int (nI j), .int n, .int h]) ++ List.replicate (4 - (lg_sl ([.ref q0, .int (nI j), .int n, .int h])).length) Slot.unset).toArray = ls at hl ⊢
  have hl : lv_has ls 4 [(0, .ref q0), (1, .int (nI j)), (2, .int n), (3, .int h)] := hl
  refine lv_aload_n hx hb zd_C_place_0 rfl (lv_at hl 0 rfl) ?_
  refine va_get (D := (dC, dI)) (ci := 1) (v := .ref q1) (C := "ZoneShelf$Contents") (T := zs_T_C) (N := 5) hx hb hz zs_in_C hown hk.1 hP 0 rfl rfl 0 (by decide) (hz _ zq_40) (fun _ h9 => h9) rfl zd_C_place_1 ?_
  refine lv_iload_n hx hb zd_C_place_4 rfl (lv_at hl 1 rfl) ?_
  refine lv_iload_n hx hb zd_C_place_5 rfl (lv_at hl 2 rfl) ?_
  refine zi_ast hx hb hk hP hD hS 1 (j := j) rfl (by omega) (by decide) zd_C_place_6 (fun H locs hP hD hS => ?_)
  have hP : va_P (dC, dI) zs_cl [(q0, .inr (1, [.ref q1, .ref q2, .ref q3, .ref q4, .ref q5])), (q1, .inl (cI, 24, .inl (upd nm j n))), (q2, .inl (cI, 24, .inl hi)), (q3, .inl (cI, 24, .inl ln)), (q4, .inl (cZ, 24, .inl op)), (q5, .inl (cI, 1536, .inl wd))] H := hP
  have hD : va_D A [(q0, .inr (1, [.ref q1, .ref q2, .ref q3, .ref q4, .ref q5])), (q1, .inl (cI, 24, .inl (upd nm j n))), (q2, .inl (cI, 24, .inl hi)), (q3, .inl (cI, 24, .inl ln)), (q4, .inl (cZ, 24, .inl op)), (q5, .inl (cI, 1536, .inl wd))] := hD
  refine lv_aload_n hx hb zd_C_place_7 rfl (lv_at hl 0 rfl) ?_
  refine va_get (D := (dC, dI)) (ci := 1) (v := .ref q2) (C := "ZoneShelf$Contents") (T := zs_T_C) (N := 5) hx hb hz zs_in_C hown hk.1 hP 0 rfl rfl 1 (by decide) (hz _ zq_41) (fun _ h9 => h9) rfl zd_C_place_8 ?_
  refine lv_iload_n hx hb zd_C_place_11 rfl (lv_at hl 1 rfl) ?_
  refine lv_iload_n hx hb zd_C_place_12 rfl (lv_at hl 3 rfl) ?_
  refine zi_ast hx hb hk hP hD hS 2 (j := j) rfl (by omega) (by decide) zd_C_place_13 (fun H locs hP hD hS => ?_)
  have hP : va_P (dC, dI) zs_cl [(q0, .inr (1, [.ref q1, .ref q2, .ref q3, .ref q4, .ref q5])), (q1, .inl (cI, 24, .inl (upd nm j n))), (q2, .inl (cI, 24, .inl (upd hi j h))), (q3, .inl (cI, 24, .inl ln)), (q4, .inl (cZ, 24, .inl op)), (q5, .inl (cI, 1536, .inl wd))] H := hP
  have hD : va_D A [(q0, .inr (1, [.ref q1, .ref q2, .ref q3, .ref q4, .ref q5])), (q1, .inl (cI, 24, .inl (upd nm j n))), (q2, .inl (cI, 24, .inl (upd hi j h))), (q3, .inl (cI, 24, .inl ln)), (q4, .inl (cZ, 24, .inl op)), (q5, .inl (cI, 1536, .inl wd))] := hD
  refine lv_aload_n hx hb zd_C_place_14 rfl (lv_at hl 0 rfl) ?_
  refine va_get (D := (dC, dI)) (ci := 1) (v := .ref q4) (C := "ZoneShelf$Contents") (T := zs_T_C) (N := 5) hx hb hz zs_in_C hown hk.1 hP 0 rfl rfl 3 (by decide) (hz _ zq_43) (fun _ h9 => h9) rfl zd_C_place_15 ?_
  refine lv_iload_n hx hb zd_C_place_18 rfl (lv_at hl 1 rfl) ?_
  refine lv_iconst (v := 1) hx hb zd_C_place_19 (by decide) ?_
  refine zi_zst hx hb hk hP hD hS 4 (j := j) rfl (by omega) (by decide) zd_C_place_20 (fun H locs hP hD hS => ?_)
  have hP : va_P (dC, dI) zs_cl [(q0, .inr (1, [.ref q1, .ref q2, .ref q3, .ref q4, .ref q5])), (q1, .inl (cI, 24, .inl (upd nm j n))), (q2, .inl (cI, 24, .inl (upd hi j h))), (q3, .inl (cI, 24, .inl ln)), (q4, .inl (cZ, 24, .inl (upd op j (vp_nar .boolean 1)))), (q5, .inl (cI, 1536, .inl wd))] H := hP
  have hD : va_D A [(q0, .inr (1, [.ref q1, .ref q2, .ref q3, .ref q4, .ref q5])), (q1, .inl (cI, 24, .inl (upd nm j n))), (q2, .inl (cI, 24, .inl (upd hi j h))), (q3, .inl (cI, 24, .inl ln)), (q4, .inl (cZ, 24, .inl (upd op j (vp_nar .boolean 1)))), (q5, .inl (cI, 1536, .inl wd))] := hD
  exact zw_vret (upd nm j n, upd hi j h, ln, upd op j (vp_nar .boolean 1), wd) hx hb hr hlocks zd_C_place_21 rfl hP hD hS
set_option maxHeartbeats 4000000 in
set_option maxRecDepth 100000 in
theorem zc_C_takeAway (l : Launch) (dC : Nat → ClassId) (dI : Nat → Nat → Nat) (cI cZ : ClassId) (q0 q1 q2 q3 q4 q5 : Nat) (u : zs_C) (sz : Nat) (j : Nat) (hj : j < 24) : Met l zy_C_takeAway (.code zy_C_takeAway zb_C_takeAway 2 none :: zs_w) ({ frames := 0, cells := 0, slots := 0, locals := 0 }) (va_Pc [.ref q0, .int (nI j)] (zs_s dC dI cI cZ sz (zs_wC cI cZ q0 q1 q2 q3 q4 q5 u))) (va_Qv (fun v : zs_C => v = (upd u.1 j (-1), u.2.1, upd u.2.2.1 j 0, u.2.2.2.1, u.2.2.2.2)) (zs_e dC dI (zs_wC cI cZ q0 q1 q2 q3 q4 q5) (va_A (zs_wC cI cZ q0 q1 q2 q3 q4 q5 u) sz)) (va_A (zs_wC cI cZ q0 q1 q2 q3 q4 q5 u) sz)) 0 0 (va_A (zs_wC cI cZ q0 q1 q2 q3 q4 q5 u) sz) := by
  obtain ⟨nm, hi, ln, op, wd⟩ := u
  refine Met.ofW (cc := zb_C_takeAway) (maxL := 2) (ret := none) (by decide) rfl ?_
  intro p e s m args below meth c s₁ B hml hv
  obtain ⟨rfl, hsz, hP, hk, hD0⟩ := hv
  have hx := B.exec
  have hb := B.bytes
  have hr := B.returns
  have hts := atoms_spec (ws := .code zy_C_takeAway zb_C_takeAway 2 none :: zs_w) B.pre
  have hz : ∀ w ∈ zs_w, w.before _ s = true := fun w h => hts w (List.mem_cons_of_mem _ h)
  have hown : s.vm.findClass "ZoneShelf$Contents" = some m.cls := findClass_of_methodNamed B.named
  have hlocks := B.notSynchronized
  subst hsz
  have hD := hD0.self (sz := s.heap.size)
  generalize hAe : va_A (zs_wC cI cZ q0 q1 q2 q3 q4 q5 (nm, hi, ln, op, wd)) s.heap.size = A at hD ⊢
  have hA : ∀ q : Nat, s.heap.size ≤ q → A q := fun q h => by rw [← hAe]; exact Or.inr h
  have hS : va_S A s.heap s.heap [] := va_S.rf
  have hP : va_P (dC, dI) zs_cl [(q0, .inr (1, [.ref q1, .ref q2, .ref q3, .ref q4, .ref q5])), (q1, .inl (cI, 24, .inl nm)), (q2, .inl (cI, 24, .inl hi)), (q3, .inl (cI, 24, .inl ln)), (q4, .inl (cZ, 24, .inl op)), (q5, .inl (cI, 1536, .inl wd))] s.heap := hP
  have hD : va_D A [(q0, .inr (1, [.ref q1, .ref q2, .ref q3, .ref q4, .ref q5])), (q1, .inl (cI, 24, .inl nm)), (q2, .inl (cI, 24, .inl hi)), (q3, .inl (cI, 24, .inl ln)), (q4, .inl (cZ, 24, .inl op)), (q5, .inl (cI, 1536, .inl wd))] := hD
  have hl := lv_entry ([.ref q0, .int (nI j)]) (n := 2) (Nat.le_of_ble_eq_true rfl)
  rw [lg_entry_eq]
  generalize (lg_sl ([.ref q0, .int (nI j)]) ++ List.replicate (2 - (lg_sl ([.ref q0, .int (nI j)])).length) Slot.unset).toArray = ls at hl ⊢
  have hl : lv_has ls 2 [(0, .ref q0), (1, .int (nI j))] := hl
  refine lv_aload_n hx hb zd_C_takeAway_0 rfl (lv_at hl 0 rfl) ?_
  refine va_get (D := (dC, dI)) (ci := 1) (v := .ref q1) (C := "ZoneShelf$Contents") (T := zs_T_C) (N := 5) hx hb hz zs_in_C hown hk.1 hP 0 rfl rfl 0 (by decide) (hz _ zq_40) (fun _ h9 => h9) rfl zd_C_takeAway_1 ?_
  refine lv_iload_n hx hb zd_C_takeAway_4 rfl (lv_at hl 1 rfl) ?_
  refine lv_iconst (v := (-1)) hx hb zd_C_takeAway_5 (by decide) ?_
  refine zi_ast hx hb hk hP hD hS 1 (j := j) rfl (by omega) (by decide) zd_C_takeAway_6 (fun H locs hP hD hS => ?_)
  have hP : va_P (dC, dI) zs_cl [(q0, .inr (1, [.ref q1, .ref q2, .ref q3, .ref q4, .ref q5])), (q1, .inl (cI, 24, .inl (upd nm j (-1)))), (q2, .inl (cI, 24, .inl hi)), (q3, .inl (cI, 24, .inl ln)), (q4, .inl (cZ, 24, .inl op)), (q5, .inl (cI, 1536, .inl wd))] H := hP
  have hD : va_D A [(q0, .inr (1, [.ref q1, .ref q2, .ref q3, .ref q4, .ref q5])), (q1, .inl (cI, 24, .inl (upd nm j (-1)))), (q2, .inl (cI, 24, .inl hi)), (q3, .inl (cI, 24, .inl ln)), (q4, .inl (cZ, 24, .inl op)), (q5, .inl (cI, 1536, .inl wd))] := hD
  refine lv_aload_n hx hb zd_C_takeAway_7 rfl (lv_at hl 0 rfl) ?_
  refine va_get (D := (dC, dI)) (ci := 1) (v := .ref q3) (C := "ZoneShelf$Contents") (T := zs_T_C) (N := 5) hx hb hz zs_in_C hown hk.1 hP 0 rfl rfl 2 (by decide) (hz _ zq_42) (fun _ h9 => h9) rfl zd_C_takeAway_8 ?_
  refine lv_iload_n hx hb zd_C_takeAway_11 rfl (lv_at hl 1 rfl) ?_
  refine lv_iconst (v := 0) hx hb zd_C_takeAway_12 (by decide) ?_
  refine zi_ast hx hb hk hP hD hS 3 (j := j) rfl (by omega) (by decide) zd_C_takeAway_13 (fun H locs hP hD hS => ?_)
  have hP : va_P (dC, dI) zs_cl [(q0, .inr (1, [.ref q1, .ref q2, .ref q3, .ref q4, .ref q5])), (q1, .inl (cI, 24, .inl (upd nm j (-1)))), (q2, .inl (cI, 24, .inl hi)), (q3, .inl (cI, 24, .inl (upd ln j 0))), (q4, .inl (cZ, 24, .inl op)), (q5, .inl (cI, 1536, .inl wd))] H := hP
  have hD : va_D A [(q0, .inr (1, [.ref q1, .ref q2, .ref q3, .ref q4, .ref q5])), (q1, .inl (cI, 24, .inl (upd nm j (-1)))), (q2, .inl (cI, 24, .inl hi)), (q3, .inl (cI, 24, .inl (upd ln j 0))), (q4, .inl (cZ, 24, .inl op)), (q5, .inl (cI, 1536, .inl wd))] := hD
  exact zw_vret (upd nm j (-1), hi, upd ln j 0, op, wd) hx hb hr hlocks zd_C_takeAway_14 rfl hP hD hS
set_option maxHeartbeats 4000000 in
set_option maxRecDepth 100000 in
theorem zc_C_addRow (l : Launch) (dC : Nat → ClassId) (dI : Nat → Nat → Nat) (cI cZ : ClassId) (q0 q1 q2 q3 q4 q5 : Nat) (u : zs_C) (sz : Nat) (j q k : Nat) (f : Int32) (hj : j < 24) (hq : u.2.2.1 j = nI q) (hk6 : q + k ≤ 64) : Met l zy_C_addRow (.code zy_C_addRow zb_C_addRow 6 none :: zs_w) ({ frames := 0, cells := 0, slots := 0, locals := 0 }) (va_Pc [.ref q0, .int (nI j), .int f, .int (nI k)] (zs_s dC dI cI cZ sz (zs_wC cI cZ q0 q1 q2 q3 q4 q5 u))) (va_Qv (fun v : zs_C => v = (u.1, u.2.1, upd u.2.2.1 j (nI (q + k)), u.2.2.2.1, zs_row u.2.2.2.2 (j * 64 + q) f k)) (zs_e dC dI (zs_wC cI cZ q0 q1 q2 q3 q4 q5) (va_A (zs_wC cI cZ q0 q1 q2 q3 q4 q5 u) sz)) (va_A (zs_wC cI cZ q0 q1 q2 q3 q4 q5 u) sz)) 0 0 (va_A (zs_wC cI cZ q0 q1 q2 q3 q4 q5 u) sz) := by
  obtain ⟨nm, hi, ln, op, wd⟩ := u
  have hq : ln j = nI q := hq
  refine Met.ofW (cc := zb_C_addRow) (maxL := 6) (ret := none) (by decide) rfl ?_
  intro p e s m args below meth c s₁ B hml hv
  obtain ⟨rfl, hsz, hP, hk, hD0⟩ := hv
  have hx := B.exec
  have hb := B.bytes
  have hr := B.returns
  have hts := atoms_spec (ws := .code zy_C_addRow zb_C_addRow 6 none :: zs_w) B.pre
  have hz : ∀ w ∈ zs_w, w.before _ s = true := fun w h => hts w (List.mem_cons_of_mem _ h)
  have hown : s.vm.findClass "ZoneShelf$Contents" = some m.cls := findClass_of_methodNamed B.named
  have hlocks := B.notSynchronized
  subst hsz
  have hD := hD0.self (sz := s.heap.size)
  generalize hAe : va_A (zs_wC cI cZ q0 q1 q2 q3 q4 q5 (nm, hi, ln, op, wd)) s.heap.size = A at hD ⊢
  have hA : ∀ q : Nat, s.heap.size ≤ q → A q := fun q h => by rw [← hAe]; exact Or.inr h
  have hS : va_S A s.heap s.heap [] := va_S.rf
  have hP : va_P (dC, dI) zs_cl [(q0, .inr (1, [.ref q1, .ref q2, .ref q3, .ref q4, .ref q5])), (q1, .inl (cI, 24, .inl nm)), (q2, .inl (cI, 24, .inl hi)), (q3, .inl (cI, 24, .inl ln)), (q4, .inl (cZ, 24, .inl op)), (q5, .inl (cI, 1536, .inl wd))] s.heap := hP
  have hD : va_D A [(q0, .inr (1, [.ref q1, .ref q2, .ref q3, .ref q4, .ref q5])), (q1, .inl (cI, 24, .inl nm)), (q2, .inl (cI, 24, .inl hi)), (q3, .inl (cI, 24, .inl ln)), (q4, .inl (cZ, 24, .inl op)), (q5, .inl (cI, 1536, .inl wd))] := hD
  have hl := lv_entry ([.ref q0, .int (nI j), .int f, .int (nI k)]) (n := 6) (Nat.le_of_ble_eq_true rfl)
  rw [lg_entry_eq]
  generalize (lg_sl ([.ref q0, .int (nI j), .int f, .int (nI k)]) ++ List.replicate (6 - (lg_sl ([.ref q0, .int (nI j), .int f, .int (nI k)])).length) Slot.unset).toArray = ls at hl ⊢
  have hl : lv_has ls 6 [(0, .ref q0), (1, .int (nI j)), (2, .int f), (3, .int (nI k))] := hl
  refine lv_iload_n hx hb zd_C_addRow_0 rfl (lv_at hl 1 rfl) ?_
  refine lv_bipush (v := 64) hx hb zd_C_addRow_1 (by decide) ?_
  refine lv_imul hx hb zd_C_addRow_3 ?_
  refine lv_aload_n hx hb zd_C_addRow_4 rfl (lv_at hl 0 rfl) ?_
  refine va_get (D := (dC, dI)) (ci := 1) (v := .ref q3) (C := "ZoneShelf$Contents") (T := zs_T_C) (N := 5) hx hb hz zs_in_C hown hk.1 hP 0 rfl rfl 2 (by decide) (hz _ zq_42) (fun _ h9 => h9) rfl zd_C_addRow_5 ?_
  refine lv_iload_n hx hb zd_C_addRow_8 rfl (lv_at hl 1 rfl) ?_
  refine zi_ald hx hb hk hP 3 (j := j) rfl (by omega) (by decide) zd_C_addRow_9 ?_
  refine lv_iadd hx hb zd_C_addRow_10 ?_
  refine zi_top (y := nI (j * 64 + q)) (by rw [hq, show (64 : Int32) = nI 64 from rfl, pk_mul, nI_add]) ?_
  refine lv_istore (lv' := [(4, .int (nI (j * 64 + q))), (0, .ref q0), (1, .int (nI j)), (2, .int f), (3, .int (nI k))]) hx hb zd_C_addRow_11 hl (by decide) rfl (fun ls hl => ?_)
  refine lv_iconst (v := 0) hx hb zd_C_addRow_13 (by decide) ?_
  refine lv_istore (lv' := [(5, .int 0), (4, .int (nI (j * 64 + q))), (0, .ref q0), (1, .int (nI j)), (2, .int f), (3, .int (nI k))]) hx hb zd_C_addRow_14 hl (by decide) rfl (fun ls hl => ?_)
  refine zl_w (N := k) (α := Unit) (fun kk ii xx ls H locs => lv_has ls 6 [(5, .int (nI ii)), (4, .int (nI (j * 64 + q))), (0, .ref q0), (1, .int (nI j)), (2, .int f), (3, .int (nI k))] ∧ va_P (dC, dI) zs_cl [(q0, .inr (1, [.ref q1, .ref q2, .ref q3, .ref q4, .ref q5])), (q1, .inl (cI, 24, .inl nm)), (q2, .inl (cI, 24, .inl hi)), (q3, .inl (cI, 24, .inl ln)), (q4, .inl (cZ, 24, .inl op)), (q5, .inl (cI, 1536, .inl (zs_row wd (j * 64 + q) f ii)))] H ∧ va_D A [(q0, .inr (1, [.ref q1, .ref q2, .ref q3, .ref q4, .ref q5])), (q1, .inl (cI, 24, .inl nm)), (q2, .inl (cI, 24, .inl hi)), (q3, .inl (cI, 24, .inl ln)), (q4, .inl (cZ, 24, .inl op)), (q5, .inl (cI, 1536, .inl (zs_row wd (j * 64 + q) f ii)))] ∧ va_S A s.heap H locs) (fun k1 i1 x1 ls H locs e1 hv ih1 => ?_) (fun x1 ls H locs hv => ?_) k 0 () ls s.heap _ (by omega) ⟨lv_sub hl [0, 1, 2, 3, 4, 5] rfl, hP, hD, hS⟩
  · obtain ⟨hl, hP, hD, hS⟩ := hv
    have hl : lv_has ls 6 [(5, .int (nI i1)), (4, .int (nI (j * 64 + q))), (0, .ref q0), (1, .int (nI j)), (2, .int f), (3, .int (nI k))] := hl
    have hP : va_P (dC, dI) zs_cl [(q0, .inr (1, [.ref q1, .ref q2, .ref q3, .ref q4, .ref q5])), (q1, .inl (cI, 24, .inl nm)), (q2, .inl (cI, 24, .inl hi)), (q3, .inl (cI, 24, .inl ln)), (q4, .inl (cZ, 24, .inl op)), (q5, .inl (cI, 1536, .inl (zs_row wd (j * 64 + q) f i1)))] H := hP
    have hD : va_D A [(q0, .inr (1, [.ref q1, .ref q2, .ref q3, .ref q4, .ref q5])), (q1, .inl (cI, 24, .inl nm)), (q2, .inl (cI, 24, .inl hi)), (q3, .inl (cI, 24, .inl ln)), (q4, .inl (cZ, 24, .inl op)), (q5, .inl (cI, 1536, .inl (zs_row wd (j * 64 + q) f i1)))] := hD
    have hlt1 : i1 < k := by omega
    refine lv_iload hx hb zd_C_addRow_16 (lv_at hl 0 rfl) ?_
    refine lv_iload_n hx hb zd_C_addRow_18 rfl (lv_at hl 5 rfl) ?_
    refine zj_in (tgt := 42) (n := k) hx hb zd_C_addRow_19 rfl rfl hlt1 (by omega) ?_
    refine lv_aload_n hx hb zd_C_addRow_22 rfl (lv_at hl 2 rfl) ?_
    refine va_get (D := (dC, dI)) (ci := 1) (v := .ref q5) (C := "ZoneShelf$Contents") (T := zs_T_C) (N := 5) hx hb hz zs_in_C hown hk.1 hP 0 rfl rfl 4 (by decide) (hz _ zq_44) (fun _ h9 => h9) rfl zd_C_addRow_23 ?_
    refine lv_iload hx hb zd_C_addRow_26 (lv_at hl 1 rfl) ?_
    refine lv_iload hx hb zd_C_addRow_28 (lv_at hl 0 rfl) ?_
    refine lv_iadd hx hb zd_C_addRow_30 ?_
    refine zi_top (y := nI (j * 64 + q + i1)) (nI_add _ _) ?_
    refine lv_iload_n hx hb zd_C_addRow_31 rfl (lv_at hl 4 rfl) ?_
    refine lv_iload hx hb zd_C_addRow_32 (lv_at hl 0 rfl) ?_
    refine lv_iadd hx hb zd_C_addRow_34 ?_
    refine zi_ast hx hb hk hP hD hS 5 (j := (j * 64 + q + i1)) rfl (by omega) (by decide) zd_C_addRow_35 (fun H locs hP hD hS => ?_)
    have hP : va_P (dC, dI) zs_cl [(q0, .inr (1, [.ref q1, .ref q2, .ref q3, .ref q4, .ref q5])), (q1, .inl (cI, 24, .inl nm)), (q2, .inl (cI, 24, .inl hi)), (q3, .inl (cI, 24, .inl ln)), (q4, .inl (cZ, 24, .inl op)), (q5, .inl (cI, 1536, .inl (upd (zs_row wd (j * 64 + q) f i1) (j * 64 + q + i1) (f + (nI i1)))))] H := hP
    have hD : va_D A [(q0, .inr (1, [.ref q1, .ref q2, .ref q3, .ref q4, .ref q5])), (q1, .inl (cI, 24, .inl nm)), (q2, .inl (cI, 24, .inl hi)), (q3, .inl (cI, 24, .inl ln)), (q4, .inl (cZ, 24, .inl op)), (q5, .inl (cI, 1536, .inl (upd (zs_row wd (j * 64 + q) f i1) (j * 64 + q + i1) (f + (nI i1)))))] := hD
    refine lv_iinc (k := 0) (v := nI (i1 + 1)) (lv' := [(5, .int (nI (i1 + 1))), (4, .int (nI (j * 64 + q))), (0, .ref q0), (1, .int (nI j)), (2, .int f), (3, .int (nI k))]) hx hb zd_C_addRow_36 hl rfl (zs_inc _) (by decide) rfl (fun ls hl => ?_)
    refine lv_goto (tgt := 16) hx hb zd_C_addRow_39 rfl ?_
    exact ih1 () ls H locs ⟨lv_sub hl [0, 1, 2, 3, 4, 5] rfl, hP, hD, hS⟩
  · obtain ⟨hl, hP, hD, hS⟩ := hv
    have hl : lv_has ls 6 [(5, .int (nI k)), (4, .int (nI (j * 64 + q))), (0, .ref q0), (1, .int (nI j)), (2, .int f), (3, .int (nI k))] := hl
    have hP : va_P (dC, dI) zs_cl [(q0, .inr (1, [.ref q1, .ref q2, .ref q3, .ref q4, .ref q5])), (q1, .inl (cI, 24, .inl nm)), (q2, .inl (cI, 24, .inl hi)), (q3, .inl (cI, 24, .inl ln)), (q4, .inl (cZ, 24, .inl op)), (q5, .inl (cI, 1536, .inl (zs_row wd (j * 64 + q) f k)))] H := hP
    have hD : va_D A [(q0, .inr (1, [.ref q1, .ref q2, .ref q3, .ref q4, .ref q5])), (q1, .inl (cI, 24, .inl nm)), (q2, .inl (cI, 24, .inl hi)), (q3, .inl (cI, 24, .inl ln)), (q4, .inl (cZ, 24, .inl op)), (q5, .inl (cI, 1536, .inl (zs_row wd (j * 64 + q) f k)))] := hD
    refine lv_iload hx hb zd_C_addRow_16 (lv_at hl 0 rfl) ?_
    refine lv_iload_n hx hb zd_C_addRow_18 rfl (lv_at hl 5 rfl) ?_
    refine zj_out (tgt := 42) (n := k) (i := k) hx hb zd_C_addRow_19 rfl rfl (Nat.le_refl _) (by omega) ?_
    refine lv_aload_n hx hb zd_C_addRow_42 rfl (lv_at hl 2 rfl) ?_
    refine va_get (D := (dC, dI)) (ci := 1) (v := .ref q3) (C := "ZoneShelf$Contents") (T := zs_T_C) (N := 5) hx hb hz zs_in_C hown hk.1 hP 0 rfl rfl 2 (by decide) (hz _ zq_42) (fun _ h9 => h9) rfl zd_C_addRow_43 ?_
    refine lv_iload_n hx hb zd_C_addRow_46 rfl (lv_at hl 3 rfl) ?_
    refine lv_dup2_11 hx hb zd_C_addRow_47 rfl rfl ?_
    refine zi_ald hx hb hk hP 3 (j := j) rfl (by omega) (by decide) zd_C_addRow_48 ?_
    refine lv_iload_n hx hb zd_C_addRow_49 rfl (lv_at hl 5 rfl) ?_
    refine lv_iadd hx hb zd_C_addRow_50 ?_
    refine zi_top (y := nI (q + k)) (by rw [hq]; exact nI_add _ _) ?_
    refine zi_ast hx hb hk hP hD hS 3 (j := j) rfl (by omega) (by decide) zd_C_addRow_51 (fun H locs hP hD hS => ?_)
    have hP : va_P (dC, dI) zs_cl [(q0, .inr (1, [.ref q1, .ref q2, .ref q3, .ref q4, .ref q5])), (q1, .inl (cI, 24, .inl nm)), (q2, .inl (cI, 24, .inl hi)), (q3, .inl (cI, 24, .inl (upd ln j (nI (q + k))))), (q4, .inl (cZ, 24, .inl op)), (q5, .inl (cI, 1536, .inl (zs_row wd (j * 64 + q) f k)))] H := hP
    have hD : va_D A [(q0, .inr (1, [.ref q1, .ref q2, .ref q3, .ref q4, .ref q5])), (q1, .inl (cI, 24, .inl nm)), (q2, .inl (cI, 24, .inl hi)), (q3, .inl (cI, 24, .inl (upd ln j (nI (q + k))))), (q4, .inl (cZ, 24, .inl op)), (q5, .inl (cI, 1536, .inl (zs_row wd (j * 64 + q) f k)))] := hD
    exact zw_vret (nm, hi, upd ln j (nI (q + k)), op, zs_row wd (j * 64 + q) f k) hx hb hr hlocks zd_C_addRow_52 rfl hP hD hS
set_option maxHeartbeats 4000000 in
set_option maxRecDepth 100000 in
theorem zc_C_copyFrom (l : Launch) (dC : Nat → ClassId) (dI : Nat → Nat → Nat) (cI cZ : ClassId) (q0 q1 q2 q3 q4 q5 p0 p1 p2 p3 p4 p5 : Nat) (u v : zs_C) (sz : Nat) : Met l zy_C_copyFrom (.code zy_C_copyFrom zb_C_copyFrom 3 none :: zs_w) ({ frames := 1, cells := 0, slots := 0, locals := 26 }) (va_Pc [.ref q0, .ref p0] (zs_s dC dI cI cZ sz (zs_wC cI cZ q0 q1 q2 q3 q4 q5 u ++ zs_wC cI cZ p0 p1 p2 p3 p4 p5 v))) (va_Qv (fun t : zs_C => t = zs_copy v u) (zs_e dC dI (fun t => zs_wC cI cZ q0 q1 q2 q3 q4 q5 t ++ zs_wC cI cZ p0 p1 p2 p3 p4 p5 v) (va_A (zs_wC cI cZ q0 q1 q2 q3 q4 q5 u ++ zs_wC cI cZ p0 p1 p2 p3 p4 p5 v) sz)) (va_A (zs_wC cI cZ q0 q1 q2 q3 q4 q5 u ++ zs_wC cI cZ p0 p1 p2 p3 p4 p5 v) sz)) 0 0 (va_A (zs_wC cI cZ q0 q1 q2 q3 q4 q5 u ++ zs_wC cI cZ p0 p1 p2 p3 p4 p5 v) sz) := by
  obtain ⟨nm, hi, ln, op, wd⟩ := u
  obtain ⟨nm2, hi2, ln2, op2, wd2⟩ := v
  refine Met.ofW (cc := zb_C_copyFrom) (maxL := 3) (ret := none) (by decide) rfl ?_
  intro p e s m args below meth c s₁ B hml hv
  obtain ⟨rfl, hsz, hP, hk, hD0⟩ := hv
  have hx := B.exec
  have hb := B.bytes
  have hr := B.returns
  have hts := atoms_spec (ws := .code zy_C_copyFrom zb_C_copyFrom 3 none :: zs_w) B.pre
  have hz : ∀ w ∈ zs_w, w.before _ s = true := fun w h => hts w (List.mem_cons_of_mem _ h)
  have hown : s.vm.findClass "ZoneShelf$Contents" = some m.cls := findClass_of_methodNamed B.named
  have hlocks := B.notSynchronized
  subst hsz
  have hD := hD0.self (sz := s.heap.size)
  generalize hAe : va_A (zs_wC cI cZ q0 q1 q2 q3 q4 q5 (nm, hi, ln, op, wd) ++ zs_wC cI cZ p0 p1 p2 p3 p4 p5 (nm2, hi2, ln2, op2, wd2)) s.heap.size = A at hD ⊢
  have hA : ∀ q : Nat, s.heap.size ≤ q → A q := fun q h => by rw [← hAe]; exact Or.inr h
  have hS : va_S A s.heap s.heap [] := va_S.rf
  have hP : va_P (dC, dI) zs_cl [(q0, .inr (1, [.ref q1, .ref q2, .ref q3, .ref q4, .ref q5])), (q1, .inl (cI, 24, .inl nm)), (q2, .inl (cI, 24, .inl hi)), (q3, .inl (cI, 24, .inl ln)), (q4, .inl (cZ, 24, .inl op)), (q5, .inl (cI, 1536, .inl wd)), (p0, .inr (1, [.ref p1, .ref p2, .ref p3, .ref p4, .ref p5])), (p1, .inl (cI, 24, .inl nm2)), (p2, .inl (cI, 24, .inl hi2)), (p3, .inl (cI, 24, .inl ln2)), (p4, .inl (cZ, 24, .inl op2)), (p5, .inl (cI, 1536, .inl wd2))] s.heap := hP
  have hD : va_D A [(q0, .inr (1, [.ref q1, .ref q2, .ref q3, .ref q4, .ref q5])), (q1, .inl (cI, 24, .inl nm)), (q2, .inl (cI, 24, .inl hi)), (q3, .inl (cI, 24, .inl ln)), (q4, .inl (cZ, 24, .inl op)), (q5, .inl (cI, 1536, .inl wd)), (p0, .inr (1, [.ref p1, .ref p2, .ref p3, .ref p4, .ref p5])), (p1, .inl (cI, 24, .inl nm2)), (p2, .inl (cI, 24, .inl hi2)), (p3, .inl (cI, 24, .inl ln2)), (p4, .inl (cZ, 24, .inl op2)), (p5, .inl (cI, 1536, .inl wd2))] := hD
  have hl := lv_entry ([.ref q0, .ref p0]) (n := 3) (Nat.le_of_ble_eq_true rfl)
  rw [lg_entry_eq]
  generalize (lg_sl ([.ref q0, .ref p0]) ++ List.replicate (3 - (lg_sl ([.ref q0, .ref p0])).length) Slot.unset).toArray = ls at hl ⊢
  have hl : lv_has ls 3 [(0, .ref q0), (1, .ref p0)] := hl
  refine lv_iconst (v := 0) hx hb zd_C_copyFrom_0 (by decide) ?_
  refine lv_istore_n (lv' := [(2, .int 0), (0, .ref q0), (1, .ref p0)]) hx hb zd_C_copyFrom_1 rfl hl (by decide) rfl (fun ls hl => ?_)
  refine zl_w (N := 24) (α := Unit) (fun kk ii xx ls H locs => lv_has ls 3 [(2, .int (nI ii)), (0, .ref q0), (1, .ref p0)] ∧ va_P (dC, dI) zs_cl [(q0, .inr (1, [.ref q1, .ref q2, .ref q3, .ref q4, .ref q5])), (q1, .inl (cI, 24, .inl (zs_cp nm2 nm ii))), (q2, .inl (cI, 24, .inl (zs_cp hi2 hi ii))), (q3, .inl (cI, 24, .inl (zs_cp ln2 ln ii))), (q4, .inl (cZ, 24, .inl (zs_cz op2 op ii))), (q5, .inl (cI, 1536, .inl wd)), (p0, .inr (1, [.ref p1, .ref p2, .ref p3, .ref p4, .ref p5])), (p1, .inl (cI, 24, .inl nm2)), (p2, .inl (cI, 24, .inl hi2)), (p3, .inl (cI, 24, .inl ln2)), (p4, .inl (cZ, 24, .inl op2)), (p5, .inl (cI, 1536, .inl wd2))] H ∧ va_D A [(q0, .inr (1, [.ref q1, .ref q2, .ref q3, .ref q4, .ref q5])), (q1, .inl (cI, 24, .inl (zs_cp nm2 nm ii))), (q2, .inl (cI, 24, .inl (zs_cp hi2 hi ii))), (q3, .inl (cI, 24, .inl (zs_cp ln2 ln ii))), (q4, .inl (cZ, 24, .inl (zs_cz op2 op ii))), (q5, .inl (cI, 1536, .inl wd)), (p0, .inr (1, [.ref p1, .ref p2, .ref p3, .ref p4, .ref p5])), (p1, .inl (cI, 24, .inl nm2)), (p2, .inl (cI, 24, .inl hi2)), (p3, .inl (cI, 24, .inl ln2)), (p4, .inl (cZ, 24, .inl op2)), (p5, .inl (cI, 1536, .inl wd2))] ∧ va_S A s.heap H locs) (fun k1 i1 x1 ls H locs e1 hv ih1 => ?_) (fun x1 ls H locs hv => ?_) 24 0 () ls s.heap _ rfl ⟨lv_sub hl [0, 1, 2] rfl, by rw [zs_cp_0, zs_cp_0, zs_cp_0, zs_cz_0]; exact hP, by rw [zs_cp_0, zs_cp_0, zs_cp_0, zs_cz_0]; exact hD, hS⟩
  · obtain ⟨hl, hP, hD, hS⟩ := hv
    have hl : lv_has ls 3 [(2, .int (nI i1)), (0, .ref q0), (1, .ref p0)] := hl
    have hP : va_P (dC, dI) zs_cl [(q0, .inr (1, [.ref q1, .ref q2, .ref q3, .ref q4, .ref q5])), (q1, .inl (cI, 24, .inl (zs_cp nm2 nm i1))), (q2, .inl (cI, 24, .inl (zs_cp hi2 hi i1))), (q3, .inl (cI, 24, .inl (zs_cp ln2 ln i1))), (q4, .inl (cZ, 24, .inl (zs_cz op2 op i1))), (q5, .inl (cI, 1536, .inl wd)), (p0, .inr (1, [.ref p1, .ref p2, .ref p3, .ref p4, .ref p5])), (p1, .inl (cI, 24, .inl nm2)), (p2, .inl (cI, 24, .inl hi2)), (p3, .inl (cI, 24, .inl ln2)), (p4, .inl (cZ, 24, .inl op2)), (p5, .inl (cI, 1536, .inl wd2))] H := hP
    have hD : va_D A [(q0, .inr (1, [.ref q1, .ref q2, .ref q3, .ref q4, .ref q5])), (q1, .inl (cI, 24, .inl (zs_cp nm2 nm i1))), (q2, .inl (cI, 24, .inl (zs_cp hi2 hi i1))), (q3, .inl (cI, 24, .inl (zs_cp ln2 ln i1))), (q4, .inl (cZ, 24, .inl (zs_cz op2 op i1))), (q5, .inl (cI, 1536, .inl wd)), (p0, .inr (1, [.ref p1, .ref p2, .ref p3, .ref p4, .ref p5])), (p1, .inl (cI, 24, .inl nm2)), (p2, .inl (cI, 24, .inl hi2)), (p3, .inl (cI, 24, .inl ln2)), (p4, .inl (cZ, 24, .inl op2)), (p5, .inl (cI, 1536, .inl wd2))] := hD
    have hlt1 : i1 < 24 := by omega
    refine lv_iload_n hx hb zd_C_copyFrom_2 rfl (lv_at hl 0 rfl) ?_
    refine lv_bipush (v := 24) hx hb zd_C_copyFrom_3 (by decide) ?_
    refine zj_in (tgt := 62) (n := 24) hx hb zd_C_copyFrom_5 rfl (by decide) hlt1 (by decide) ?_
    refine lv_aload_n hx hb zd_C_copyFrom_8 rfl (lv_at hl 1 rfl) ?_
    refine va_get (D := (dC, dI)) (ci := 1) (v := .ref q1) (C := "ZoneShelf$Contents") (T := zs_T_C) (N := 5) hx hb hz zs_in_C hown hk.1 hP 0 rfl rfl 0 (by decide) (hz _ zq_40) (fun _ h9 => h9) rfl zd_C_copyFrom_9 ?_
    refine lv_iload_n hx hb zd_C_copyFrom_12 rfl (lv_at hl 0 rfl) ?_
    refine lv_aload_n hx hb zd_C_copyFrom_13 rfl (lv_at hl 2 rfl) ?_
    refine va_get (D := (dC, dI)) (ci := 1) (v := .ref p1) (C := "ZoneShelf$Contents") (T := zs_T_C) (N := 5) hx hb hz zs_in_C hown hk.1 hP 6 rfl rfl 0 (by decide) (hz _ zq_40) (fun _ h9 => h9) rfl zd_C_copyFrom_14 ?_
    refine lv_iload_n hx hb zd_C_copyFrom_17 rfl (lv_at hl 0 rfl) ?_
    refine zi_ald hx hb hk hP 7 (j := i1) rfl (by omega) (by decide) zd_C_copyFrom_18 ?_
    refine zi_ast hx hb hk hP hD hS 1 (j := i1) rfl (by omega) (by decide) zd_C_copyFrom_19 (fun H locs hP hD hS => ?_)
    have hP : va_P (dC, dI) zs_cl [(q0, .inr (1, [.ref q1, .ref q2, .ref q3, .ref q4, .ref q5])), (q1, .inl (cI, 24, .inl (upd (zs_cp nm2 nm i1) i1 (nm2 i1)))), (q2, .inl (cI, 24, .inl (zs_cp hi2 hi i1))), (q3, .inl (cI, 24, .inl (zs_cp ln2 ln i1))), (q4, .inl (cZ, 24, .inl (zs_cz op2 op i1))), (q5, .inl (cI, 1536, .inl wd)), (p0, .inr (1, [.ref p1, .ref p2, .ref p3, .ref p4, .ref p5])), (p1, .inl (cI, 24, .inl nm2)), (p2, .inl (cI, 24, .inl hi2)), (p3, .inl (cI, 24, .inl ln2)), (p4, .inl (cZ, 24, .inl op2)), (p5, .inl (cI, 1536, .inl wd2))] H := hP
    have hD : va_D A [(q0, .inr (1, [.ref q1, .ref q2, .ref q3, .ref q4, .ref q5])), (q1, .inl (cI, 24, .inl (upd (zs_cp nm2 nm i1) i1 (nm2 i1)))), (q2, .inl (cI, 24, .inl (zs_cp hi2 hi i1))), (q3, .inl (cI, 24, .inl (zs_cp ln2 ln i1))), (q4, .inl (cZ, 24, .inl (zs_cz op2 op i1))), (q5, .inl (cI, 1536, .inl wd)), (p0, .inr (1, [.ref p1, .ref p2, .ref p3, .ref p4, .ref p5])), (p1, .inl (cI, 24, .inl nm2)), (p2, .inl (cI, 24, .inl hi2)), (p3, .inl (cI, 24, .inl ln2)), (p4, .inl (cZ, 24, .inl op2)), (p5, .inl (cI, 1536, .inl wd2))] := hD
    refine lv_aload_n hx hb zd_C_copyFrom_20 rfl (lv_at hl 1 rfl) ?_
    refine va_get (D := (dC, dI)) (ci := 1) (v := .ref q2) (C := "ZoneShelf$Contents") (T := zs_T_C) (N := 5) hx hb hz zs_in_C hown hk.1 hP 0 rfl rfl 1 (by decide) (hz _ zq_41) (fun _ h9 => h9) rfl zd_C_copyFrom_21 ?_
    refine lv_iload_n hx hb zd_C_copyFrom_24 rfl (lv_at hl 0 rfl) ?_
    refine lv_aload_n hx hb zd_C_copyFrom_25 rfl (lv_at hl 2 rfl) ?_
    refine va_get (D := (dC, dI)) (ci := 1) (v := .ref p2) (C := "ZoneShelf$Contents") (T := zs_T_C) (N := 5) hx hb hz zs_in_C hown hk.1 hP 6 rfl rfl 1 (by decide) (hz _ zq_41) (fun _ h9 => h9) rfl zd_C_copyFrom_26 ?_
    refine lv_iload_n hx hb zd_C_copyFrom_29 rfl (lv_at hl 0 rfl) ?_
    refine zi_ald hx hb hk hP 8 (j := i1) rfl (by omega) (by decide) zd_C_copyFrom_30 ?_
    refine zi_ast hx hb hk hP hD hS 2 (j := i1) rfl (by omega) (by decide) zd_C_copyFrom_31 (fun H locs hP hD hS => ?_)
    have hP : va_P (dC, dI) zs_cl [(q0, .inr (1, [.ref q1, .ref q2, .ref q3, .ref q4, .ref q5])), (q1, .inl (cI, 24, .inl (upd (zs_cp nm2 nm i1) i1 (nm2 i1)))), (q2, .inl (cI, 24, .inl (upd (zs_cp hi2 hi i1) i1 (hi2 i1)))), (q3, .inl (cI, 24, .inl (zs_cp ln2 ln i1))), (q4, .inl (cZ, 24, .inl (zs_cz op2 op i1))), (q5, .inl (cI, 1536, .inl wd)), (p0, .inr (1, [.ref p1, .ref p2, .ref p3, .ref p4, .ref p5])), (p1, .inl (cI, 24, .inl nm2)), (p2, .inl (cI, 24, .inl hi2)), (p3, .inl (cI, 24, .inl ln2)), (p4, .inl (cZ, 24, .inl op2)), (p5, .inl (cI, 1536, .inl wd2))] H := hP
    have hD : va_D A [(q0, .inr (1, [.ref q1, .ref q2, .ref q3, .ref q4, .ref q5])), (q1, .inl (cI, 24, .inl (upd (zs_cp nm2 nm i1) i1 (nm2 i1)))), (q2, .inl (cI, 24, .inl (upd (zs_cp hi2 hi i1) i1 (hi2 i1)))), (q3, .inl (cI, 24, .inl (zs_cp ln2 ln i1))), (q4, .inl (cZ, 24, .inl (zs_cz op2 op i1))), (q5, .inl (cI, 1536, .inl wd)), (p0, .inr (1, [.ref p1, .ref p2, .ref p3, .ref p4, .ref p5])), (p1, .inl (cI, 24, .inl nm2)), (p2, .inl (cI, 24, .inl hi2)), (p3, .inl (cI, 24, .inl ln2)), (p4, .inl (cZ, 24, .inl op2)), (p5, .inl (cI, 1536, .inl wd2))] := hD
    refine lv_aload_n hx hb zd_C_copyFrom_32 rfl (lv_at hl 1 rfl) ?_
    refine va_get (D := (dC, dI)) (ci := 1) (v := .ref q3) (C := "ZoneShelf$Contents") (T := zs_T_C) (N := 5) hx hb hz zs_in_C hown hk.1 hP 0 rfl rfl 2 (by decide) (hz _ zq_42) (fun _ h9 => h9) rfl zd_C_copyFrom_33 ?_
    refine lv_iload_n hx hb zd_C_copyFrom_36 rfl (lv_at hl 0 rfl) ?_
    refine lv_aload_n hx hb zd_C_copyFrom_37 rfl (lv_at hl 2 rfl) ?_
    refine va_get (D := (dC, dI)) (ci := 1) (v := .ref p3) (C := "ZoneShelf$Contents") (T := zs_T_C) (N := 5) hx hb hz zs_in_C hown hk.1 hP 6 rfl rfl 2 (by decide) (hz _ zq_42) (fun _ h9 => h9) rfl zd_C_copyFrom_38 ?_
    refine lv_iload_n hx hb zd_C_copyFrom_41 rfl (lv_at hl 0 rfl) ?_
    refine zi_ald hx hb hk hP 9 (j := i1) rfl (by omega) (by decide) zd_C_copyFrom_42 ?_
    refine zi_ast hx hb hk hP hD hS 3 (j := i1) rfl (by omega) (by decide) zd_C_copyFrom_43 (fun H locs hP hD hS => ?_)
    have hP : va_P (dC, dI) zs_cl [(q0, .inr (1, [.ref q1, .ref q2, .ref q3, .ref q4, .ref q5])), (q1, .inl (cI, 24, .inl (upd (zs_cp nm2 nm i1) i1 (nm2 i1)))), (q2, .inl (cI, 24, .inl (upd (zs_cp hi2 hi i1) i1 (hi2 i1)))), (q3, .inl (cI, 24, .inl (upd (zs_cp ln2 ln i1) i1 (ln2 i1)))), (q4, .inl (cZ, 24, .inl (zs_cz op2 op i1))), (q5, .inl (cI, 1536, .inl wd)), (p0, .inr (1, [.ref p1, .ref p2, .ref p3, .ref p4, .ref p5])), (p1, .inl (cI, 24, .inl nm2)), (p2, .inl (cI, 24, .inl hi2)), (p3, .inl (cI, 24, .inl ln2)), (p4, .inl (cZ, 24, .inl op2)), (p5, .inl (cI, 1536, .inl wd2))] H := hP
    have hD : va_D A [(q0, .inr (1, [.ref q1, .ref q2, .ref q3, .ref q4, .ref q5])), (q1, .inl (cI, 24, .inl (upd (zs_cp nm2 nm i1) i1 (nm2 i1)))), (q2, .inl (cI, 24, .inl (upd (zs_cp hi2 hi i1) i1 (hi2 i1)))), (q3, .inl (cI, 24, .inl (upd (zs_cp ln2 ln i1) i1 (ln2 i1)))), (q4, .inl (cZ, 24, .inl (zs_cz op2 op i1))), (q5, .inl (cI, 1536, .inl wd)), (p0, .inr (1, [.ref p1, .ref p2, .ref p3, .ref p4, .ref p5])), (p1, .inl (cI, 24, .inl nm2)), (p2, .inl (cI, 24, .inl hi2)), (p3, .inl (cI, 24, .inl ln2)), (p4, .inl (cZ, 24, .inl op2)), (p5, .inl (cI, 1536, .inl wd2))] := hD
    refine lv_aload_n hx hb zd_C_copyFrom_44 rfl (lv_at hl 1 rfl) ?_
    refine va_get (D := (dC, dI)) (ci := 1) (v := .ref q4) (C := "ZoneShelf$Contents") (T := zs_T_C) (N := 5) hx hb hz zs_in_C hown hk.1 hP 0 rfl rfl 3 (by decide) (hz _ zq_43) (fun _ h9 => h9) rfl zd_C_copyFrom_45 ?_
    refine lv_iload_n hx hb zd_C_copyFrom_48 rfl (lv_at hl 0 rfl) ?_
    refine lv_aload_n hx hb zd_C_copyFrom_49 rfl (lv_at hl 2 rfl) ?_
    refine va_get (D := (dC, dI)) (ci := 1) (v := .ref p4) (C := "ZoneShelf$Contents") (T := zs_T_C) (N := 5) hx hb hz zs_in_C hown hk.1 hP 6 rfl rfl 3 (by decide) (hz _ zq_43) (fun _ h9 => h9) rfl zd_C_copyFrom_50 ?_
    refine lv_iload_n hx hb zd_C_copyFrom_53 rfl (lv_at hl 0 rfl) ?_
    refine zi_zld hx hb hk hP 10 (j := i1) rfl (by omega) (by decide) zd_C_copyFrom_54 ?_
    refine zi_zst hx hb hk hP hD hS 4 (j := i1) rfl (by omega) (by decide) zd_C_copyFrom_55 (fun H locs hP hD hS => ?_)
    have hP : va_P (dC, dI) zs_cl [(q0, .inr (1, [.ref q1, .ref q2, .ref q3, .ref q4, .ref q5])), (q1, .inl (cI, 24, .inl (upd (zs_cp nm2 nm i1) i1 (nm2 i1)))), (q2, .inl (cI, 24, .inl (upd (zs_cp hi2 hi i1) i1 (hi2 i1)))), (q3, .inl (cI, 24, .inl (upd (zs_cp ln2 ln i1) i1 (ln2 i1)))), (q4, .inl (cZ, 24, .inl (upd (zs_cz op2 op i1) i1 (vp_nar .boolean (op2 i1))))), (q5, .inl (cI, 1536, .inl wd)), (p0, .inr (1, [.ref p1, .ref p2, .ref p3, .ref p4, .ref p5])), (p1, .inl (cI, 24, .inl nm2)), (p2, .inl (cI, 24, .inl hi2)), (p3, .inl (cI, 24, .inl ln2)), (p4, .inl (cZ, 24, .inl op2)), (p5, .inl (cI, 1536, .inl wd2))] H := hP
    have hD : va_D A [(q0, .inr (1, [.ref q1, .ref q2, .ref q3, .ref q4, .ref q5])), (q1, .inl (cI, 24, .inl (upd (zs_cp nm2 nm i1) i1 (nm2 i1)))), (q2, .inl (cI, 24, .inl (upd (zs_cp hi2 hi i1) i1 (hi2 i1)))), (q3, .inl (cI, 24, .inl (upd (zs_cp ln2 ln i1) i1 (ln2 i1)))), (q4, .inl (cZ, 24, .inl (upd (zs_cz op2 op i1) i1 (vp_nar .boolean (op2 i1))))), (q5, .inl (cI, 1536, .inl wd)), (p0, .inr (1, [.ref p1, .ref p2, .ref p3, .ref p4, .ref p5])), (p1, .inl (cI, 24, .inl nm2)), (p2, .inl (cI, 24, .inl hi2)), (p3, .inl (cI, 24, .inl ln2)), (p4, .inl (cZ, 24, .inl op2)), (p5, .inl (cI, 1536, .inl wd2))] := hD
    refine lv_iinc (k := 0) (v := nI (i1 + 1)) (lv' := [(2, .int (nI (i1 + 1))), (0, .ref q0), (1, .ref p0)]) hx hb zd_C_copyFrom_56 hl rfl (zs_inc _) (by decide) rfl (fun ls hl => ?_)
    refine lv_goto (tgt := 2) hx hb zd_C_copyFrom_59 rfl ?_
    rw [zs_cp_s nm2 nm i1, zs_cp_s hi2 hi i1, zs_cp_s ln2 ln i1, zs_cz_s op2 op i1] at hP hD
    exact ih1 () ls H locs ⟨lv_sub hl [0, 1, 2] rfl, hP, hD, hS⟩
  · obtain ⟨hl, hP, hD, hS⟩ := hv
    have hl : lv_has ls 3 [(2, .int (nI 24)), (0, .ref q0), (1, .ref p0)] := hl
    have hP : va_P (dC, dI) zs_cl [(q0, .inr (1, [.ref q1, .ref q2, .ref q3, .ref q4, .ref q5])), (q1, .inl (cI, 24, .inl (zs_cp nm2 nm 24))), (q2, .inl (cI, 24, .inl (zs_cp hi2 hi 24))), (q3, .inl (cI, 24, .inl (zs_cp ln2 ln 24))), (q4, .inl (cZ, 24, .inl (zs_cz op2 op 24))), (q5, .inl (cI, 1536, .inl wd)), (p0, .inr (1, [.ref p1, .ref p2, .ref p3, .ref p4, .ref p5])), (p1, .inl (cI, 24, .inl nm2)), (p2, .inl (cI, 24, .inl hi2)), (p3, .inl (cI, 24, .inl ln2)), (p4, .inl (cZ, 24, .inl op2)), (p5, .inl (cI, 1536, .inl wd2))] H := hP
    have hD : va_D A [(q0, .inr (1, [.ref q1, .ref q2, .ref q3, .ref q4, .ref q5])), (q1, .inl (cI, 24, .inl (zs_cp nm2 nm 24))), (q2, .inl (cI, 24, .inl (zs_cp hi2 hi 24))), (q3, .inl (cI, 24, .inl (zs_cp ln2 ln 24))), (q4, .inl (cZ, 24, .inl (zs_cz op2 op 24))), (q5, .inl (cI, 1536, .inl wd)), (p0, .inr (1, [.ref p1, .ref p2, .ref p3, .ref p4, .ref p5])), (p1, .inl (cI, 24, .inl nm2)), (p2, .inl (cI, 24, .inl hi2)), (p3, .inl (cI, 24, .inl ln2)), (p4, .inl (cZ, 24, .inl op2)), (p5, .inl (cI, 1536, .inl wd2))] := hD
    refine lv_iload_n hx hb zd_C_copyFrom_2 rfl (lv_at hl 0 rfl) ?_
    refine lv_bipush (v := 24) hx hb zd_C_copyFrom_3 (by decide) ?_
    refine zj_out (tgt := 62) (n := 24) (i := 24) hx hb zd_C_copyFrom_5 rfl (by decide) (Nat.le_refl _) (by decide) ?_
    refine lv_aload_n hx hb zd_C_copyFrom_62 rfl (lv_at hl 2 rfl) ?_
    refine va_get (D := (dC, dI)) (ci := 1) (v := .ref p5) (C := "ZoneShelf$Contents") (T := zs_T_C) (N := 5) hx hb hz zs_in_C hown hk.1 hP 6 rfl rfl 4 (by decide) (hz _ zq_44) (fun _ h9 => h9) rfl zd_C_copyFrom_63 ?_
    refine lv_iconst (v := 0) hx hb zd_C_copyFrom_66 (by decide) ?_
    refine lv_aload_n hx hb zd_C_copyFrom_67 rfl (lv_at hl 1 rfl) ?_
    refine va_get (D := (dC, dI)) (ci := 1) (v := .ref q5) (C := "ZoneShelf$Contents") (T := zs_T_C) (N := 5) hx hb hz zs_in_C hown hk.1 hP 0 rfl rfl 4 (by decide) (hz _ zq_44) (fun _ h9 => h9) rfl zd_C_copyFrom_68 ?_
    refine lv_iconst (v := 0) hx hb zd_C_copyFrom_71 (by decide) ?_
    refine lv_aload_n hx hb zd_C_copyFrom_72 rfl (lv_at hl 1 rfl) ?_
    refine va_get (D := (dC, dI)) (ci := 1) (v := .ref q5) (C := "ZoneShelf$Contents") (T := zs_T_C) (N := 5) hx hb hz zs_in_C hown hk.1 hP 0 rfl rfl 4 (by decide) (hz _ zq_44) (fun _ h9 => h9) rfl zd_C_copyFrom_73 ?_
    refine va_alen hx hb hk.1 hP 5 0 rfl rfl (v := nI 1536) rfl zd_C_copyFrom_76 ?_
    refine va_copyi (sp := 0) (dp := 0) (n := nI 1536) hx hb (hml.trans hl.1.symm) hown (hz _ zq_122) (hz _ zq_124) (hz _ zq_123) (hz _ zq_23) hk.1 hP hD hS 11 5 0 0 rfl rfl rfl rfl rfl (by decide) (by decide) (by decide) (by decide) (by decide) (fun _ _ => rfl) (Nat.le_of_ble_eq_true rfl) (Nat.le_of_ble_eq_true rfl) zd_C_copyFrom_77 (fun H locs hP hD hS => ?_)
    have hP : va_P (dC, dI) zs_cl [(q0, .inr (1, [.ref q1, .ref q2, .ref q3, .ref q4, .ref q5])), (q1, .inl (cI, 24, .inl (zs_cp nm2 nm 24))), (q2, .inl (cI, 24, .inl (zs_cp hi2 hi 24))), (q3, .inl (cI, 24, .inl (zs_cp ln2 ln 24))), (q4, .inl (cZ, 24, .inl (zs_cz op2 op 24))), (q5, .inl (cI, 1536, .inl (va_cpy wd2 wd 0 0 1536))), (p0, .inr (1, [.ref p1, .ref p2, .ref p3, .ref p4, .ref p5])), (p1, .inl (cI, 24, .inl nm2)), (p2, .inl (cI, 24, .inl hi2)), (p3, .inl (cI, 24, .inl ln2)), (p4, .inl (cZ, 24, .inl op2)), (p5, .inl (cI, 1536, .inl wd2))] H := hP
    have hD : va_D A [(q0, .inr (1, [.ref q1, .ref q2, .ref q3, .ref q4, .ref q5])), (q1, .inl (cI, 24, .inl (zs_cp nm2 nm 24))), (q2, .inl (cI, 24, .inl (zs_cp hi2 hi 24))), (q3, .inl (cI, 24, .inl (zs_cp ln2 ln 24))), (q4, .inl (cZ, 24, .inl (zs_cz op2 op 24))), (q5, .inl (cI, 1536, .inl (va_cpy wd2 wd 0 0 1536))), (p0, .inr (1, [.ref p1, .ref p2, .ref p3, .ref p4, .ref p5])), (p1, .inl (cI, 24, .inl nm2)), (p2, .inl (cI, 24, .inl hi2)), (p3, .inl (cI, 24, .inl ln2)), (p4, .inl (cZ, 24, .inl op2)), (p5, .inl (cI, 1536, .inl wd2))] := hD
    exact zw_vret (zs_copy (nm2, hi2, ln2, op2, wd2) (nm, hi, ln, op, wd)) hx hb hr hlocks zd_C_copyFrom_80 rfl hP hD hS
