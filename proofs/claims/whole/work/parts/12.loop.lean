theorem zs_lcmp {L i : Nat} (hL : L ≤ 2048) (hi : i ≤ 4096) : nI L - 4 < nI i ↔ L < i + 4 := by
  rw [Int32.lt_iff_toInt_lt, show (4 : Int32) = nI 4 from rfl, pk_sub_toInt (by omega) (by omega), nI_toInt (by omega)]
  omega
set_option maxHeartbeats 4000000 in
set_option maxRecDepth 100000 in
theorem zl_loop {p : Program} {e : Env} {s : State} {m : MethodId} {below : List Frame} {meth : Method} {c : Code} (l : Launch) {b L : Nat} {xs : Nat → Int32} {dC : Nat → ClassId} {dI : Nat → Nat → Nat} {cI cZ : ClassId} {a d : Nat → Nat} (hx : p.tables.exec = Jvm.exec) (hb : c.code = code) (hr : meth.sig.returnType = ret) (hlocks : meth.locks = false) (hml : c.maxLocals = 4) (hown : s.vm.findClass "ZoneShelfLaw" = some m.cls) (hz : ∀ w ∈ zs_w, w.before #[Value.ref b] s = true) (hk : zs_k dC dI cI cZ s) (hX : va_X b L xs s s.heap) (hbl : b < s.heap.size) (hL : L ≤ 2048) : ∀ (k i : Nat) (u v : zs_X) (H : Heap) (locs : List Loc) (ls : Array Slot), L < i + 4 * k + 4 → i ≤ 4096 → lv_has ls 4 [(3, .int (nI i)), (0, .ref b), (1, .ref (a 0)), (2, .ref (d 0))] → va_P (dC, dI) zs_cl (zs_wX cI cZ a u ++ zs_wM cI cZ d v) H → va_D (fun q => s.heap.size ≤ q) (zs_wX cI cZ a u ++ zs_wM cI cZ d v) → va_S (fun q => s.heap.size ≤ q) s.heap H locs → zp_R u v → W p l e room_1 s m #[Value.ref b] below meth c H locs 24 6552 (lw_Z below #[Value.ref b] s) (F0 m 18 ls []) := by
  intro k
  induction k with
  | zero =>
    intro i u v H locs ls hk0 hi hl hP hD hS hR
    refine lv_iload_n hx hb zd_L_law_18 rfl (lv_at hl 0 rfl) ?_
    refine lv_aload_n hx hb zd_L_law_19 rfl (lv_at hl 1 rfl) ?_
    refine va_slen hx hb hX hbl (Nat.not_le_of_lt hbl) hS zd_L_law_20 ?_
    refine zi_top (y := nI L) rfl ?_
    refine lv_iconst (v := 4) hx hb zd_L_law_21 (by decide) ?_
    refine lv_isub hx hb zd_L_law_22 ?_
    refine lv_icmp_gt (tgt := 556) hx hb zd_L_law_23 rfl (fun h1 => ?_) (fun h1 => ?_)
    · refine lv_iconst (v := 1) hx hb zd_L_law_556 (by decide) ?_
      refine va_forget (fun q hq => hS.2.2 q hq) ?_
      refine W.widen (k := 24) (n := 6552) (Nat.le_of_ble_eq_true rfl) (Nat.le_of_ble_eq_true rfl) ?_
      exact lw_ret hx hb hr hlocks zd_L_law_557
    · exact absurd ((zs_lcmp hL hi).mpr (by omega)) h1
  | succ k ih =>
    intro i u v H locs ls hk0 hi hl hP hD hS hR
    refine lv_iload_n hx hb zd_L_law_18 rfl (lv_at hl 0 rfl) ?_
    refine lv_aload_n hx hb zd_L_law_19 rfl (lv_at hl 1 rfl) ?_
    refine va_slen hx hb hX hbl (Nat.not_le_of_lt hbl) hS zd_L_law_20 ?_
    refine zi_top (y := nI L) rfl ?_
    refine lv_iconst (v := 4) hx hb zd_L_law_21 (by decide) ?_
    refine lv_isub hx hb zd_L_law_22 ?_
    refine lv_icmp_gt (tgt := 556) hx hb zd_L_law_23 rfl (fun h1 => ?_) (fun h1 => ?_)
    · refine lv_iconst (v := 1) hx hb zd_L_law_556 (by decide) ?_
      refine va_forget (fun q hq => hS.2.2 q hq) ?_
      refine W.widen (k := 24) (n := 6552) (Nat.le_of_ble_eq_true rfl) (Nat.le_of_ble_eq_true rfl) ?_
      exact lw_ret hx hb hr hlocks zd_L_law_557
    · have hi4 : i + 4 ≤ L := by
        have q : ¬ L < i + 4 := fun z => h1 ((zs_lcmp hL hi).mpr z)
        omega
      have kk : ∀ (u v : zs_X) (H : Heap) (locs : List Loc), zp_R u v → va_P (dC, dI) zs_cl (zs_wX cI cZ a u ++ zs_wM cI cZ d v) H → va_D (fun q => s.heap.size ≤ q) (zs_wX cI cZ a u ++ zs_wM cI cZ d v) → va_S (fun q => s.heap.size ≤ q) s.heap H locs → W p l e room_1 s m #[Value.ref b] below meth c H locs 24 6552 (lw_Z below #[Value.ref b] s) (F0 m 550 ls []) := by
        intro u v H locs hR hP hD hS
        refine lv_iinc (k := 0) (v := nI (i + 4)) (lv' := [(3, .int (nI (i + 4))), (0, .ref b), (1, .ref (a 0)), (2, .ref (d 0))]) hx hb zd_L_law_550 hl rfl (zs_inc4 _) (by decide) rfl (fun ls hl => ?_)
        refine lv_goto (tgt := 18) hx hb zd_L_law_553 rfl ?_
        exact ih (i + 4) u v H locs ls (by omega) (by omega) hl hP hD hS hR
      refine lv_aload_n hx hb zd_L_law_26 rfl (lv_at hl 1 rfl) ?_
      refine lv_iload_n hx hb zd_L_law_27 rfl (lv_at hl 0 rfl) ?_
      refine zi_sld (i := i) hx hb hX hbl (Nat.not_le_of_lt hbl) hS (by omega) hL zd_L_law_28 ?_
      refine lv_bipush (v := 31) hx hb zd_L_law_29 (by decide) ?_
      refine lv_iand hx hb zd_L_law_31 ?_
      obtain ⟨t, ht, et⟩ := pk_andE (xs i) (m := 31) 5 (by decide)
      refine zi_top (y := nI t) et ?_
      by_cases c0 : t = 0
      · subst c0
        refine lv_tableIn (off := 88) (tgt := 120) hx hb zd_L_law_32 (by decide) (by decide) (by decide) rfl ?_
        exact zl_0 l hx hb hml hown hz hk hX hbl hl hi4 hL hP hD hS hR ⟨Nat.le_of_ble_eq_true rfl, Nat.le_of_ble_eq_true rfl⟩ kk
      by_cases c1 : t = 1
      · subst c1
        refine lv_tableIn (off := 121) (tgt := 153) hx hb zd_L_law_32 (by decide) (by decide) (by decide) rfl ?_
        exact zl_1 l hx hb hml hown hz hk hX hbl hl hi4 hL hP hD hS hR ⟨Nat.le_of_ble_eq_true rfl, Nat.le_of_ble_eq_true rfl⟩ kk
      by_cases c2 : t = 2
      · subst c2
        refine lv_tableIn (off := 154) (tgt := 186) hx hb zd_L_law_32 (by decide) (by decide) (by decide) rfl ?_
        exact zl_2 l hx hb hml hown hz hk hX hbl hl hi4 hL hP hD hS hR ⟨Nat.le_of_ble_eq_true rfl, Nat.le_of_ble_eq_true rfl⟩ kk
      by_cases c3 : t = 3
      · subst c3
        refine lv_tableIn (off := 197) (tgt := 229) hx hb zd_L_law_32 (by decide) (by decide) (by decide) rfl ?_
        exact zl_3 l hx hb hml hown hz hk hX hbl hl hi4 hL hP hD hS hR ⟨Nat.le_of_ble_eq_true rfl, Nat.le_of_ble_eq_true rfl⟩ kk
      by_cases c4 : t = 4
      · subst c4
        refine lv_tableIn (off := 246) (tgt := 278) hx hb zd_L_law_32 (by decide) (by decide) (by decide) rfl ?_
        exact zl_4 l hx hb hml hown hz hk hX hbl hl hi4 hL hP hD hS hR ⟨Nat.le_of_ble_eq_true rfl, Nat.le_of_ble_eq_true rfl⟩ kk
      by_cases c5 : t = 5
      · subst c5
        refine lv_tableIn (off := 269) (tgt := 301) hx hb zd_L_law_32 (by decide) (by decide) (by decide) rfl ?_
        exact zl_5 l hx hb hml hown hz hk hX hbl hl hi4 hL hP hD hS hR ⟨Nat.le_of_ble_eq_true rfl, Nat.le_of_ble_eq_true rfl⟩ kk
      by_cases c6 : t = 6
      · subst c6
        refine lv_tableIn (off := 302) (tgt := 334) hx hb zd_L_law_32 (by decide) (by decide) (by decide) rfl ?_
        exact zl_6 l hx hb hml hown hz hk hX hbl hl hi4 hL hP hD hS hR ⟨Nat.le_of_ble_eq_true rfl, Nat.le_of_ble_eq_true rfl⟩ kk
      by_cases c7 : t = 7
      · subst c7
        refine lv_tableIn (off := 315) (tgt := 347) hx hb zd_L_law_32 (by decide) (by decide) (by decide) rfl ?_
        exact zl_7 l hx hb hml hown hz hk hX hbl hl hi4 hL hP hD hS hR ⟨Nat.le_of_ble_eq_true rfl, Nat.le_of_ble_eq_true rfl⟩ kk
      by_cases c8 : t = 8
      · subst c8
        refine lv_tableIn (off := 328) (tgt := 360) hx hb zd_L_law_32 (by decide) (by decide) (by decide) rfl ?_
        exact zl_8 l hx hb hml hown hz hk hX hbl hl hi4 hL hP hD hS hR ⟨Nat.le_of_ble_eq_true rfl, Nat.le_of_ble_eq_true rfl⟩ kk
      by_cases c9 : t = 9
      · subst c9
        refine lv_tableIn (off := 341) (tgt := 373) hx hb zd_L_law_32 (by decide) (by decide) (by decide) rfl ?_
        exact zl_9 l hx hb hml hown hz hk hX hbl hl hi4 hL hP hD hS hR ⟨Nat.le_of_ble_eq_true rfl, Nat.le_of_ble_eq_true rfl⟩ kk
      by_cases c10 : t = 10
      · subst c10
        refine lv_tableIn (off := 354) (tgt := 386) hx hb zd_L_law_32 (by decide) (by decide) (by decide) rfl ?_
        exact zl_10 l hx hb hml hown hz hk hX hbl hl hi4 hL hP hD hS hR ⟨Nat.le_of_ble_eq_true rfl, Nat.le_of_ble_eq_true rfl⟩ kk
      by_cases c11 : t = 11
      · subst c11
        refine lv_tableIn (off := 367) (tgt := 399) hx hb zd_L_law_32 (by decide) (by decide) (by decide) rfl ?_
        exact zl_11 l hx hb hml hown hz hk hX hbl hl hi4 hL hP hD hS hR ⟨Nat.le_of_ble_eq_true rfl, Nat.le_of_ble_eq_true rfl⟩ kk
      by_cases c12 : t = 12
      · subst c12
        refine lv_tableIn (off := 380) (tgt := 412) hx hb zd_L_law_32 (by decide) (by decide) (by decide) rfl ?_
        exact zl_12 l hx hb hml hown hz hk hX hbl hl hi4 hL hP hD hS hR ⟨Nat.le_of_ble_eq_true rfl, Nat.le_of_ble_eq_true rfl⟩ kk
      by_cases c13 : t = 13
      · subst c13
        refine lv_tableIn (off := 393) (tgt := 425) hx hb zd_L_law_32 (by decide) (by decide) (by decide) rfl ?_
        exact zl_13 l hx hb hml hown hz hk hX hbl hl hi4 hL hP hD hS hR ⟨Nat.le_of_ble_eq_true rfl, Nat.le_of_ble_eq_true rfl⟩ kk
      by_cases c14 : t = 14
      · subst c14
        refine lv_tableIn (off := 406) (tgt := 438) hx hb zd_L_law_32 (by decide) (by decide) (by decide) rfl ?_
        exact zl_14 l hx hb hml hown hz hk hX hbl hl hi4 hL hP hD hS hR ⟨Nat.le_of_ble_eq_true rfl, Nat.le_of_ble_eq_true rfl⟩ kk
      by_cases c15 : t = 15
      · subst c15
        refine lv_tableIn (off := 439) (tgt := 471) hx hb zd_L_law_32 (by decide) (by decide) (by decide) rfl ?_
        exact zl_15 l hx hb hml hown hz hk hX hbl hl hi4 hL hP hD hS hR ⟨Nat.le_of_ble_eq_true rfl, Nat.le_of_ble_eq_true rfl⟩ kk
      by_cases c16 : t = 16
      · subst c16
        refine lv_tableIn (off := 472) (tgt := 504) hx hb zd_L_law_32 (by decide) (by decide) (by decide) rfl ?_
        exact zl_16 l hx hb hml hown hz hk hX hbl hl hi4 hL hP hD hS hR ⟨Nat.le_of_ble_eq_true rfl, Nat.le_of_ble_eq_true rfl⟩ kk
      by_cases c17 : t = 17
      · subst c17
        refine lv_tableIn (off := 495) (tgt := 527) hx hb zd_L_law_32 (by decide) (by decide) (by decide) rfl ?_
        exact zl_17 l hx hb hml hown hz hk hX hbl hl hi4 hL hP hD hS hR ⟨Nat.le_of_ble_eq_true rfl, Nat.le_of_ble_eq_true rfl⟩ kk
      refine lv_tableOut (tgt := 550) hx hb zd_L_law_32 (Or.inr (by rw [nI_toInt (by omega)]; omega)) rfl ?_
      exact kk u v H locs hR hP hD hS
theorem zs_arr {args : Array Value} {s : State} {ty : FieldType} (h : (Cond.arrayClass ty).before args s = true) : ∃ cA : ClassId, ArrOfT s cA ty ∧ s.vm.findClass ("[" ++ ty.toString) = some cA := by
  obtain ⟨cA, kA, comp, h1, h2, h3⟩ := Cond.arrayClass_spec h
  exact ⟨cA, fun n z => ⟨fun k h => (by cases h), kA, h2, comp, h3⟩, h1⟩
/-- what the tables say at the start -/
theorem zs_k_of {args : Array Value} {s : State} (hz : ∀ w ∈ zs_w, w.before args s = true) (hn : ∀ w ∈ zs_n, w.before args s = true) : ∃ (dC : Nat → ClassId) (dI : Nat → Nat → Nat) (cI cZ : ClassId), zs_k dC dI cI cZ s := by
  obtain ⟨c0, i0, h0⟩ := u_known hz zs_in_X (hz _ zq_25)
  obtain ⟨c1, i1, h1⟩ := u_known hz zs_in_C (hz _ zq_33)
  obtain ⟨c2, i2, h2⟩ := u_known hz zs_in_M (hz _ zq_178)
  obtain ⟨cI, e1, e2⟩ := zs_arr (hz _ zq_50)
  obtain ⟨cZ, e3, e4⟩ := zs_arr (hz _ zq_51)
  refine ⟨fun k => [c0, c1, c2].getD k 0, fun k => [i0, i1, i2].getD k (fun _ => 0), cI, cZ, ⟨fun k q hq => ?_, fun k q hq => ?_⟩, fun w hw => va_Nw.of (zs_isn_on (List.all_eq_true.mp zs_n_isn w hw)) (hn w hw)⟩
  · match k, hq with
    | 0, hq => cases hq; exact h0
    | 1, hq => cases hq; exact h1
    | 2, hq => cases hq; exact h2
  · match k, hq with
    | 0, hq => cases hq; exact ⟨e1, e2⟩
    | 1, hq => cases hq; exact ⟨e3, e4⟩
