/-! Rows of this claim: the words that every method has (zs_w), the links between nest mates (zs_n), the worlds, the calls. -/
theorem zs_good : ∀ w ∈ zs_w, (w.onTables && w.keeps) = true ∨ ∃ ty, w = .arrayClass ty := fun w h => good_of_word (List.all_eq_true.mp zs_w_all w h)
theorem zs_gi {b : Cond} (hb : b ∈ zs_w) : GoodIn zs_w (b :: zs_w) := by
  intro w hw
  rcases List.mem_cons.mp hw with rfl | h
  · exact ⟨hb, zs_good _ hb⟩
  · exact ⟨h, zs_good _ h⟩
def zs_isn : Cond → Bool
  | .fieldLinkNest .. => true
  | .methodLinkNest .. => true
  | _ => false
theorem zs_isn_on {w : Cond} (h : zs_isn w = true) : w.onTables = true := by
  cases w <;> first | rfl | (simp [zs_isn] at h)
theorem zs_isn_warm {w : Cond} (h : zs_isn w = true) {s U : State} (hW : s.WarmedH U.vm) (hZ : va_Nw w s) : va_Nw w U := by
  cases w <;> first | exact va_Nw.warmF hW hZ | exact va_Nw.warmM hW hZ | (simp [zs_isn] at h)
theorem zs_n_isn : zs_n.all zs_isn = true := by decide +kernel
def zs_N (U : State) : Prop := ∀ w ∈ zs_n, va_Nw w U
theorem zs_N.warm {s U : State} (hW : s.WarmedH U.vm) (h : zs_N s) : zs_N U := fun w hw => zs_isn_warm (List.all_eq_true.mp zs_n_isn w hw) hW (h w hw)
theorem zs_N.calls {U : State} {g : JFrame} {mk : MethodId} {a : Array Value} (h : zs_N U) : zs_N (U.calling g mk a) := fun w hw => va_Nw.same (zs_isn_on (List.all_eq_true.mp zs_n_isn w hw)) (u := U) (U := U.calling g mk a) rfl (h w hw)
/-- what is known of the tables: where the objects' fields lie, what an int array and a boolean array are, the links -/
def zs_k (dC : Nat → ClassId) (dI : Nat → Nat → Nat) (cI cZ : ClassId) (U : State) : Prop := va_K (dC, dI) zs_cl [(cI, .int), (cZ, .boolean)] U ∧ zs_N U
theorem zs_k.warm {dC : Nat → ClassId} {dI : Nat → Nat → Nat} {cI cZ : ClassId} {s U : State} (hW : s.WarmedH U.vm) (h : zs_k dC dI cI cZ s) : zs_k dC dI cI cZ U := ⟨va_K.moved hW.alike h.1, h.2.warm hW⟩
theorem zs_k.calls {dC : Nat → ClassId} {dI : Nat → Nat → Nat} {cI cZ : ClassId} {U : State} {g : JFrame} {mk : MethodId} {a : Array Value} (h : zs_k dC dI cI cZ U) : zs_k dC dI cI cZ (U.calling g mk a) := ⟨va_K.moved (u := U) (U := U.calling g mk a) (Vm.Alike.refl U.vm) h.1, h.2.calls⟩
/-- a start that only reads, and a start that may write -/
def zs_r (dC : Nat → ClassId) (dI : Nat → Nat → Nat) (cI cZ : ClassId) (ws : va_W) (U : State) : Prop := va_P (dC, dI) zs_cl ws U.heap ∧ zs_k dC dI cI cZ U
def zs_s (dC : Nat → ClassId) (dI : Nat → Nat → Nat) (cI cZ : ClassId) (sz : Nat) (ws : va_W) (U : State) : Prop := U.heap.size = sz ∧ va_P (dC, dI) zs_cl ws U.heap ∧ zs_k dC dI cI cZ U ∧ va_D (fun _ => True) ws
/-- the world behind a method -/
def zs_e {S : Type} (dC : Nat → ClassId) (dI : Nat → Nat → Nat) (wf : S → va_W) (A : Nat → Prop) (u : S) (t : State) : Prop := va_P (dC, dI) zs_cl (wf u) t.heap ∧ va_D A (wf u)
theorem zs_r.blind {dC : Nat → ClassId} {dI : Nat → Nat → Nat} {cI cZ : ClassId} {ws : va_W} {As : List Value} : FrameBlind (va_Pc As (zs_r dC dI cI cZ ws)) := fun _ _ _ _ q => ⟨q.1, q.2.1, q.2.2.calls⟩
theorem zs_s.blind {dC : Nat → ClassId} {dI : Nat → Nat → Nat} {cI cZ : ClassId} {sz : Nat} {ws : va_W} {As : List Value} : FrameBlind (va_Pc As (zs_s dC dI cI cZ sz ws)) := fun _ _ _ _ q => ⟨q.1, q.2.1, q.2.2.1, q.2.2.2.1.calls, q.2.2.2.2⟩
theorem zs_fm {ws wc : va_W} {is : List Nat} (h : is.map (fun i => ws[i]?) = wc.map some) : is.filterMap (fun i => ws[i]?) = wc := by
  have h2 := congrArg (List.filterMap id) h
  simpa [List.filterMap_map, Function.comp_def] using h2
section ZR
variable {p : Program} {l : Launch} {e : Env} {R : Room} {s : State} {m : MethodId} {args : Array Value} {below : List Frame} {meth : Method} {c : Code} {H : Heap} {locs : List Loc} {cells slots : Nat} {Q : State → Prop}
variable {cc : ByteArray} {pc : Nat} {ls : Array Slot} {rest : List Value} {dC : Nat → ClassId} {dI : Nat → Nat → Nat} {cI cZ : ClassId} {A : Nat → Prop} {a : Nat} {ws : va_W} {H0 : Heap}
theorem zi_top {x y : Int32} (h : x = y) (k : W p l e R s m args below meth c H locs cells slots Q (F0 m pc ls (.int y :: rest))) : W p l e R s m args below meth c H locs cells slots Q (F0 m pc ls (.int x :: rest)) := by
  rw [h]
  exact k
theorem zi_ald (hexec : p.tables.exec = Jvm.exec) (hb : c.code = cc) (hk : zs_k dC dI cI cZ s) (hP : va_P (dC, dI) zs_cl ws H) (q0 : Nat) {n j : Nat} {f : zs_F} (ha : ws[q0]? = some (a, .inl (cI, n, .inl f))) (hj : j < n) (hn : n < 2 ^ 31) (hdg : decode cc pc = .ok (.iaload, 1))
    (kk : W p l e R s m args below meth c H locs cells slots Q (F0 m (pc + 1) ls (.int (f j) :: rest))) : W p l e R s m args below meth c H locs cells slots Q (F0 m pc ls (.int (nI j) :: .ref a :: rest)) := by
  refine va_iald hexec hb hk.1 hP q0 0 ha rfl (vp_in_nI hj hn) hdg ?_
  rw [nI_clamp (Nat.lt_trans hj hn)]
  exact kk
theorem zi_zld (hexec : p.tables.exec = Jvm.exec) (hb : c.code = cc) (hk : zs_k dC dI cI cZ s) (hP : va_P (dC, dI) zs_cl ws H) (q0 : Nat) {n j : Nat} {f : zs_F} (ha : ws[q0]? = some (a, .inl (cZ, n, .inl f))) (hj : j < n) (hn : n < 2 ^ 31) (hdg : decode cc pc = .ok (.baload, 1))
    (kk : W p l e R s m args below meth c H locs cells slots Q (F0 m (pc + 1) ls (.int (f j) :: rest))) : W p l e R s m args below meth c H locs cells slots Q (F0 m pc ls (.int (nI j) :: .ref a :: rest)) := by
  refine va_zald hexec hb hk.1 hP q0 1 ha rfl (vp_in_nI hj hn) hdg ?_
  rw [nI_clamp (Nat.lt_trans hj hn)]
  exact kk
theorem zi_ast (hexec : p.tables.exec = Jvm.exec) (hb : c.code = cc) (hk : zs_k dC dI cI cZ s) (hP : va_P (dC, dI) zs_cl ws H) (hD : va_D A ws) (hS : va_S A H0 H locs) (q0 : Nat) {n j : Nat} {f : zs_F} (ha : ws[q0]? = some (a, .inl (cI, n, .inl f))) (hj : j < n) (hn : n < 2 ^ 31) {x : Int32} (hdg : decode cc pc = .ok (.iastore, 1))
    (kk : ∀ (H1 : Heap) (locs1 : List Loc), va_P (dC, dI) zs_cl (ws.set q0 (a, .inl (cI, n, .inl (upd f j x)))) H1 → va_D A (ws.set q0 (a, .inl (cI, n, .inl (upd f j x)))) → va_S A H0 H1 locs1 → W p l e R s m args below meth c H1 locs1 cells slots Q (F0 m (pc + 1) ls rest)) : W p l e R s m args below meth c H locs cells slots Q (F0 m pc ls (.int x :: .int (nI j) :: .ref a :: rest)) := by
  refine va_iast hexec hb hk.1 hP hD hS q0 0 ha rfl (vp_in_nI hj hn) hdg ?_
  rw [nI_clamp (Nat.lt_trans hj hn)]
  exact kk
theorem zi_zst (hexec : p.tables.exec = Jvm.exec) (hb : c.code = cc) (hk : zs_k dC dI cI cZ s) (hP : va_P (dC, dI) zs_cl ws H) (hD : va_D A ws) (hS : va_S A H0 H locs) (q0 : Nat) {n j : Nat} {f : zs_F} (ha : ws[q0]? = some (a, .inl (cZ, n, .inl f))) (hj : j < n) (hn : n < 2 ^ 31) {x : Int32} (hdg : decode cc pc = .ok (.bastore, 1))
    (kk : ∀ (H1 : Heap) (locs1 : List Loc), va_P (dC, dI) zs_cl (ws.set q0 (a, .inl (cZ, n, .inl (upd f j (vp_nar .boolean x))))) H1 → va_D A (ws.set q0 (a, .inl (cZ, n, .inl (upd f j (vp_nar .boolean x))))) → va_S A H0 H1 locs1 → W p l e R s m args below meth c H1 locs1 cells slots Q (F0 m (pc + 1) ls rest)) : W p l e R s m args below meth c H locs cells slots Q (F0 m pc ls (.int x :: .int (nI j) :: .ref a :: rest)) := by
  refine va_zast hexec hb hk.1 hP hD hS q0 1 ha rfl (vp_in_nI hj hn) hdg ?_
  rw [nI_clamp (Nat.lt_trans hj hn)]
  exact kk
theorem zi_eq (hexec : p.tables.exec = Jvm.exec) (hb : c.code = cc) {b : Bool} {off : Int} {tgt : Nat} (hdg : decode cc pc = .ok (.ifCond .eq off, 3)) (ht : (pc : Int) + off = (tgt : Int))
    (kt : b = false → W p l e R s m args below meth c H locs cells slots Q (F0 m tgt ls rest)) (kf : b = true → W p l e R s m args below meth c H locs cells slots Q (F0 m (pc + 3) ls rest)) : W p l e R s m args below meth c H locs cells slots Q (F0 m pc ls (.int (zs_b b) :: rest)) :=
  lv_if_eq hexec hb hdg ht (fun h => kt (zs_b_0 h)) (fun h => kf (zs_b_1 h))
theorem zi_ne (hexec : p.tables.exec = Jvm.exec) (hb : c.code = cc) {b : Bool} {off : Int} {tgt : Nat} (hdg : decode cc pc = .ok (.ifCond .ne off, 3)) (ht : (pc : Int) + off = (tgt : Int))
    (kt : b = true → W p l e R s m args below meth c H locs cells slots Q (F0 m tgt ls rest)) (kf : b = false → W p l e R s m args below meth c H locs cells slots Q (F0 m (pc + 3) ls rest)) : W p l e R s m args below meth c H locs cells slots Q (F0 m pc ls (.int (zs_b b) :: rest)) :=
  lv_if_ne hexec hb hdg ht (fun h => kt (zs_b_1 h)) (fun h => kf (zs_b_0 h))
/-- a loop's test, i against its bound: it goes on, it ends -/
theorem zj_in (hexec : p.tables.exec = Jvm.exec) (hb : c.code = cc) {y : Int32} {off : Int} {tgt i n : Nat} (hdg : decode cc pc = .ok (.if_icmp .ge off, 3)) (ht : (pc : Int) + off = (tgt : Int)) (hy : y = nI n) (hi : i < n) (hn : n < 2 ^ 31)
    (kf : W p l e R s m args below meth c H locs cells slots Q (F0 m (pc + 3) ls rest)) : W p l e R s m args below meth c H locs cells slots Q (F0 m pc ls (.int y :: .int (nI i) :: rest)) :=
  lv_icmp_ge hexec hb hdg ht (fun h => absurd (hy ▸ h) (nI_ge hi hn)) (fun _ => kf)
theorem zj_out (hexec : p.tables.exec = Jvm.exec) (hb : c.code = cc) {y : Int32} {off : Int} {tgt i n : Nat} (hdg : decode cc pc = .ok (.if_icmp .ge off, 3)) (ht : (pc : Int) + off = (tgt : Int)) (hy : y = nI n) (hi : n ≤ i) (hn : i < 2 ^ 31)
    (kt : W p l e R s m args below meth c H locs cells slots Q (F0 m tgt ls rest)) : W p l e R s m args below meth c H locs cells slots Q (F0 m pc ls (.int y :: .int (nI i) :: rest)) :=
  lv_icmp_ge hexec hb hdg ht (fun _ => kt) (fun h => absurd (hy ▸ nI_le hi hn) h)
theorem zr_iret {post : Int32 → Prop} {v : Int32} (hexec : p.tables.exec = Jvm.exec) (hb : c.code = cc) (hr : meth.sig.returnType = some .int) (hlocks : meth.locks = false) (hdg : decode cc pc = .ok (.ireturn, 1)) (hp : post v) :
    W p l e R s m args below meth c s.heap [] 0 0 (MQ below (vp_Si post) args s 0 0 (fun _ => False)) (F0 m pc ls [.int v]) :=
  W.iret (v := v) hexec hb hr (fun t ht _ => ⟨v, rfl, hp, ht⟩) (fun _ h => nomatch h) hdg hlocks
theorem zr_zret {post : Int32 → Prop} {v : Int32} (hexec : p.tables.exec = Jvm.exec) (hb : c.code = cc) (hr : meth.sig.returnType = some .boolean) (hlocks : meth.locks = false) (hdg : decode cc pc = .ok (.ireturn, 1)) (hv : narrow .boolean (.int v) = .int v) (hp : post v) :
    W p l e R s m args below meth c s.heap [] 0 0 (MQ below (vp_Si post) args s 0 0 (fun _ => False)) (F0 m pc ls [.int v]) :=
  W.zret (v := v) hexec hb hr hv (fun t ht _ => ⟨v, rfl, hp, ht⟩) (fun _ h => nomatch h) hdg hlocks
theorem zw_iret {S : Type} {post : Int32 → S → Prop} {wf : S → va_W} {v : Int32} (u : S) (hexec : p.tables.exec = Jvm.exec) (hb : c.code = cc) (hr : meth.sig.returnType = some .int) (hlocks : meth.locks = false) (hdg : decode cc pc = .ok (.ireturn, 1)) (hp : post v u) (hP : va_P (dC, dI) zs_cl (wf u) H) (hD : va_D A (wf u)) (hS : va_S A s.heap H locs) :
    W p l e R s m args below meth c H locs cells slots (MQ below (va_Qi post (zs_e dC dI wf A) A) args s cells slots A) (F0 m pc ls [.int v]) :=
  W.iret (v := v) hexec hb hr (fun t ht _ => ⟨⟨v, u, rfl, hp, by rw [ht]; exact hP, hD⟩, hS.F ht⟩) hS.2.2 hdg hlocks
theorem zw_zret {S : Type} {post : Int32 → S → Prop} {wf : S → va_W} {v : Int32} (u : S) (hexec : p.tables.exec = Jvm.exec) (hb : c.code = cc) (hr : meth.sig.returnType = some .boolean) (hlocks : meth.locks = false) (hdg : decode cc pc = .ok (.ireturn, 1)) (hv : narrow .boolean (.int v) = .int v) (hp : post v u) (hP : va_P (dC, dI) zs_cl (wf u) H) (hD : va_D A (wf u)) (hS : va_S A s.heap H locs) :
    W p l e R s m args below meth c H locs cells slots (MQ below (va_Qi post (zs_e dC dI wf A) A) args s cells slots A) (F0 m pc ls [.int v]) :=
  W.zret (v := v) hexec hb hr hv (fun t ht _ => ⟨⟨v, u, rfl, hp, by rw [ht]; exact hP, hD⟩, hS.F ht⟩) hS.2.2 hdg hlocks
/-- a loop that counts up to N and writes nothing; one that writes -/
theorem zl_r {N : Nat} {α : Type} (Inv : Nat → Nat → α → Array Slot → Prop) (step : ∀ k i x ls, i + (k + 1) = N → Inv (k + 1) i x ls → (∀ x' ls', Inv k (i + 1) x' ls' → W p l e R s m args below meth c H locs cells slots Q (F0 m pc ls' rest)) → W p l e R s m args below meth c H locs cells slots Q (F0 m pc ls rest))
    (stop : ∀ x ls, Inv 0 N x ls → W p l e R s m args below meth c H locs cells slots Q (F0 m pc ls rest)) : ∀ k i x ls, i + k = N → Inv k i x ls → W p l e R s m args below meth c H locs cells slots Q (F0 m pc ls rest) := by
  intro k
  induction k with
  | zero =>
    intro i x ls h hv
    have h2 : i = N := by omega
    subst h2
    exact stop x ls hv
  | succ k ih =>
    intro i x ls h hv
    exact step k i x ls h hv (fun x' ls' hv' => ih (i + 1) x' ls' (by omega) hv')
theorem zl_w {N : Nat} {α : Type} (Inv : Nat → Nat → α → Array Slot → Heap → List Loc → Prop) (step : ∀ k i x ls H locs, i + (k + 1) = N → Inv (k + 1) i x ls H locs → (∀ x' ls' H' locs', Inv k (i + 1) x' ls' H' locs' → W p l e R s m args below meth c H' locs' cells slots Q (F0 m pc ls' rest)) → W p l e R s m args below meth c H locs cells slots Q (F0 m pc ls rest))
    (stop : ∀ x ls H locs, Inv 0 N x ls H locs → W p l e R s m args below meth c H locs cells slots Q (F0 m pc ls rest)) : ∀ k i x ls H locs, i + k = N → Inv k i x ls H locs → W p l e R s m args below meth c H locs cells slots Q (F0 m pc ls rest) := by
  intro k
  induction k with
  | zero =>
    intro i x ls H locs h hv
    have h2 : i = N := by omega
    subst h2
    exact stop x ls H locs hv
  | succ k ih =>
    intro i x ls H locs h hv
    exact step k i x ls H locs h hv (fun x' ls' H' locs' hv' => ih (i + 1) x' ls' H' locs' (by omega) hv')
theorem zw_vret {S : Type} {post : S → Prop} {wf : S → va_W} (u : S) (hexec : p.tables.exec = Jvm.exec) (hb : c.code = cc) (hr : meth.sig.returnType = none) (hlocks : meth.locks = false) (hdg : decode cc pc = .ok (.return_, 1)) (hp : post u) (hP : va_P (dC, dI) zs_cl (wf u) H) (hD : va_D A (wf u)) (hS : va_S A s.heap H locs) :
    W p l e R s m args below meth c H locs cells slots (MQ below (va_Qv post (zs_e dC dI wf A) A) args s cells slots A) (F0 m pc ls []) :=
  W.vret hexec hb hr (fun t ht _ => ⟨⟨u, rfl, hp, by rw [ht]; exact hP, hD⟩, hS.F ht⟩) hS.2.2 hdg hlocks
theorem zc_cr {mc ms : Nat} {g : JFrame} {Qa : State → Outcome → State → Prop} {free : Addr → Prop} (hr : va_Run p l e R s m args below meth c H locs cells slots mc ms g rest Qa free) : CallRun p l e R s m args below meth c H locs cells slots mc ms g rest Qa free := by
  intro T hT X
  obtain ⟨v, st₀, t, T', L, h0, X', hL, e1, -, hq, st⟩ := hr T hT X
  exact ⟨v, st₀, t, T', L, h0, X', hL, e1, hq, st⟩
variable {y : MethodName} {bytes : ByteArray} {maxL nL n index : Nat} {ret : Option FieldType} {rm : Room} {own host C : String} {b : Nat} {wc : va_W} {st0 : List Value} {q : vw_C} {fs : List Value}
/-- a call that only reads: of a method by its own link -/
theorem zc_rV {post : Int32 → Prop} (As : List Value) (hexec : p.tables.exec = Jvm.exec) (hb : c.code = cc) (hml : c.maxLocals = nL) (hown : s.vm.findClass own = some m.cls) (hz : ∀ w ∈ zs_w, w.before args s = true)
    (hM : Met l y (Cond.code y bytes maxL ret :: zs_w) rm (va_Pc (.ref b :: As) (zs_r dC dI cI cZ wc)) (vp_Si post) 0 0 (fun _ => False)) (hF : zs_f y bytes maxL ret n) (hrc : rm.cells = 0) (hrs : rm.slots = 0)
    (hl : Cond.methodLink own index y ∈ zs_w) (hin : Cond.instanceMethod y ∈ zs_w) (hse : Cond.selects C y y ∈ zs_w) (hR : rm.frames + 1 ≤ R.frames ∧ 8 + (maxL + 11) + rm.locals ≤ R.locals)
    (hk : zs_k dC dI cI cZ s) (hP : va_P (dC, dI) zs_cl wc H) (q0 ci : Nat) (hc : zs_cl[ci]? = some q) (hC : q.1 = C) (he : wc[q0]? = some (b, .inr (ci, fs)))
    (hn : As.length = n) (hsize : ls.size = nL) (hst : st0 = As.reverse ++ .ref b :: rest) (hW : (rest.map fun v => v.category).sum ≤ 8) (hdg : decode cc pc = .ok (.invokevirtual index, 3)) (hf : cells ≤ R.cells ∧ slots ≤ R.slots)
    (kk : ∀ r : Int32, post r → W p l e R s m args below meth c H locs cells slots Q (F0 m (pc + 3) ls (.int r :: rest))) : W p l e R s m args below meth c H locs cells slots Q (F0 m pc ls st0) := by
  subst hC
  exact vp_callSi (W.runV ⟨hexec, hb, hml, hown, hz⟩ hM ⟨callB_of n hz (zs_gi hF.1) rfl hrc hrs (hz _ hF.2.1) (hz _ hl) hF.2.2 hR, hz _ hin, hz _ hse⟩ ⟨zs_r.blind, va_recv hk.1 hP hc he, fun U hU hw => ⟨rfl, by rw [hU]; exact hP, hk.warm hw⟩⟩ rfl hn hsize hst (lv_room hW) hdg hf) kk
/-- the same, of a nest mate's method -/
theorem zc_rN {post : Int32 → Prop} (As : List Value) (hexec : p.tables.exec = Jvm.exec) (hb : c.code = cc) (hml : c.maxLocals = nL) (hown : s.vm.findClass own = some m.cls) (hz : ∀ w ∈ zs_w, w.before args s = true)
    (hM : Met l y (Cond.code y bytes maxL ret :: zs_w) rm (va_Pc (.ref b :: As) (zs_r dC dI cI cZ wc)) (vp_Si post) 0 0 (fun _ => False)) (hF : zs_f y bytes maxL ret n) (hrc : rm.cells = 0) (hrs : rm.slots = 0)
    (hl : Cond.methodLinkNest own index y host ∈ zs_n) (hin : Cond.instanceMethod y ∈ zs_w) (hse : Cond.selects C y y ∈ zs_w) (hR : rm.frames + 1 ≤ R.frames ∧ 8 + (maxL + 11) + rm.locals ≤ R.locals)
    (hk : zs_k dC dI cI cZ s) (hP : va_P (dC, dI) zs_cl wc H) (q0 ci : Nat) (hc : zs_cl[ci]? = some q) (hC : q.1 = C) (he : wc[q0]? = some (b, .inr (ci, fs)))
    (hn : As.length = n) (hsize : ls.size = nL) (hst : st0 = As.reverse ++ .ref b :: rest) (hW : (rest.map fun v => v.category).sum ≤ 8) (hdg : decode cc pc = .ok (.invokevirtual index, 3)) (hf : cells ≤ R.cells ∧ slots ≤ R.slots)
    (kk : ∀ r : Int32, post r → W p l e R s m args below meth c H locs cells slots Q (F0 m (pc + 3) ls (.int r :: rest))) : W p l e R s m args below meth c H locs cells slots Q (F0 m pc ls st0) := by
  subst hC
  exact vp_callSi (zc_cr (va_runVN ⟨hexec, hb, hml, hown, hz⟩ hM ⟨va_cnB n hz (zs_gi hF.1) rfl hrc hrs (hk.2 _ hl) (hz _ hF.2.1) hF.2.2 hR, hz _ hin, hz _ hse⟩ ⟨zs_r.blind, va_recv hk.1 hP hc he, fun U hU hw => ⟨rfl, by rw [hU]; exact hP, hk.warm hw⟩⟩ rfl hn hsize hst (lv_room hW) hdg hf)) kk
/-- a static method of ints alone -/
theorem zc_rS {post : Int32 → Prop} (As : List Value) (hexec : p.tables.exec = Jvm.exec) (hb : c.code = cc) (hml : c.maxLocals = nL) (hown : s.vm.findClass own = some m.cls) (hz : ∀ w ∈ zs_w, w.before args s = true)
    (hM : Met l y (Cond.code y bytes maxL ret :: zs_w) rm (va_Pc As (fun _ => True)) (vp_Si post) 0 0 (fun _ => False)) (hF : zs_f y bytes maxL ret n) (hrc : rm.cells = 0) (hrs : rm.slots = 0)
    (hl : Cond.methodLink own index y ∈ zs_w) (hin : Cond.static y ∈ zs_w) (hR : rm.frames + 1 ≤ R.frames ∧ 8 + (maxL + 11) + rm.locals ≤ R.locals)
    (hn : As.length = n) (hsize : ls.size = nL) (hst : st0 = As.reverse ++ rest) (hW : (rest.map fun v => v.category).sum ≤ 8) (hdg : decode cc pc = .ok (.invokestatic index, 3)) (hf : cells ≤ R.cells ∧ slots ≤ R.slots)
    (kk : ∀ r : Int32, post r → W p l e R s m args below meth c H locs cells slots Q (F0 m (pc + 3) ls (.int r :: rest))) : W p l e R s m args below meth c H locs cells slots Q (F0 m pc ls st0) :=
  vp_callSi (W.runS ⟨hexec, hb, hml, hown, hz⟩ hM ⟨callB_of n hz (zs_gi hF.1) rfl hrc hrs (hz _ hF.2.1) (hz _ hl) hF.2.2 hR, hz _ hin⟩ ⟨fun _ _ _ _ q => q, fun _ _ _ => ⟨rfl, trivial⟩⟩ rfl hn hsize hst (lv_room hW) hdg hf) kk
/-- a call that may write its own cells (the places isC of the caller's world), by its own link -/
theorem zc_wV {S : Type} {post : Int32 → S → Prop} {w1 : S → va_W} {wr : va_W} (As : List Value) (hexec : p.tables.exec = Jvm.exec) (hb : c.code = cc) (hml : c.maxLocals = nL) (hown : s.vm.findClass own = some m.cls) (hz : ∀ w ∈ zs_w, w.before args s = true)
    (hM : Met l y (Cond.code y bytes maxL ret :: zs_w) rm (va_Pc (.ref b :: As) (zs_s dC dI cI cZ H.size wc)) (va_Qi post (zs_e dC dI w1 (va_A wc H.size)) (va_A wc H.size)) 0 0 (va_A wc H.size)) (hF : zs_f y bytes maxL ret n) (hrc : rm.cells = 0) (hrs : rm.slots = 0)
    (hl : Cond.methodLink own index y ∈ zs_w) (hin : Cond.instanceMethod y ∈ zs_w) (hse : Cond.selects C y y ∈ zs_w) (hR : rm.frames + 1 ≤ R.frames ∧ 8 + (maxL + 11) + rm.locals ≤ R.locals)
    (hk : zs_k dC dI cI cZ s) (hP : va_P (dC, dI) zs_cl ws H) (hD : va_D A ws) (hS : va_S A H0 H locs) (hA : ∀ q : Nat, H0.size ≤ q → A q) (isC isR : List Nat) (hic : isC.map (fun i => ws[i]?) = wc.map some) (hir : isR.map (fun i => ws[i]?) = wr.map some) (hnc : va_nd isC = true) (hnr : va_nd isR = true) (hdis : ∀ i ∈ isR, i ∉ isC)
    (q0 ci : Nat) (hc : zs_cl[ci]? = some q) (hC : q.1 = C) (he : wc[q0]? = some (b, .inr (ci, fs)))
    (hn : As.length = n) (hsize : ls.size = nL) (hst : st0 = As.reverse ++ .ref b :: rest) (hW : (rest.map fun v => v.category).sum ≤ 8) (hdg : decode cc pc = .ok (.invokevirtual index, 3)) (hf : cells ≤ R.cells ∧ slots ≤ R.slots)
    (kk : ∀ (r : Int32) (u : S) (H1 : Heap) (locs1 : List Loc), post r u → va_P (dC, dI) zs_cl (wr ++ w1 u) H1 → va_D A (wr ++ w1 u) → va_S A H0 H1 locs1 → W p l e R s m args below meth c H1 locs1 cells slots Q (F0 m (pc + 3) ls (.int r :: rest))) : W p l e R s m args below meth c H locs cells slots Q (F0 m pc ls st0) := by
  subst hC
  have hPc : va_P (dC, dI) zs_cl wc H := hP.sub isC (zs_fm hic)
  have hDc : va_D A wc := hD.sub isC hnc hic
  have hFc := va_free (wc := wc) hD hS hA isC hic
  refine va_calli (va_runV ⟨hexec, hb, hml, hown, hz⟩ hM ⟨callB_of n hz (zs_gi hF.1) rfl hrc hrs (hz _ hF.2.1) (hz _ hl) hF.2.2 hR, hz _ hin, hz _ hse⟩ ⟨zs_s.blind, va_recv hk.1 hPc hc he, fun U hU hw => ⟨rfl, by rw [hU], by rw [hU]; exact hPc, hk.warm hw, hDc.weaken (fun _ _ _ _ => trivial)⟩⟩ rfl hn hsize hst (lv_room hW) hdg hf) hS (fun q _ h => hFc q h) hFc (fun r u t H1 locs1 ht _ hp hB _ hk1 hS1 => ?_)
  obtain ⟨hP1, hD1⟩ := hB
  rw [ht] at hP1
  obtain ⟨hP2, hD2⟩ := va_join (wr := wr) (w1 := w1 u) hP hD isC isR hic hir hnr hdis hk1 hFc hP1 hD1
  exact kk r u H1 locs1 hp hP2 hD2 hS1
/-- a nest mate's method without an answer -/
theorem zc_wN {S : Type} {post : S → Prop} {w1 : S → va_W} {wr : va_W} (As : List Value) (hexec : p.tables.exec = Jvm.exec) (hb : c.code = cc) (hml : c.maxLocals = nL) (hown : s.vm.findClass own = some m.cls) (hz : ∀ w ∈ zs_w, w.before args s = true)
    (hM : Met l y (Cond.code y bytes maxL ret :: zs_w) rm (va_Pc (.ref b :: As) (zs_s dC dI cI cZ H.size wc)) (va_Qv post (zs_e dC dI w1 (va_A wc H.size)) (va_A wc H.size)) 0 0 (va_A wc H.size)) (hF : zs_f y bytes maxL ret n) (hrc : rm.cells = 0) (hrs : rm.slots = 0)
    (hl : Cond.methodLinkNest own index y host ∈ zs_n) (hin : Cond.instanceMethod y ∈ zs_w) (hse : Cond.selects C y y ∈ zs_w) (hR : rm.frames + 1 ≤ R.frames ∧ 8 + (maxL + 11) + rm.locals ≤ R.locals)
    (hk : zs_k dC dI cI cZ s) (hP : va_P (dC, dI) zs_cl ws H) (hD : va_D A ws) (hS : va_S A H0 H locs) (hA : ∀ q : Nat, H0.size ≤ q → A q) (isC isR : List Nat) (hic : isC.map (fun i => ws[i]?) = wc.map some) (hir : isR.map (fun i => ws[i]?) = wr.map some) (hnc : va_nd isC = true) (hnr : va_nd isR = true) (hdis : ∀ i ∈ isR, i ∉ isC)
    (q0 ci : Nat) (hc : zs_cl[ci]? = some q) (hC : q.1 = C) (he : wc[q0]? = some (b, .inr (ci, fs)))
    (hn : As.length = n) (hsize : ls.size = nL) (hst : st0 = As.reverse ++ .ref b :: rest) (hW : (rest.map fun v => v.category).sum ≤ 8) (hdg : decode cc pc = .ok (.invokevirtual index, 3)) (hf : cells ≤ R.cells ∧ slots ≤ R.slots)
    (kk : ∀ (u : S) (H1 : Heap) (locs1 : List Loc), post u → va_P (dC, dI) zs_cl (wr ++ w1 u) H1 → va_D A (wr ++ w1 u) → va_S A H0 H1 locs1 → W p l e R s m args below meth c H1 locs1 cells slots Q (F0 m (pc + 3) ls rest)) : W p l e R s m args below meth c H locs cells slots Q (F0 m pc ls st0) := by
  subst hC
  have hPc : va_P (dC, dI) zs_cl wc H := hP.sub isC (zs_fm hic)
  have hDc : va_D A wc := hD.sub isC hnc hic
  have hFc := va_free (wc := wc) hD hS hA isC hic
  refine va_callv (va_runVN ⟨hexec, hb, hml, hown, hz⟩ hM ⟨va_cnB n hz (zs_gi hF.1) rfl hrc hrs (hk.2 _ hl) (hz _ hF.2.1) hF.2.2 hR, hz _ hin, hz _ hse⟩ ⟨zs_s.blind, va_recv hk.1 hPc hc he, fun U hU hw => ⟨rfl, by rw [hU], by rw [hU]; exact hPc, hk.warm hw, hDc.weaken (fun _ _ _ _ => trivial)⟩⟩ rfl hn hsize hst (lv_room hW) hdg hf) hS (fun q _ h => hFc q h) hFc (fun u t H1 locs1 ht _ hp hB _ hk1 hS1 => ?_)
  obtain ⟨hP1, hD1⟩ := hB
  rw [ht] at hP1
  obtain ⟨hP2, hD2⟩ := va_join (wr := wr) (w1 := w1 u) hP hD isC isR hic hir hnr hdis hk1 hFc hP1 hD1
  exact kk u H1 locs1 hp hP2 hD2 hS1
end ZR
/-! the worlds: the contents at q0 .., the shelf at a 0 .., the reference at a 0 .. -/
abbrev zs_wC (cI cZ : ClassId) (q0 q1 q2 q3 q4 q5 : Nat) (u : zs_C) : va_W := [(q0, .inr (1, [.ref q1, .ref q2, .ref q3, .ref q4, .ref q5])), (q1, .inl (cI, 24, .inl u.1)), (q2, .inl (cI, 24, .inl u.2.1)), (q3, .inl (cI, 24, .inl u.2.2.1)), (q4, .inl (cZ, 24, .inl u.2.2.2.1)), (q5, .inl (cI, 1536, .inl u.2.2.2.2))]
abbrev zs_wX (cI cZ : ClassId) (a : Nat → Nat) (u : zs_X) : va_W := [(a 0, .inr (0, [.ref (a 1), .ref (a 7), .int (zs_b u.1)])), (a 1, .inr (1, [.ref (a 2), .ref (a 3), .ref (a 4), .ref (a 5), .ref (a 6)])), (a 2, .inl (cI, 24, .inl u.2.1.1)), (a 3, .inl (cI, 24, .inl u.2.1.2.1)), (a 4, .inl (cI, 24, .inl u.2.1.2.2.1)), (a 5, .inl (cZ, 24, .inl u.2.1.2.2.2.1)), (a 6, .inl (cI, 1536, .inl u.2.1.2.2.2.2)), (a 7, .inr (1, [.ref (a 8), .ref (a 9), .ref (a 10), .ref (a 11), .ref (a 12)])), (a 8, .inl (cI, 24, .inl u.2.2.1)), (a 9, .inl (cI, 24, .inl u.2.2.2.1)), (a 10, .inl (cI, 24, .inl u.2.2.2.2.1)), (a 11, .inl (cZ, 24, .inl u.2.2.2.2.2.1)), (a 12, .inl (cI, 1536, .inl u.2.2.2.2.2.2))]
abbrev zs_wM (cI cZ : ClassId) (a : Nat → Nat) (u : zs_X) : va_W := [(a 0, .inr (2, [.int (zs_b u.1), .ref (a 1), .ref (a 2), .ref (a 3), .ref (a 4), .ref (a 5), .ref (a 6), .ref (a 7), .ref (a 8), .ref (a 9), .ref (a 10)])), (a 1, .inl (cI, 24, .inl u.2.1.1)), (a 2, .inl (cI, 24, .inl u.2.1.2.1)), (a 3, .inl (cI, 24, .inl u.2.1.2.2.1)), (a 4, .inl (cZ, 24, .inl u.2.1.2.2.2.1)), (a 5, .inl (cI, 1536, .inl u.2.1.2.2.2.2)), (a 6, .inl (cI, 24, .inl u.2.2.1)), (a 7, .inl (cI, 24, .inl u.2.2.2.1)), (a 8, .inl (cI, 24, .inl u.2.2.2.2.1)), (a 9, .inl (cZ, 24, .inl u.2.2.2.2.2.1)), (a 10, .inl (cI, 1536, .inl u.2.2.2.2.2.2))]
section ZI
variable {p : Program} {l : Launch} {e : Env} {R : Room} {s : State} {m : MethodId} {args : Array Value} {below : List Frame} {meth : Method} {c : Code} {H : Heap} {locs : List Loc} {cells slots : Nat} {Q : State → Prop}
variable {cc : ByteArray} {pc : Nat} {ls : Array Slot} {rest : List Value} {dC : Nat → ClassId} {dI : Nat → Nat → Nat} {cI cZ : ClassId} {A : Nat → Prop} {ws : va_W} {H0 : Heap}
variable {y : MethodName} {bytes : ByteArray} {maxL nL n index mc ms : Nat} {rm : Room} {own host : String} {b : Nat} {wc : va_W} {st0 : List Value}
/-- an array is made: its kind is the one that is known -/
theorem zi_newi (hexec : p.tables.exec = Jvm.exec) (hb : c.code = cc) (hz : ∀ w ∈ zs_w, w.before args s = true) (ha : Cond.arrayClass .int ∈ zs_w) (hk : zs_k dC dI cI cZ s) (hP : va_P (dC, dI) zs_cl ws H) (hD : va_D A ws) (hS : va_S A H0 H locs) (hA : ∀ q : Nat, H0.size ≤ q → A q) {k : Int32} {N : Nat} (h0 : ¬ k < 0) (hN : k.toNatClampNeg = N) (hbytes : N * componentBytes .int ≤ 536870912) (hcells : cells + 1 ≤ R.cells) (hslots : slots + N ≤ R.slots) (hdg : decode cc pc = .ok (.newarray .int, 2))
    (kk : ∀ (q : Nat) (H1 : Heap), va_P (dC, dI) zs_cl (ws ++ [(q, .inl (cI, N, .inl (fun _ => 0)))]) H1 → va_D A (ws ++ [(q, .inl (cI, N, .inl (fun _ => 0)))]) → va_S A H0 H1 locs → W p l e R s m args below meth c H1 locs (cells + 1) (slots + N) Q (F0 m (pc + 2) ls (.ref q :: rest))) : W p l e R s m args below meth c H locs cells slots Q (F0 m pc ls (.int k :: rest)) := by
  refine va_newa (atype := .int) (ty := .int) (N' := N) (a0 := (N, .inl (fun _ => 0))) hexec hb (hz _ ha) rfl hk.1 hP hD hS hA (fun _ => rfl) h0 hN hbytes hcells hslots hdg (fun q cA H1 hK1 hP1 hD1 hS1 => ?_)
  have e1 : s.vm.findClass ("[" ++ FieldType.int.toString) = some cA := (hK1.2 2 (cA, .int) rfl).2
  have e2 : s.vm.findClass ("[" ++ FieldType.int.toString) = some cI := (hk.1.2 0 (cI, .int) rfl).2
  have e3 : cA = cI := Option.some.inj (e1.symm.trans e2)
  subst e3
  exact kk q H1 hP1 hD1 hS1
theorem zi_newz (hexec : p.tables.exec = Jvm.exec) (hb : c.code = cc) (hz : ∀ w ∈ zs_w, w.before args s = true) (ha : Cond.arrayClass .boolean ∈ zs_w) (hk : zs_k dC dI cI cZ s) (hP : va_P (dC, dI) zs_cl ws H) (hD : va_D A ws) (hS : va_S A H0 H locs) (hA : ∀ q : Nat, H0.size ≤ q → A q) {k : Int32} {N : Nat} (h0 : ¬ k < 0) (hN : k.toNatClampNeg = N) (hbytes : N * componentBytes .boolean ≤ 536870912) (hcells : cells + 1 ≤ R.cells) (hslots : slots + N ≤ R.slots) (hdg : decode cc pc = .ok (.newarray .boolean, 2))
    (kk : ∀ (q : Nat) (H1 : Heap), va_P (dC, dI) zs_cl (ws ++ [(q, .inl (cZ, N, .inl (fun _ => 0)))]) H1 → va_D A (ws ++ [(q, .inl (cZ, N, .inl (fun _ => 0)))]) → va_S A H0 H1 locs → W p l e R s m args below meth c H1 locs (cells + 1) (slots + N) Q (F0 m (pc + 2) ls (.ref q :: rest))) : W p l e R s m args below meth c H locs cells slots Q (F0 m pc ls (.int k :: rest)) := by
  refine va_newa (atype := .boolean) (ty := .boolean) (N' := N) (a0 := (N, .inl (fun _ => 0))) hexec hb (hz _ ha) rfl hk.1 hP hD hS hA (fun _ => rfl) h0 hN hbytes hcells hslots hdg (fun q cA H1 hK1 hP1 hD1 hS1 => ?_)
  have e1 : s.vm.findClass ("[" ++ FieldType.boolean.toString) = some cA := (hK1.2 2 (cA, .boolean) rfl).2
  have e2 : s.vm.findClass ("[" ++ FieldType.boolean.toString) = some cZ := (hk.1.2 1 (cZ, .boolean) rfl).2
  have e3 : cA = cZ := Option.some.inj (e1.symm.trans e2)
  subst e3
  exact kk q H1 hP1 hD1 hS1
/-- a constructor without arguments: of a nest mate, of another -/
theorem zc_iN {S : Type} {post : S → Prop} {w1 : S → va_W} {wr : va_W} (hexec : p.tables.exec = Jvm.exec) (hb : c.code = cc) (hml : c.maxLocals = nL) (hown : s.vm.findClass own = some m.cls) (hz : ∀ w ∈ zs_w, w.before args s = true)
    (hM : Met l y (Cond.code y bytes maxL none :: zs_w) rm (va_Pc [.ref b] (zs_s dC dI cI cZ H.size wc)) (va_Qv post (zs_e dC dI w1 (va_A wc H.size)) (va_A wc H.size)) mc ms (va_A wc H.size)) (hF : zs_f y bytes maxL none 0) (hrc : rm.cells = mc) (hrs : rm.slots = ms)
    (hl : Cond.methodLinkNest own index y host ∈ zs_n) (hin : Cond.instanceMethod y ∈ zs_w) (hy : y.name = "<init>") (hR : rm.frames + 1 ≤ R.frames ∧ 8 + (maxL + 11) + rm.locals ≤ R.locals)
    (hk : zs_k dC dI cI cZ s) (hP : va_P (dC, dI) zs_cl ws H) (hD : va_D A ws) (hS : va_S A H0 H locs) (hA : ∀ q : Nat, H0.size ≤ q → A q) (isC isR : List Nat) (hic : isC.map (fun i => ws[i]?) = wc.map some) (hir : isR.map (fun i => ws[i]?) = wr.map some) (hnc : va_nd isC = true) (hnr : va_nd isR = true) (hdis : ∀ i ∈ isR, i ∉ isC)
    (hsize : ls.size = nL) (hst : st0 = .ref b :: rest) (hW : (rest.map fun v => v.category).sum ≤ 8) (hdg : decode cc pc = .ok (.invokespecial index, 3)) (hf : cells + mc ≤ R.cells ∧ slots + ms ≤ R.slots)
    (kk : ∀ (u : S) (H1 : Heap) (locs1 : List Loc), post u → va_P (dC, dI) zs_cl (wr ++ w1 u) H1 → va_D A (wr ++ w1 u) → va_S A H0 H1 locs1 → W p l e R s m args below meth c H1 locs1 (cells + mc) (slots + ms) Q (F0 m (pc + 3) ls rest)) : W p l e R s m args below meth c H locs cells slots Q (F0 m pc ls st0) := by
  have hPc : va_P (dC, dI) zs_cl wc H := hP.sub isC (zs_fm hic)
  have hDc : va_D A wc := hD.sub isC hnc hic
  have hFc := va_free (wc := wc) hD hS hA isC hic
  refine va_callv (va_runIN (As := []) ⟨hexec, hb, hml, hown, hz⟩ hM ⟨va_cnB 0 hz (zs_gi hF.1) rfl hrc hrs (hk.2 _ hl) (hz _ hF.2.1) hF.2.2 hR, hy, hz _ hin⟩ ⟨zs_s.blind, fun U hU hw => ⟨rfl, by rw [hU], by rw [hU]; exact hPc, hk.warm hw, hDc.weaken (fun _ _ _ _ => trivial)⟩⟩ rfl rfl hsize hst (lv_room hW) hdg hf) hS (fun q _ h => hFc q h) hFc (fun u t H1 locs1 ht _ hp hB _ hk1 hS1 => ?_)
  obtain ⟨hP1, hD1⟩ := hB
  rw [ht] at hP1
  obtain ⟨hP2, hD2⟩ := va_join (wr := wr) (w1 := w1 u) hP hD isC isR hic hir hnr hdis hk1 hFc hP1 hD1
  exact kk u H1 locs1 hp hP2 hD2 hS1
theorem zc_iV {S : Type} {post : S → Prop} {w1 : S → va_W} {wr : va_W} (hexec : p.tables.exec = Jvm.exec) (hb : c.code = cc) (hml : c.maxLocals = nL) (hown : s.vm.findClass own = some m.cls) (hz : ∀ w ∈ zs_w, w.before args s = true)
    (hM : Met l y (Cond.code y bytes maxL none :: zs_w) rm (va_Pc [.ref b] (zs_s dC dI cI cZ H.size wc)) (va_Qv post (zs_e dC dI w1 (va_A wc H.size)) (va_A wc H.size)) mc ms (va_A wc H.size)) (hF : zs_f y bytes maxL none 0) (hrc : rm.cells = mc) (hrs : rm.slots = ms)
    (hl : Cond.methodLink own index y ∈ zs_w) (hin : Cond.instanceMethod y ∈ zs_w) (hy : y.name = "<init>") (hR : rm.frames + 1 ≤ R.frames ∧ 8 + (maxL + 11) + rm.locals ≤ R.locals)
    (hk : zs_k dC dI cI cZ s) (hP : va_P (dC, dI) zs_cl ws H) (hD : va_D A ws) (hS : va_S A H0 H locs) (hA : ∀ q : Nat, H0.size ≤ q → A q) (isC isR : List Nat) (hic : isC.map (fun i => ws[i]?) = wc.map some) (hir : isR.map (fun i => ws[i]?) = wr.map some) (hnc : va_nd isC = true) (hnr : va_nd isR = true) (hdis : ∀ i ∈ isR, i ∉ isC)
    (hsize : ls.size = nL) (hst : st0 = .ref b :: rest) (hW : (rest.map fun v => v.category).sum ≤ 8) (hdg : decode cc pc = .ok (.invokespecial index, 3)) (hf : cells + mc ≤ R.cells ∧ slots + ms ≤ R.slots)
    (kk : ∀ (u : S) (H1 : Heap) (locs1 : List Loc), post u → va_P (dC, dI) zs_cl (wr ++ w1 u) H1 → va_D A (wr ++ w1 u) → va_S A H0 H1 locs1 → W p l e R s m args below meth c H1 locs1 (cells + mc) (slots + ms) Q (F0 m (pc + 3) ls rest)) : W p l e R s m args below meth c H locs cells slots Q (F0 m pc ls st0) := by
  have hPc : va_P (dC, dI) zs_cl wc H := hP.sub isC (zs_fm hic)
  have hDc : va_D A wc := hD.sub isC hnc hic
  have hFc := va_free (wc := wc) hD hS hA isC hic
  refine va_callv (va_runI (As := []) ⟨hexec, hb, hml, hown, hz⟩ hM ⟨callB_of 0 hz (zs_gi hF.1) rfl hrc hrs (hz _ hF.2.1) (hz _ hl) hF.2.2 hR, hy, hz _ hin⟩ ⟨zs_s.blind, fun U hU hw => ⟨rfl, by rw [hU], by rw [hU]; exact hPc, hk.warm hw, hDc.weaken (fun _ _ _ _ => trivial)⟩⟩ rfl rfl hsize hst (lv_room hW) hdg hf) hS (fun q _ h => hFc q h) hFc (fun u t H1 locs1 ht _ hp hB _ hk1 hS1 => ?_)
  obtain ⟨hP1, hD1⟩ := hB
  rw [ht] at hP1
  obtain ⟨hP2, hD2⟩ := va_join (wr := wr) (w1 := w1 u) hP hD isC isR hic hir hnr hdis hk1 hFc hP1 hD1
  exact kk u H1 locs1 hp hP2 hD2 hS1
/-- a static method without an answer that writes -/
theorem zc_wS {S : Type} {post : S → Prop} {w1 : S → va_W} {wr : va_W} (As : List Value) (hexec : p.tables.exec = Jvm.exec) (hb : c.code = cc) (hml : c.maxLocals = nL) (hown : s.vm.findClass own = some m.cls) (hz : ∀ w ∈ zs_w, w.before args s = true)
    (hM : Met l y (Cond.code y bytes maxL none :: zs_w) rm (va_Pc As (zs_s dC dI cI cZ H.size wc)) (va_Qv post (zs_e dC dI w1 (va_A wc H.size)) (va_A wc H.size)) 0 0 (va_A wc H.size)) (hF : zs_f y bytes maxL none n) (hrc : rm.cells = 0) (hrs : rm.slots = 0)
    (hl : Cond.methodLink own index y ∈ zs_w) (hin : Cond.static y ∈ zs_w) (hR : rm.frames + 1 ≤ R.frames ∧ 8 + (maxL + 11) + rm.locals ≤ R.locals)
    (hk : zs_k dC dI cI cZ s) (hP : va_P (dC, dI) zs_cl ws H) (hD : va_D A ws) (hS : va_S A H0 H locs) (hA : ∀ q : Nat, H0.size ≤ q → A q) (isC isR : List Nat) (hic : isC.map (fun i => ws[i]?) = wc.map some) (hir : isR.map (fun i => ws[i]?) = wr.map some) (hnc : va_nd isC = true) (hnr : va_nd isR = true) (hdis : ∀ i ∈ isR, i ∉ isC)
    (hn : As.length = n) (hsize : ls.size = nL) (hst : st0 = As.reverse ++ rest) (hW : (rest.map fun v => v.category).sum ≤ 8) (hdg : decode cc pc = .ok (.invokestatic index, 3)) (hf : cells ≤ R.cells ∧ slots ≤ R.slots)
    (kk : ∀ (u : S) (H1 : Heap) (locs1 : List Loc), post u → va_P (dC, dI) zs_cl (wr ++ w1 u) H1 → va_D A (wr ++ w1 u) → va_S A H0 H1 locs1 → W p l e R s m args below meth c H1 locs1 cells slots Q (F0 m (pc + 3) ls rest)) : W p l e R s m args below meth c H locs cells slots Q (F0 m pc ls st0) := by
  have hPc : va_P (dC, dI) zs_cl wc H := hP.sub isC (zs_fm hic)
  have hDc : va_D A wc := hD.sub isC hnc hic
  have hFc := va_free (wc := wc) hD hS hA isC hic
  refine va_callv (va_runS ⟨hexec, hb, hml, hown, hz⟩ hM ⟨callB_of n hz (zs_gi hF.1) rfl hrc hrs (hz _ hF.2.1) (hz _ hl) hF.2.2 hR, hz _ hin⟩ ⟨zs_s.blind, fun U hU hw => ⟨rfl, by rw [hU], by rw [hU]; exact hPc, hk.warm hw, hDc.weaken (fun _ _ _ _ => trivial)⟩⟩ rfl hn hsize hst (lv_room hW) hdg hf) hS (fun q _ h => hFc q h) hFc (fun u t H1 locs1 ht _ hp hB _ hk1 hS1 => ?_)
  obtain ⟨hP1, hD1⟩ := hB
  rw [ht] at hP1
  obtain ⟨hP2, hD2⟩ := va_join (wr := wr) (w1 := w1 u) hP hD isC isR hic hir hnr hdis hk1 hFc hP1 hD1
  exact kk u H1 locs1 hp hP2 hD2 hS1
/-- the script's places -/
theorem zi_sld {L i : Nat} {xs : Nat → Int32} (hexec : p.tables.exec = Jvm.exec) (hb : c.code = cc) (hX : va_X b L xs s H0) (hbl : b < H0.size) (hbA : ¬ A b) (hS : va_S A H0 H locs) (hi : i < L) (hL : L ≤ 2048) (hdg : decode cc pc = .ok (.iaload, 1))
    (kk : W p l e R s m args below meth c H locs cells slots Q (F0 m (pc + 1) ls (.int (xs i) :: rest))) : W p l e R s m args below meth c H locs cells slots Q (F0 m pc ls (.int (nI i) :: .ref b :: rest)) := by
  refine va_sld hexec hb hX hbl hbA hS (vp_in_nI hi (by omega)) hdg ?_
  rw [nI_clamp (by omega)]
  exact kk
end ZI
