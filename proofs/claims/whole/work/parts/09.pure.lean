/-! The two sides agree behind each call that writes. -/
theorem zp_keep {x m y n : zs_C} {o : Nat} (a1 : y.1 o = x.1 o) (a2 : y.2.1 o = x.2.1 o) (a3 : y.2.2.1 o = x.2.2.1 o) (a4 : y.2.2.2.1 o = x.2.2.2.1 o) (a5 : ∀ i : Nat, i < 64 → y.2.2.2.2 (o * 64 + i) = x.2.2.2.2 (o * 64 + i))
    (b1 : n.1 o = m.1 o) (b2 : n.2.1 o = m.2.1 o) (b3 : n.2.2.1 o = m.2.2.1 o) (b4 : n.2.2.2.1 o = m.2.2.2.1 o) (b5 : ∀ i : Nat, i < 64 → n.2.2.2.2 (o * 64 + i) = m.2.2.2.2 (o * 64 + i)) (h : zp_o1 x m o) : zp_o1 y n o := by
  rcases h with ⟨h1, h2, h3⟩ | ⟨k, q, hk, hq, h1, h2, h3, h4, h5, h6, h7⟩
  · exact Or.inl ⟨a1.trans h1, b1.trans h2, a3.trans h3⟩
  · exact Or.inr ⟨k, q, hk, hq, a1.trans h1, b1.trans h2, by rw [a2, b2, h3], a3.trans h4, b3.trans h5, by rw [a4, b4, h6], fun i hi => by rw [a5 i (by omega), b5 i (by omega)]; exact h7 i hi⟩
theorem zp_d_new {nm : zs_F} {f : Nat} {n : Int32} (h : zp_d nm) (hno : ∀ t : Nat, t < 24 → ¬ nm t = n) : zp_d (upd nm f n) := by
  intro o t ho ht h1 h2
  by_cases e1 : o = f
  · by_cases e2 : t = f
    · omega
    · rw [e1, pk_us, pk_un e2] at h2
      exact absurd h2.symm (hno t ht)
  · by_cases e2 : t = f
    · rw [e2, pk_us, pk_un e1] at h2
      exact absurd h2 (hno o ho)
    · rw [pk_un e1] at h1
      rw [pk_un e1, pk_un e2] at h2
      exact h o t ho ht h1 h2
theorem zp_d_del {nm : zs_F} {f : Nat} (h : zp_d nm) : zp_d (upd nm f (-1)) := by
  intro o t ho ht h1 h2
  by_cases e1 : o = f
  · rw [e1, pk_us] at h1
    exact absurd rfl h1
  · rw [pk_un e1] at h1 h2
    by_cases e2 : t = f
    · rw [e2, pk_us] at h2
      exact absurd h2 h1
    · rw [pk_un e2] at h2
      exact h o t ho ht h1 h2
theorem zp_fr {x m : zs_C} (h : zp_1 x m) {n : Int32} (hn : zs_nam n = true) : zm_num true m.1 n 24 0 (-1) = -1 ↔ zs_num x.1 n 24 0 = -1 := by
  obtain ⟨k, hk, rfl⟩ := zp_nam hn
  rw [zp_num h hk 24 0 (-1) rfl]
  split
  · rename_i q
    exact ⟨fun _ => q, fun _ => rfl⟩
  · exact Iff.rfl
theorem zp_free {x m : zs_C} (h : zp_1 x m) : ∀ k i : Nat, i + k = 24 → (zs_free x.1 k i = -1 ∧ zm_free m.1 k i = 24) ∨ (zm_free m.1 k i < 24 ∧ zs_free x.1 k i = nI (zm_free m.1 k i) ∧ zs_t x.1 (zm_free m.1 k i) = false) := by
  intro k
  induction k with
  | zero => exact fun i hi => Or.inl ⟨rfl, hi⟩
  | succ k ih =>
    intro i hi
    have ht := zp_t h (o := i) (by omega)
    simp only [zs_free, zm_free]
    by_cases hm : m.1 i ≤ 0
    · have e : zs_t x.1 i = false := by rw [ht]; simp [hm]
      rw [if_pos hm, if_neg (by rw [e]; decide)]
      exact Or.inr ⟨by omega, rfl, e⟩
    · have e : zs_t x.1 i = true := by rw [ht]; simp [hm]
      rw [if_neg hm, if_pos e]
      exact ih (i + 1) (by omega)
theorem zp_gone {x m : zs_C} (h : zp_1 x m) {o : Nat} (ho : o < 24) (ht : zs_t x.1 o = false) : x.2.2.1 o = 0 := by
  rcases h.1 o ho with ⟨-, -, h3⟩ | ⟨n, q, hn, -, h1, -⟩
  · exact h3
  · have e : ¬ nI n = -1 := zs_nm1 (by omega)
    simp [zs_t, h1, e] at ht
theorem zp_create {x m : zs_X} (h : zp_R x m) (n hh : Int32) : (zs_create x n hh).1 = (zm_create m n hh).1 ∧ zp_R (zs_create x n hh).2 (zm_create m n hh).2 := by
  obtain ⟨up, cx, ox⟩ := x
  obtain ⟨up2, cm, om⟩ := m
  have hR := h
  obtain ⟨rfl, h1, h2⟩ := h
  have hX : ((up && (zs_fr cx.1 n && zs_hin hh)) = true) ↔ (up = true ∧ zs_nam n = true ∧ (¬ hh < 0 ∧ ¬ 3 < hh) ∧ zs_num cx.1 n 24 0 = -1) := by
    simp only [zs_fr, zs_hin, Bool.and_eq_true, Bool.not_eq_true', decide_eq_false_iff_not, decide_eq_true_eq]
    constructor
    · rintro ⟨q1, ⟨q2, q3⟩, q4⟩
      exact ⟨q1, q2, q4, q3⟩
    · rintro ⟨q1, q2, q4, q3⟩
      exact ⟨q1, ⟨q2, q3⟩, q4⟩
  have hM : (up = true ∧ zs_nam n = true ∧ ¬ hh < 0 ∧ ¬ 3 < hh ∧ zm_num up cm.1 n 24 0 (-1) = -1) ↔ (up = true ∧ zs_nam n = true ∧ (¬ hh < 0 ∧ ¬ 3 < hh) ∧ zs_num cx.1 n 24 0 = -1) := by
    constructor
    · rintro ⟨rfl, q2, q3, q4, q5⟩
      exact ⟨rfl, q2, ⟨q3, q4⟩, (zp_fr h1 q2).mp q5⟩
    · rintro ⟨rfl, q2, ⟨q3, q4⟩, q5⟩
      exact ⟨rfl, q2, q3, q4, (zp_fr h1 q2).mpr q5⟩
  simp only [zs_create, zm_create]
  by_cases hc : up = true ∧ zs_nam n = true ∧ (¬ hh < 0 ∧ ¬ 3 < hh) ∧ zs_num cx.1 n 24 0 = -1
  · rw [if_pos (hX.mpr hc), if_pos (hM.mpr hc)]
    obtain ⟨rfl, hn, -, hnum⟩ := hc
    rcases zp_free h1 24 0 rfl with ⟨e1, e2⟩ | ⟨e1, e2, e3⟩
    · rw [if_pos e1, if_pos e2]
      exact ⟨rfl, hR⟩
    · generalize zm_free cm.1 24 0 = f at e1 e2 e3 ⊢
      rw [e2, if_neg (zs_nm1 (by omega)), if_neg (by omega), nI_clamp (by omega)]
      obtain ⟨k, hk, rfl⟩ := zp_nam hn
      refine ⟨rfl, rfl, ⟨fun o ho => ?_, zp_d_new h1.2 (fun t ht => zs_num_some 24 0 (by omega) hnum t (by omega) (by omega))⟩, h2⟩
      by_cases e : o = f
      · subst e
        refine Or.inr ⟨k, 0, hk, by omega, pk_us, ?_, ?_, zp_gone h1 ho e3, pk_us, ?_, fun i hi => by omega⟩
        · show upd cm.1 o (nI k + 1) o = _
          rw [pk_us, nI_1]
        · show upd cx.2.1 o hh o = upd cm.2.1 o hh o
          rw [pk_us, pk_us]
        · show upd cx.2.2.2.1 o _ o = upd cm.2.2.2.1 o _ o
          rw [pk_us, pk_us]
      · exact zp_keep (x := cx) (m := cm) (pk_un e) (pk_un e) rfl (pk_un e) (fun _ _ => rfl) (pk_un e) (pk_un e) (pk_un e) (pk_un e) (fun _ _ => rfl) (h1.1 o ho)
  · rw [if_neg (fun q => hc (hX.mp q)), if_neg (fun q => hc (hM.mp q))]
    exact ⟨rfl, hR⟩
theorem zs_row_in {wd : zs_F} {st : Nat} {w : Int32} : ∀ (k i : Nat), i < k → zs_row wd st w k (st + i) = w + nI i := by
  intro k
  induction k with
  | zero => exact fun i hi => by omega
  | succ k ih =>
    intro i hi
    simp only [zs_row]
    by_cases e : i = k
    · rw [e, pk_us]
    · rw [pk_un (by omega)]
      exact ih i (by omega)
theorem zs_row_out {wd : zs_F} {st : Nat} {w : Int32} {j : Nat} : ∀ k : Nat, (j < st ∨ st + k ≤ j) → zs_row wd st w k j = wd j := by
  intro k
  induction k with
  | zero => exact fun _ => rfl
  | succ k ih =>
    intro hj
    simp only [zs_row]
    rw [pk_un (by omega)]
    exact ih (by omega)
theorem zp_okr {x m : zs_X} (h : zp_R x m) (o k : Int32) : zs_okr x o k = zm_okr m o k := by
  obtain ⟨up, cx, ox⟩ := x
  obtain ⟨up2, cm, om⟩ := m
  obtain ⟨rfl, h1, -⟩ := h
  simp only [zs_okr, zm_okr]
  rw [← zp_is h1]
  by_cases hi : zs_is up cx.1 o = true
  · obtain ⟨j, hj, rfl, -, ht⟩ := zs_is_t hi
    obtain ⟨n, q, -, -, e1, e2, e3, e4, e5, e6, -⟩ := zp_o h1 hj ht
    rw [hi, nI_clamp (by omega), e6, ← zp_left0 h1, e5, ← e4]
    have e : decide (k ≤ zs_rm cx.2.2.1 j) = (!decide (64 - cx.2.2.1 j < k) && decide (k ≤ 200 - zs_sum cx.2.2.1 24 0 0)) := by
      rw [Bool.eq_iff_iff]
      simp only [Bool.and_eq_true, Bool.not_eq_true', decide_eq_false_iff_not, decide_eq_true_eq]
      rw [zs_rm_le, Int32.not_lt]
    rw [e]
  · have e : zs_is up cx.1 o = false := by simpa using hi
    rw [e]
    rfl
theorem zp_appendRow {x m : zs_X} (h : zp_R x m) (o w k : Int32) : (zs_appendRow x o w k).1 = (zm_appendRow m o w k).1 ∧ zp_R (zs_appendRow x o w k).2 (zm_appendRow m o w k).2 := by
  have hR := h
  have hk := zp_okr h o k
  obtain ⟨up, cx, ox⟩ := x
  obtain ⟨up2, cm, om⟩ := m
  obtain ⟨rfl, h1, h2⟩ := h
  simp only [zs_appendRow, zm_appendRow]
  rw [← hk]
  by_cases hc : zs_okr (up, cx, ox) o k = true
  · rw [if_pos hc, if_pos hc]
    simp only [zs_okr, Bool.and_eq_true, Bool.not_eq_true', decide_eq_false_iff_not, decide_eq_true_eq] at hc
    obtain ⟨hi, -, hk1, hk2⟩ := hc
    obtain ⟨j, hj, rfl, -, ht⟩ := zs_is_t hi
    obtain ⟨n, q, hn, hq, e1, e2, e3, e4, e5, e6, e7⟩ := zp_o h1 hj ht
    rw [nI_clamp (by omega)] at hk2 ⊢
    obtain ⟨t, hqt, rfl⟩ := zs_fit e4 hq hk1 hk2
    rw [e4, e5, nI_clamp (show q < 2 ^ 31 by omega), nI_clamp (show t < 2 ^ 31 by omega)]
    refine ⟨rfl, rfl, ⟨fun a ha => ?_, h1.2⟩, h2⟩
    by_cases e : a = j
    · subst e
      refine Or.inr ⟨n, q + t, hn, hqt, e1, e2, e3, pk_us, pk_us, e6, fun i hi => ?_⟩
      show zs_row cx.2.2.2.2 (a * 64 + q) w t (a * 64 + i) = zs_row cm.2.2.2.2 (a * 64 + q) w t (a * 64 + i)
      by_cases hiq : i < q
      · rw [zs_row_out t (by omega), zs_row_out t (by omega)]
        exact e7 i hiq
      · rw [show a * 64 + i = a * 64 + q + (i - q) by omega, zs_row_in t (i - q) (by omega), zs_row_in t (i - q) (by omega)]
    · exact zp_keep (x := cx) (m := cm) rfl rfl (pk_un e) rfl (fun i hi => zs_row_out t (by omega)) rfl rfl (pk_un e) rfl (fun i hi => zs_row_out t (by omega)) (h1.1 a ha)
  · rw [if_neg hc, if_neg hc]
    exact ⟨rfl, hR⟩
theorem zp_open {x m : zs_X} (h : zp_R x m) (o b : Int32) : (zs_open x o b).1 = (zm_open m o b).1 ∧ zp_R (zs_open x o b).2 (zm_open m o b).2 := by
  have hR := h
  obtain ⟨up, cx, ox⟩ := x
  obtain ⟨up2, cm, om⟩ := m
  obtain ⟨rfl, h1, h2⟩ := h
  simp only [zs_open, zm_open]
  rw [← zp_is h1]
  by_cases hi : zs_is up cx.1 o = true
  · rw [if_pos hi, if_pos hi]
    obtain ⟨j, hj, rfl, -, ht⟩ := zs_is_t hi
    rw [nI_clamp (by omega)]
    obtain ⟨n, q, hn, hq, e1, e2, e3, e4, e5, e6, e7⟩ := zp_o h1 hj ht
    refine ⟨rfl, rfl, ⟨fun a ha => ?_, h1.2⟩, h2⟩
    by_cases e : a = j
    · subst e
      refine Or.inr ⟨n, q, hn, hq, e1, e2, e3, e4, e5, ?_, e7⟩
      show upd cx.2.2.2.1 a _ a = upd cm.2.2.2.1 a _ a
      rw [pk_us, pk_us]
    · exact zp_keep (x := cx) (m := cm) rfl rfl rfl (pk_un e) (fun _ _ => rfl) rfl rfl rfl (pk_un e) (fun _ _ => rfl) (h1.1 a ha)
  · rw [if_neg hi, if_neg hi]
    exact ⟨rfl, hR⟩
theorem zp_remove {x m : zs_X} (h : zp_R x m) (o : Int32) : (zs_remove x o).1 = (zm_remove m o).1 ∧ zp_R (zs_remove x o).2 (zm_remove m o).2 := by
  have hR := h
  obtain ⟨up, cx, ox⟩ := x
  obtain ⟨up2, cm, om⟩ := m
  obtain ⟨rfl, h1, h2⟩ := h
  simp only [zs_remove, zm_remove]
  rw [← zp_is h1]
  by_cases hi : zs_is up cx.1 o = true
  · rw [if_pos hi, if_pos hi]
    obtain ⟨j, hj, rfl, -, ht⟩ := zs_is_t hi
    rw [nI_clamp (by omega)]
    refine ⟨rfl, rfl, ⟨fun a ha => ?_, zp_d_del h1.2⟩, h2⟩
    by_cases e : a = j
    · subst e
      exact Or.inl ⟨pk_us, pk_us, pk_us⟩
    · exact zp_keep (x := cx) (m := cm) (pk_un e) rfl (pk_un e) rfl (fun _ _ => rfl) (pk_un e) rfl rfl rfl (fun _ _ => rfl) (h1.1 a ha)
  · rw [if_neg hi, if_neg hi]
    exact ⟨rfl, hR⟩
theorem zp_rename {x m : zs_X} (h : zp_R x m) (o n : Int32) : (zs_rename x o n).1 = (zm_rename m o n).1 ∧ zp_R (zs_rename x o n).2 (zm_rename m o n).2 := by
  have hR := h
  obtain ⟨up, cx, ox⟩ := x
  obtain ⟨up2, cm, om⟩ := m
  obtain ⟨rfl, h1, h2⟩ := h
  simp only [zs_rename, zm_rename]
  rw [← zp_is h1]
  by_cases hi : zs_is up cx.1 o = true
  · obtain ⟨j, hj, rfl, hup, ht⟩ := zs_is_t hi
    subst hup
    by_cases hc : zs_nam n = true ∧ zs_num cx.1 n 24 0 = -1
    · rw [if_pos (by simp [hi, zs_fr, hc.1, hc.2]), if_pos ⟨hi, hc.1, (zp_fr h1 hc.1).mpr hc.2⟩, nI_clamp (by omega)]
      obtain ⟨k, hk, rfl⟩ := zp_nam hc.1
      obtain ⟨n0, q, hn, hq, e1, e2, e3, e4, e5, e6, e7⟩ := zp_o h1 hj ht
      refine ⟨rfl, rfl, ⟨fun a ha => ?_, zp_d_new h1.2 (fun t ht => zs_num_some 24 0 (by omega) hc.2 t (by omega) (by omega))⟩, h2⟩
      by_cases e : a = j
      · subst e
        refine Or.inr ⟨k, q, hk, hq, pk_us, ?_, e3, e4, e5, e6, e7⟩
        show upd cm.1 a (nI k + 1) a = _
        rw [pk_us, nI_1]
      · exact zp_keep (x := cx) (m := cm) (pk_un e) rfl rfl rfl (fun _ _ => rfl) (pk_un e) rfl rfl rfl (fun _ _ => rfl) (h1.1 a ha)
    · rw [if_neg (fun z => hc (by simpa [hi, zs_fr] using z)), if_neg (fun z => hc ⟨z.2.1, (zp_fr h1 z.2.1).mp z.2.2⟩)]
      exact ⟨rfl, hR⟩
  · rw [if_neg (fun z => hi (by simp only [Bool.and_eq_true] at z; exact z.1)), if_neg (fun z => hi z.1)]
    exact ⟨rfl, hR⟩
theorem zs_cp_at {f g : zs_F} {n j : Nat} (h : j < n) : zs_cp f g n j = f j := if_pos h
theorem zs_cz_at {f g : zs_F} {n j : Nat} (h : j < n) : zs_cz f g n j = vp_nar .boolean (f j) := if_pos h
theorem zp_copy {x m y n : zs_C} (h : zp_1 x m) : zp_1 (zs_copy x y) (zm_copy m n) := by
  refine ⟨fun o ho => ?_, fun o t ho ht h1 h2 => ?_⟩
  · rcases h.1 o ho with ⟨h1, h2, h3⟩ | ⟨k, q, hk, hq, h1, h2, h3, h4, h5, h6, h7⟩
    · exact Or.inl ⟨(zs_cp_at ho).trans h1, (zs_cp_at ho).trans h2, (zs_cp_at ho).trans h3⟩
    · refine Or.inr ⟨k, q, hk, hq, (zs_cp_at ho).trans h1, (zs_cp_at ho).trans h2, ?_, (zs_cp_at ho).trans h4, (zs_cp_at ho).trans h5, ?_, fun i hi => ?_⟩
      · exact ((zs_cp_at ho).trans h3).trans (zs_cp_at ho).symm
      · exact ((zs_cz_at ho).trans (congrArg _ h6)).trans (zs_cz_at ho).symm
      · exact ((sb_cpy0 (by omega)).trans (h7 i hi)).trans (zs_cp_at (by omega)).symm
  · have e1 : zs_cp x.1 y.1 24 o = x.1 o := zs_cp_at ho
    have e2 : zs_cp x.1 y.1 24 t = x.1 t := zs_cp_at ht
    have h1 : ¬ zs_cp x.1 y.1 24 o = -1 := h1
    have h2 : zs_cp x.1 y.1 24 o = zs_cp x.1 y.1 24 t := h2
    rw [e1] at h1
    rw [e1, e2] at h2
    exact h.2 o t ho ht h1 h2
theorem zp_sync {x m : zs_X} (h : zp_R x m) : (zs_sync x).1 = (zm_sync m).1 ∧ zp_R (zs_sync x).2 (zm_sync m).2 := by
  have hR := h
  obtain ⟨up, cx, ox⟩ := x
  obtain ⟨up2, cm, om⟩ := m
  obtain ⟨rfl, h1, h2⟩ := h
  simp only [zs_sync, zm_sync]
  split
  · exact ⟨rfl, rfl, h1, zp_copy h1⟩
  · exact ⟨rfl, hR⟩
theorem zp_cut {x m : zs_X} (h : zp_R x m) : (zs_cut x).1 = (zm_cut m).1 ∧ zp_R (zs_cut x).2 (zm_cut m).2 := by
  obtain ⟨up, cx, ox⟩ := x
  obtain ⟨up2, cm, om⟩ := m
  obtain ⟨rfl, h1, h2⟩ := h
  cases up with
  | false => exact ⟨rfl, rfl, h1, h2⟩
  | true => exact ⟨rfl, rfl, h1, h2⟩
theorem zp_mount {x m : zs_X} (h : zp_R x m) : (zs_mount x).1 = (zm_mount m).1 ∧ zp_R (zs_mount x).2 (zm_mount m).2 := by
  have hR := h
  obtain ⟨up, cx, ox⟩ := x
  obtain ⟨up2, cm, om⟩ := m
  obtain ⟨rfl, h1, h2⟩ := h
  simp only [zs_mount, zm_mount]
  split
  · exact ⟨rfl, hR⟩
  · exact ⟨rfl, rfl, zp_copy h2, h2⟩
theorem zp_ok1 {x m : zs_X} (h : zp_R x m) : zs_ok x := by
  intro j hj
  rcases h.2.1.1 j hj with ⟨-, -, h3⟩ | ⟨k, q, -, hq, -, -, -, h4, -⟩
  · exact ⟨0, by omega, h3⟩
  · exact ⟨q, hq, h4⟩
theorem zp_ok2 {x m : zs_X} (h : zp_R x m) : zm_ok m := by
  intro j hj ht
  rcases h.2.1.1 j hj with ⟨-, h2, -⟩ | ⟨k, q, -, hq, -, -, -, -, h5, -⟩
  · exact absurd (by rw [h2]; decide) ht
  · exact ⟨q, hq, h5⟩
/-- a new shelf, a new reference -/
def zs_0 : zs_X := (true, (zs_fl (fun _ => 0) (-1) 24, fun _ => 0, fun _ => 0, fun _ => 0, fun _ => 0), (zs_fl (fun _ => 0) (-1) 24, fun _ => 0, fun _ => 0, fun _ => 0, fun _ => 0))
def zm_0 : zs_X := (true, (fun _ => 0, fun _ => 0, fun _ => 0, fun _ => 0, fun _ => 0), (fun _ => 0, fun _ => 0, fun _ => 0, fun _ => 0, fun _ => 0))
theorem zp_00 : zp_1 (zs_fl (fun _ => 0) (-1) 24, fun _ => 0, fun _ => 0, fun _ => 0, fun _ => 0) (fun _ => 0, fun _ => 0, fun _ => 0, fun _ => 0, fun _ => 0) := by
  refine ⟨fun o ho => Or.inl ⟨if_pos ho, rfl, rfl⟩, fun o t ho ht h1 _ => absurd (if_pos ho) h1⟩
theorem zp_0 : zp_R zs_0 zm_0 := ⟨rfl, zp_00, zp_00⟩
