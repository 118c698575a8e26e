/-! The two sides agree. zp_1: contents of the shelf and of the reference; zp_R: all. -/
def zp_o1 (x m : zs_C) (o : Nat) : Prop := (x.1 o = -1 ∧ m.1 o = 0 ∧ x.2.2.1 o = 0) ∨ ∃ n q : Nat, n ≤ 9999 ∧ q ≤ 64 ∧ x.1 o = nI n ∧ m.1 o = nI (n + 1) ∧ x.2.1 o = m.2.1 o ∧ x.2.2.1 o = nI q ∧ m.2.2.1 o = nI q ∧ x.2.2.2.1 o = m.2.2.2.1 o ∧ ∀ i : Nat, i < q → x.2.2.2.2 (o * 64 + i) = m.2.2.2.2 (o * 64 + i)
def zp_d (nm : zs_F) : Prop := ∀ o t : Nat, o < 24 → t < 24 → ¬ nm o = -1 → nm o = nm t → o = t
def zp_1 (x m : zs_C) : Prop := (∀ o : Nat, o < 24 → zp_o1 x m o) ∧ zp_d x.1
def zp_R (x m : zs_X) : Prop := x.1 = m.1 ∧ zp_1 x.2.1 m.2.1 ∧ zp_1 x.2.2 m.2.2
theorem zp_t {x m : zs_C} (h : zp_1 x m) {o : Nat} (ho : o < 24) : zs_t x.1 o = !decide (m.1 o ≤ 0) := by
  rcases h.1 o ho with ⟨h1, h2, -⟩ | ⟨n, q, hn, -, h1, h2, -⟩
  · simp [zs_t, h1, h2]
  · have e1 : ¬ nI n = -1 := zs_nm1 (by omega)
    have e2 : ¬ nI (n + 1) ≤ 0 := nI_nle (by omega) (by omega)
    simp [zs_t, h1, h2, e1, e2]
theorem zp_at {x m : zs_C} (h : zp_1 x m) {o : Nat} (ho : o < 24) : zm_at true m.1 o = zs_t x.1 o := by
  rw [zp_t h ho]
  rfl
theorem zp_is {x m : zs_C} (h : zp_1 x m) (up : Bool) (n : Int32) : zs_is up x.1 n = zm_is up m.1 n := by
  by_cases h1 : n < 0
  · simp [zs_is, zm_is, h1]
  · by_cases h2 : 24 ≤ n
    · simp [zs_is, zm_is, h2]
    · obtain ⟨j, hj, rfl⟩ := zs_ix h1 h2
      rw [zs_is_at hj, zm_is_at hj, zm_at, zp_t h hj]
theorem zp_nam {n : Int32} (h : zs_nam n = true) : ∃ k : Nat, k ≤ 9999 ∧ n = nI k := by
  simp only [zs_nam, Bool.and_eq_true, Bool.not_eq_true', decide_eq_false_iff_not] at h
  obtain ⟨k, hk, rfl⟩ := nI_of h.1
  have h2 : ¬ nI 9999 < nI k := h.2
  rw [nI_ltI (by omega) hk] at h2
  exact ⟨k, by omega, rfl⟩
/-- a name stands at the same number on both sides -/
theorem zp_nmeq {x m : zs_C} (h : zp_1 x m) {o k : Nat} (ho : o < 24) (hk : k ≤ 9999) : (zs_t x.1 o = true ∧ m.1 o = nI k + 1) ↔ x.1 o = nI k := by
  rw [nI_1]
  rcases h.1 o ho with ⟨h1, h2, -⟩ | ⟨n, q, hn, -, h1, h2, -⟩
  · constructor
    · rintro ⟨q, -⟩
      simp [zs_t, h1] at q
    · intro q
      rw [h1] at q
      exact absurd q.symm (zs_nm1 (by omega))
  · have e1 : ¬ nI n = -1 := zs_nm1 (by omega)
    rw [h1, h2, nI_eq (by omega) (by omega), nI_eq (by omega) (by omega)]
    constructor
    · rintro ⟨-, q⟩
      omega
    · intro q
      exact ⟨by simp [zs_t, h1, e1], by omega⟩
theorem zs_num_no {nm : zs_F} {x : Int32} : ∀ k i : Nat, (∀ t, i ≤ t → t < i + k → ¬ nm t = x) → zs_num nm x k i = -1 := by
  intro k
  induction k with
  | zero => exact fun _ _ => rfl
  | succ k ih =>
    intro i h
    simp only [zs_num]
    rw [if_neg (h i (Nat.le_refl _) (by omega))]
    exact ih (i + 1) (fun t h1 h2 => h t (by omega) (by omega))
theorem zs_num_some {nm : zs_F} {x : Int32} : ∀ k i : Nat, i + k ≤ 24 → zs_num nm x k i = -1 → ∀ t, i ≤ t → t < i + k → ¬ nm t = x := by
  intro k
  induction k with
  | zero => exact fun i _ _ t h1 h2 => by omega
  | succ k ih =>
    intro i hi h t h1 h2
    simp only [zs_num] at h
    by_cases hx : nm i = x
    · rw [if_pos hx] at h
      exact absurd h (zs_nm1 (by omega))
    · rw [if_neg hx] at h
      by_cases ht : t = i
      · rw [ht]
        exact hx
      · exact ih (i + 1) (by omega) h t (by omega) (by omega)
theorem zp_num {x m : zs_C} (h : zp_1 x m) {n : Nat} (hn : n ≤ 9999) : ∀ (k i : Nat) (a : Int32), i + k = 24 → zm_num true m.1 (nI n) k i a = (if zs_num x.1 (nI n) k i = -1 then a else zs_num x.1 (nI n) k i) := by
  have hnam : zs_nam (nI n) = true := by
    have e1 : ¬ nI n < 0 := nI_pos (by omega)
    have e2 : ¬ (9999 : Int32) < nI n := nI_nlt (a := 9999) (b := n) hn (by decide)
    simp [zs_nam, e1, e2]
  intro k
  induction k with
  | zero => exact fun _ _ _ => rfl
  | succ k ih =>
    intro i a hi
    have hc := zp_nmeq h (o := i) (k := n) (by omega) hn
    by_cases hx : x.1 i = nI n
    · have hc2 := hc.mpr hx
      have e1 : zm_num true m.1 (nI n) (k + 1) i a = zm_num true m.1 (nI n) k (i + 1) (nI i) := by
        simp only [zm_num]
        rw [if_pos ⟨hnam, by rw [zp_at h (by omega)]; exact hc2.1, hc2.2⟩]
      have e2 : zs_num x.1 (nI n) (k + 1) i = nI i := by
        simp only [zs_num]
        rw [if_pos hx]
      have hno : zs_num x.1 (nI n) k (i + 1) = -1 := zs_num_no k (i + 1) (fun t h1 h2 q => by
        have h3 := h.2 i t (by omega) (by omega) (by rw [hx]; exact zs_nm1 (by omega)) (by rw [hx, q])
        omega)
      rw [e1, e2, ih (i + 1) _ (by omega), if_pos hno, if_neg (zs_nm1 (by omega))]
    · have e1 : zm_num true m.1 (nI n) (k + 1) i a = zm_num true m.1 (nI n) k (i + 1) a := by
        simp only [zm_num]
        rw [if_neg (fun q => hx (hc.mp ⟨by rw [← zp_at h (by omega)]; exact q.2.1, q.2.2⟩))]
      have e2 : zs_num x.1 (nI n) (k + 1) i = zs_num x.1 (nI n) k (i + 1) := by
        simp only [zs_num]
        rw [if_neg hx]
      rw [e1, e2]
      exact ih (i + 1) a (by omega)
theorem zm_num_f {nm : zs_F} {n : Int32} : ∀ (k i : Nat) (a : Int32), zm_num false nm n k i a = a := by
  intro k
  induction k with
  | zero => exact fun _ _ => rfl
  | succ k ih =>
    intro i a
    simp only [zm_num]
    rw [if_neg (fun q => by have z := q.2.1; simp [zm_at] at z)]
    exact ih (i + 1) a
theorem zm_num_x {up : Bool} {nm : zs_F} {n : Int32} (h : ¬ zs_nam n = true) : ∀ (k i : Nat) (a : Int32), zm_num up nm n k i a = a := by
  intro k
  induction k with
  | zero => exact fun _ _ => rfl
  | succ k ih =>
    intro i a
    simp only [zm_num]
    rw [if_neg (fun q => h q.1)]
    exact ih (i + 1) a
theorem zp_find {x m : zs_X} (h : zp_R x m) (n : Int32) : zs_find x n = zm_find m n := by
  obtain ⟨up, cx, ox⟩ := x
  obtain ⟨up2, cm, om⟩ := m
  obtain ⟨rfl, h1, -⟩ := h
  simp only [zs_find, zm_find]
  cases up with
  | false =>
    rw [zm_num_f]
    rfl
  | true =>
    by_cases hn : zs_nam n = true
    · rw [if_pos (by rw [hn]; rfl)]
      obtain ⟨k, hk, rfl⟩ := zp_nam hn
      rw [zp_num h1 hk 24 0 (-1) rfl]
      split
      · rename_i q
        exact q
      · rfl
    · rw [zm_num_x hn, if_neg (by simpa using hn)]
theorem zp_below {x m : zs_C} (h : zp_1 x m) {o : Nat} (ho : o < 24) (ht : zs_t x.1 o = true) : ∀ (k i : Nat) (a : Int32), i + k = 24 → zs_below x.1 (x.1 o) k i a = zm_below true m.1 (m.1 o) k i a := by
  intro k
  induction k with
  | zero => exact fun _ _ _ => rfl
  | succ k ih =>
    intro i a hi
    simp only [zs_below, zm_below]
    rw [zp_at h (by omega)]
    have hc : (zs_t x.1 i = true ∧ ¬ x.1 o ≤ x.1 i) ↔ (zs_t x.1 i = true ∧ ¬ m.1 o ≤ m.1 i) := by
      rcases h.1 o ho with ⟨q, -⟩ | ⟨n, q, hn, -, h1, h2, -⟩
      · simp [zs_t, q] at ht
      · rcases h.1 i (by omega) with ⟨q, -⟩ | ⟨n2, q2, hn2, -, h3, h4, -⟩
        · have e : zs_t x.1 i = false := by simp [zs_t, q]
          simp [e]
        · rw [h1, h2, h3, h4, nI_leI (by omega) (by omega), nI_leI (by omega) (by omega)]
          constructor <;> rintro ⟨q1, q2⟩ <;> exact ⟨q1, by omega⟩
    by_cases hh : zs_t x.1 i = true ∧ ¬ x.1 o ≤ x.1 i
    · rw [if_pos hh, if_pos (hc.mp hh)]
      exact ih (i + 1) _ (by omega)
    · rw [if_neg hh, if_neg (fun q => hh (hc.mpr q)), Int32.add_zero]
      exact ih (i + 1) _ (by omega)
theorem zp_rank {x m : zs_C} (h : zp_1 x m) (c : Int32) : ∀ k i : Nat, i + k = 24 → zs_rank x.1 c k i = zm_rank true m.1 c k i := by
  intro k
  induction k with
  | zero => exact fun _ _ => rfl
  | succ k ih =>
    intro i hi
    simp only [zs_rank, zm_rank]
    rw [zp_at h (by omega)]
    by_cases ht : zs_t x.1 i = true
    · rw [zp_below h (by omega) ht 24 0 0 rfl, ih (i + 1) (by omega)]
    · rw [if_neg (fun q => ht q.1), if_neg (fun q => ht q.1)]
      exact ih (i + 1) (by omega)
theorem zm_rank_f {nm : zs_F} {c : Int32} : ∀ k i : Nat, zm_rank false nm c k i = -1 := by
  intro k
  induction k with
  | zero => exact fun _ => rfl
  | succ k ih =>
    intro i
    simp only [zm_rank]
    rw [if_neg (fun q => by have z := q.1; simp [zm_at] at z)]
    exact ih (i + 1)
theorem zp_list {x m : zs_X} (h : zp_R x m) (c : Int32) : zs_list x c = zm_list m c := by
  obtain ⟨up, cx, ox⟩ := x
  obtain ⟨up2, cm, om⟩ := m
  obtain ⟨rfl, h1, -⟩ := h
  simp only [zs_list, zm_list]
  cases up with
  | false =>
    rw [zm_rank_f]
    rfl
  | true =>
    rw [if_pos rfl]
    exact zp_rank h1 c 24 0 rfl
theorem zp_cnt {x m : zs_C} (h : zp_1 x m) : ∀ (k i : Nat) (a : Int32), i + k = 24 → zs_cnt x.1 k i a = zm_cnt true m.1 k i a := by
  intro k
  induction k with
  | zero => exact fun _ _ _ => rfl
  | succ k ih =>
    intro i a hi
    simp only [zs_cnt, zm_cnt]
    rw [zp_at h (by omega)]
    by_cases ht : zs_t x.1 i = true
    · rw [if_pos ht, if_pos ht]
      exact ih (i + 1) _ (by omega)
    · rw [if_neg ht, if_neg ht, Int32.add_zero]
      exact ih (i + 1) _ (by omega)
theorem zm_cnt_f {nm : zs_F} : ∀ (k i : Nat) (a : Int32), zm_cnt false nm k i a = a := by
  intro k
  induction k with
  | zero => exact fun _ _ => rfl
  | succ k ih =>
    intro i a
    simp only [zm_cnt]
    rw [if_neg (fun q => by simp [zm_at] at q), Int32.add_zero]
    exact ih (i + 1) a
theorem zp_objects {x m : zs_X} (h : zp_R x m) : zs_objects x = zm_objects m := by
  obtain ⟨up, cx, ox⟩ := x
  obtain ⟨up2, cm, om⟩ := m
  obtain ⟨rfl, h1, -⟩ := h
  simp only [zs_objects, zm_objects]
  cases up with
  | false =>
    rw [zm_cnt_f]
    rfl
  | true =>
    rw [if_pos rfl]
    exact zp_cnt h1 24 0 0 rfl
theorem zp_left {x m : zs_C} (h : zp_1 x m) (c : Int32) : ∀ (k i : Nat) (a : Int32), i + k = 24 → c - zs_sum x.2.2.1 k i a = zm_left m.1 m.2.2.1 k i (c - a) := by
  intro k
  induction k with
  | zero => exact fun _ _ _ => rfl
  | succ k ih =>
    intro i a hi
    simp only [zs_sum, zm_left]
    have e : (if m.1 i ≤ 0 then (0 : Int32) else m.2.2.1 i) = x.2.2.1 i := by
      rcases h.1 i (by omega) with ⟨-, h2, h3⟩ | ⟨n, q, hn, -, h1, h2, -, h3, h4, -⟩
      · rw [h2, h3, if_pos (by decide)]
      · rw [h2, h3, h4, if_neg (nI_nle (by omega) (by omega))]
    rw [e, ih (i + 1) _ (by omega), Int32.sub_sub]
theorem zp_left0 {x m : zs_C} (h : zp_1 x m) : 200 - zs_sum x.2.2.1 24 0 0 = zm_left m.1 m.2.2.1 24 0 200 := by
  rw [zp_left h 200 24 0 0 rfl, Int32.sub_zero]
theorem zp_room {x m : zs_X} (h : zp_R x m) : zs_room x = zm_room m := by
  obtain ⟨up, cx, ox⟩ := x
  obtain ⟨up2, cm, om⟩ := m
  obtain ⟨rfl, h1, -⟩ := h
  simp only [zs_room, zm_room]
  rw [zp_left0 h1]
/-- an object that is there, on both sides -/
theorem zp_o {x m : zs_C} (h : zp_1 x m) {o : Nat} (ho : o < 24) (ht : zs_t x.1 o = true) : ∃ n q : Nat, n ≤ 9999 ∧ q ≤ 64 ∧ x.1 o = nI n ∧ m.1 o = nI (n + 1) ∧ x.2.1 o = m.2.1 o ∧ x.2.2.1 o = nI q ∧ m.2.2.1 o = nI q ∧ x.2.2.2.1 o = m.2.2.2.1 o ∧ ∀ i : Nat, i < q → x.2.2.2.2 (o * 64 + i) = m.2.2.2.2 (o * 64 + i) := by
  rcases h.1 o ho with ⟨h1, -⟩ | h1
  · simp [zs_t, h1] at ht
  · exact h1
theorem zp_object {x m : zs_X} (h : zp_R x m) (o w : Int32) : zs_object x o w = zm_object m o w := by
  obtain ⟨up, cx, ox⟩ := x
  obtain ⟨up2, cm, om⟩ := m
  obtain ⟨rfl, h1, -⟩ := h
  simp only [zs_object, zm_object]
  rw [← zp_is h1]
  by_cases hi : zs_is up cx.1 o = true
  · rw [if_pos hi, if_pos hi]
    obtain ⟨j, hj, rfl, -, ht⟩ := zs_is_t hi
    obtain ⟨n, q, -, -, e1, e2, e3, e4, e5, e6, -⟩ := zp_o h1 hj ht
    rw [nI_clamp (by omega), e1, e2, e3, e4, e5, e6, nI_pred]
  · rw [if_neg hi, if_neg hi]
theorem zp_word {x m : zs_X} (h : zp_R x m) (o i : Int32) : zs_word x o i = zm_word m o i := by
  obtain ⟨up, cx, ox⟩ := x
  obtain ⟨up2, cm, om⟩ := m
  obtain ⟨rfl, h1, -⟩ := h
  simp only [zs_word, zm_word]
  rw [← zp_is h1]
  by_cases hi : zs_is up cx.1 o = true
  · obtain ⟨j, hj, rfl, -, ht⟩ := zs_is_t hi
    obtain ⟨n, q, -, hq, e1, e2, e3, e4, e5, e6, e7⟩ := zp_o h1 hj ht
    rw [nI_clamp (by omega), e4, e5]
    by_cases hc : ¬ i < 0 ∧ i < nI q
    · rw [if_pos ⟨hi, hc⟩, if_pos ⟨hi, hc⟩]
      obtain ⟨t, ht, rfl⟩ := nI_of hc.1
      have h3 := hc.2
      rw [nI_ltI ht (by omega)] at h3
      rw [nI_clamp (by omega)]
      exact e7 t h3
    · rw [if_neg (fun z => hc z.2), if_neg (fun z => hc z.2)]
  · rw [if_neg (fun z => hi z.1), if_neg (fun z => hi z.1)]
