/-! What a state of either side is: the power, the current contents, the contents at the latest sync. Contents: names, hints, lengths, opened, words (24 objects, rows of 64 words). -/
abbrev zs_F : Type := Nat → Int32
abbrev zs_C : Type := zs_F × zs_F × zs_F × zs_F × zs_F
abbrev zs_X : Type := Bool × zs_C × zs_C
def zs_b (b : Bool) : Int32 := if b = true then 1 else 0
theorem zs_b_t : zs_b true = 1 := rfl
theorem zs_b_f : zs_b false = 0 := rfl
theorem zs_b_0 {b : Bool} (h : zs_b b = 0) : b = false := by
  cases b
  · rfl
  · exact absurd h (by decide)
theorem zs_b_1 {b : Bool} (h : ¬ zs_b b = 0) : b = true := by
  cases b
  · exact absurd rfl h
  · rfl
theorem zs_b_n (b : Bool) : narrow .boolean (.int (zs_b b)) = .int (zs_b b) := by
  cases b <;> rfl
theorem zs_b_fit (b : Bool) : fits .boolean (.int (zs_b b)) = true := by
  cases b <;> rfl
theorem zs_inc (i : Nat) : nI i + Int32.ofInt 1 = nI (i + 1) := by
  rw [show Int32.ofInt 1 = 1 from by decide]
  exact nI_1 i
theorem zs_inc1 (x : Int32) : x + Int32.ofInt 1 = x + 1 := by
  rw [show Int32.ofInt 1 = 1 from by decide]
/-! the class's own methods, as functions -/
def zs_t (nm : zs_F) (j : Nat) : Bool := !decide (nm j = -1)
def zs_free (nm : zs_F) : Nat → Nat → Int32
  | 0, _ => -1
  | k + 1, i => if zs_t nm i = true then zs_free nm k (i + 1) else nI i
def zs_num (nm : zs_F) (x : Int32) : Nat → Nat → Int32
  | 0, _ => -1
  | k + 1, i => if nm i = x then nI i else zs_num nm x k (i + 1)
def zs_below (nm : zs_F) (x : Int32) : Nat → Nat → Int32 → Int32
  | 0, _, a => a
  | k + 1, i, a => zs_below nm x k (i + 1) (if zs_t nm i = true ∧ ¬ x ≤ nm i then a + 1 else a)
def zs_rank (nm : zs_F) (x : Int32) : Nat → Nat → Int32
  | 0, _ => -1
  | k + 1, i => if zs_t nm i = true ∧ zs_below nm (nm i) 24 0 0 = x then nI i else zs_rank nm x k (i + 1)
def zs_cnt (nm : zs_F) : Nat → Nat → Int32 → Int32
  | 0, _, a => a
  | k + 1, i, a => zs_cnt nm k (i + 1) (if zs_t nm i = true then a + 1 else a)
def zs_sum (ln : zs_F) : Nat → Nat → Int32 → Int32
  | 0, _, a => a
  | k + 1, i, a => zs_sum ln k (i + 1) (a + ln i)
def zs_row (wd : zs_F) (st : Nat) (fi : Int32) : Nat → zs_F
  | 0 => wd
  | i + 1 => upd (zs_row wd st fi i) (st + i) (fi + nI i)
def zs_cp (f g : zs_F) (i : Nat) : zs_F := fun j => if j < i then f j else g j
def zs_cz (f g : zs_F) (i : Nat) : zs_F := fun j => if j < i then vp_nar .boolean (f j) else g j
def zs_fl (f : zs_F) (x : Int32) (i : Nat) : zs_F := fun j => if j < i then x else f j
theorem zs_cp_0 (f g : zs_F) : zs_cp f g 0 = g := by
  funext j
  simp [zs_cp]
theorem zs_cz_0 (f g : zs_F) : zs_cz f g 0 = g := by
  funext j
  simp [zs_cz]
theorem zs_fl_0 (f : zs_F) (x : Int32) : zs_fl f x 0 = f := by
  funext j
  simp [zs_fl]
theorem zs_cp_s (f g : zs_F) (i : Nat) : upd (zs_cp f g i) i (f i) = zs_cp f g (i + 1) := by
  funext j
  simp only [upd, zs_cp]
  by_cases h : j = i
  · subst h
    simp
  · by_cases h2 : j < i
    · simp [h, h2, Nat.lt_succ_of_lt h2]
    · simp [h, h2, show ¬ j < i + 1 by omega]
theorem zs_cz_s (f g : zs_F) (i : Nat) : upd (zs_cz f g i) i (vp_nar .boolean (f i)) = zs_cz f g (i + 1) := by
  funext j
  simp only [upd, zs_cz]
  by_cases h : j = i
  · subst h
    simp
  · by_cases h2 : j < i
    · simp [h, h2, Nat.lt_succ_of_lt h2]
    · simp [h, h2, show ¬ j < i + 1 by omega]
theorem zs_fl_s (f : zs_F) (x : Int32) (i : Nat) : upd (zs_fl f x i) i x = zs_fl f x (i + 1) := by
  funext j
  simp only [upd, zs_fl]
  by_cases h : j = i
  · subst h
    simp
  · by_cases h2 : j < i
    · simp [h, h2, Nat.lt_succ_of_lt h2]
    · simp [h, h2, show ¬ j < i + 1 by omega]
def zs_is (up : Bool) (nm : zs_F) (n : Int32) : Bool := up && (!decide (n < 0) && (!decide (24 ≤ n) && zs_t nm n.toNatClampNeg))
def zs_nam (n : Int32) : Bool := !decide (n < 0) && !decide (9999 < n)
def zs_hin (n : Int32) : Bool := !decide (n < 0) && !decide (3 < n)
def zs_fr (nm : zs_F) (n : Int32) : Bool := zs_nam n && decide (zs_num nm n 24 0 = -1)
def zs_rm (ln : zs_F) (j : Nat) : Int32 := if 200 - zs_sum ln 24 0 0 < 64 - ln j then 200 - zs_sum ln 24 0 0 else 64 - ln j
def zs_create (u : zs_X) (n h : Int32) : Int32 × zs_X :=
  if (u.1 && (zs_fr u.2.1.1 n && zs_hin h)) = true then
    (if zs_free u.2.1.1 24 0 = -1 then (-1, u) else
      (zs_free u.2.1.1 24 0, u.1, (upd u.2.1.1 (zs_free u.2.1.1 24 0).toNatClampNeg n, upd u.2.1.2.1 (zs_free u.2.1.1 24 0).toNatClampNeg h, u.2.1.2.2.1, upd u.2.1.2.2.2.1 (zs_free u.2.1.1 24 0).toNatClampNeg (vp_nar .boolean 1), u.2.1.2.2.2.2), u.2.2))
  else (-1, u)
def zs_okr (u : zs_X) (o k : Int32) : Bool := zs_is u.1 u.2.1.1 o && (!decide (u.2.1.2.2.2.1 o.toNatClampNeg = 0) && (!decide (k < 1) && decide (k ≤ zs_rm u.2.1.2.2.1 o.toNatClampNeg)))
def zs_appendRow (u : zs_X) (o w k : Int32) : Int32 × zs_X :=
  if zs_okr u o k = true then
    (1, u.1, (u.2.1.1, u.2.1.2.1, upd u.2.1.2.2.1 o.toNatClampNeg (nI ((u.2.1.2.2.1 o.toNatClampNeg).toNatClampNeg + k.toNatClampNeg)), u.2.1.2.2.2.1, zs_row u.2.1.2.2.2.2 (o.toNatClampNeg * 64 + (u.2.1.2.2.1 o.toNatClampNeg).toNatClampNeg) w k.toNatClampNeg), u.2.2)
  else (0, u)
def zs_open (u : zs_X) (o b : Int32) : Int32 × zs_X :=
  if zs_is u.1 u.2.1.1 o = true then (1, u.1, (u.2.1.1, u.2.1.2.1, u.2.1.2.2.1, upd u.2.1.2.2.2.1 o.toNatClampNeg (vp_nar .boolean b), u.2.1.2.2.2.2), u.2.2) else (0, u)
def zs_remove (u : zs_X) (o : Int32) : Int32 × zs_X :=
  if zs_is u.1 u.2.1.1 o = true then (1, u.1, (upd u.2.1.1 o.toNatClampNeg (-1), u.2.1.2.1, upd u.2.1.2.2.1 o.toNatClampNeg 0, u.2.1.2.2.2.1, u.2.1.2.2.2.2), u.2.2) else (0, u)
def zs_rename (u : zs_X) (o n : Int32) : Int32 × zs_X :=
  if (zs_is u.1 u.2.1.1 o && zs_fr u.2.1.1 n) = true then (1, u.1, (upd u.2.1.1 o.toNatClampNeg n, u.2.1.2.1, u.2.1.2.2.1, u.2.1.2.2.2.1, u.2.1.2.2.2.2), u.2.2) else (0, u)
/-- s copied over d: the class copies the words by System.arraycopy -/
def zs_copy (s d : zs_C) : zs_C := (zs_cp s.1 d.1 24, zs_cp s.2.1 d.2.1 24, zs_cp s.2.2.1 d.2.2.1 24, zs_cz s.2.2.2.1 d.2.2.2.1 24, va_cpy s.2.2.2.2 d.2.2.2.2 0 0 1536)
def zs_sync (u : zs_X) : Int32 × zs_X := if u.1 = true then (1, u.1, u.2.1, zs_copy u.2.1 u.2.2) else (0, u)
def zs_cut (u : zs_X) : Int32 × zs_X := if u.1 = true then (1, false, u.2.1, u.2.2) else (0, u)
def zs_mount (u : zs_X) : Int32 × zs_X := if u.1 = true then (0, u) else (1, true, zs_copy u.2.2 u.2.1, u.2.2)
def zs_objects (u : zs_X) : Int32 := if u.1 = true then zs_cnt u.2.1.1 24 0 0 else 0
def zs_room (u : zs_X) : Int32 := if u.1 = true then 200 - zs_sum u.2.1.2.2.1 24 0 0 else 0
def zs_object (u : zs_X) (o w : Int32) : Int32 :=
  if zs_is u.1 u.2.1.1 o = true then (if w = 0 then u.2.1.1 o.toNatClampNeg else if w = 1 then u.2.1.2.1 o.toNatClampNeg else if w = 2 then u.2.1.2.2.1 o.toNatClampNeg else if w = 3 then (if u.2.1.2.2.2.1 o.toNatClampNeg = 0 then 0 else 1) else -1) else -1
def zs_word (u : zs_X) (o i : Int32) : Int32 :=
  if zs_is u.1 u.2.1.1 o = true ∧ ¬ i < 0 ∧ i < u.2.1.2.2.1 o.toNatClampNeg then u.2.1.2.2.2.2 (o.toNatClampNeg * 64 + i.toNatClampNeg) else 0
def zs_find (u : zs_X) (n : Int32) : Int32 := if (u.1 && zs_nam n) = true then zs_num u.2.1.1 n 24 0 else -1
def zs_list (u : zs_X) (k : Int32) : Int32 := if u.1 = true then zs_rank u.2.1.1 k 24 0 else -1
/-! the reference's methods, as functions -/
def zm_is (up : Bool) (nm : zs_F) (n : Int32) : Bool := up && (!decide (n < 0) && (!decide (24 ≤ n) && !decide (nm n.toNatClampNeg ≤ 0)))
def zm_at (up : Bool) (nm : zs_F) (i : Nat) : Bool := up && !decide (nm i ≤ 0)
def zm_num (up : Bool) (nm : zs_F) (x : Int32) : Nat → Nat → Int32 → Int32
  | 0, _, a => a
  | k + 1, i, a => zm_num up nm x k (i + 1) (if zs_nam x = true ∧ zm_at up nm i = true ∧ nm i = x + 1 then nI i else a)
def zm_left (nm ln : zs_F) : Nat → Nat → Int32 → Int32
  | 0, _, a => a
  | k + 1, i, a => zm_left nm ln k (i + 1) (a - (if nm i ≤ 0 then 0 else ln i))
/-- the place of the first free number, 24 if there is none -/
def zm_free (nm : zs_F) : Nat → Nat → Nat
  | 0, i => i
  | k + 1, i => if nm i ≤ 0 then i else zm_free nm k (i + 1)
def zm_cnt (up : Bool) (nm : zs_F) : Nat → Nat → Int32 → Int32
  | 0, _, a => a
  | k + 1, i, a => zm_cnt up nm k (i + 1) (a + (if zm_at up nm i = true then 1 else 0))
def zm_below (up : Bool) (nm : zs_F) (x : Int32) : Nat → Nat → Int32 → Int32
  | 0, _, a => a
  | k + 1, i, a => zm_below up nm x k (i + 1) (a + (if zm_at up nm i = true ∧ ¬ x ≤ nm i then 1 else 0))
def zm_rank (up : Bool) (nm : zs_F) (x : Int32) : Nat → Nat → Int32
  | 0, _ => -1
  | k + 1, i => if zm_at up nm i = true ∧ zm_below up nm (nm i) 24 0 0 = x then nI i else zm_rank up nm x k (i + 1)
def zm_create (u : zs_X) (n h : Int32) : Int32 × zs_X :=
  if u.1 = true ∧ zs_nam n = true ∧ ¬ h < 0 ∧ ¬ 3 < h ∧ zm_num u.1 u.2.1.1 n 24 0 (-1) = -1 then
    (if zm_free u.2.1.1 24 0 = 24 then (-1, u) else
      (nI (zm_free u.2.1.1 24 0), u.1, (upd u.2.1.1 (zm_free u.2.1.1 24 0) (n + 1), upd u.2.1.2.1 (zm_free u.2.1.1 24 0) h, upd u.2.1.2.2.1 (zm_free u.2.1.1 24 0) 0, upd u.2.1.2.2.2.1 (zm_free u.2.1.1 24 0) (vp_nar .boolean 1), u.2.1.2.2.2.2), u.2.2))
  else (-1, u)
def zm_okr (u : zs_X) (o k : Int32) : Bool := zm_is u.1 u.2.1.1 o && (!decide (u.2.1.2.2.2.1 o.toNatClampNeg = 0) && (!decide (k < 1) && (!decide (64 - u.2.1.2.2.1 o.toNatClampNeg < k) && decide (k ≤ zm_left u.2.1.1 u.2.1.2.2.1 24 0 200))))
def zm_appendRow (u : zs_X) (o w k : Int32) : Int32 × zs_X :=
  if zm_okr u o k = true then
    (1, u.1, (u.2.1.1, u.2.1.2.1, upd u.2.1.2.2.1 o.toNatClampNeg (nI ((u.2.1.2.2.1 o.toNatClampNeg).toNatClampNeg + k.toNatClampNeg)), u.2.1.2.2.2.1, zs_row u.2.1.2.2.2.2 (o.toNatClampNeg * 64 + (u.2.1.2.2.1 o.toNatClampNeg).toNatClampNeg) w k.toNatClampNeg), u.2.2)
  else (0, u)
def zm_open (u : zs_X) (o b : Int32) : Int32 × zs_X :=
  if zm_is u.1 u.2.1.1 o = true then (1, u.1, (u.2.1.1, u.2.1.2.1, u.2.1.2.2.1, upd u.2.1.2.2.2.1 o.toNatClampNeg (vp_nar .boolean b), u.2.1.2.2.2.2), u.2.2) else (0, u)
def zm_remove (u : zs_X) (o : Int32) : Int32 × zs_X :=
  if zm_is u.1 u.2.1.1 o = true then (1, u.1, (upd u.2.1.1 o.toNatClampNeg 0, u.2.1.2.1, u.2.1.2.2.1, u.2.1.2.2.2.1, u.2.1.2.2.2.2), u.2.2) else (0, u)
def zm_rename (u : zs_X) (o n : Int32) : Int32 × zs_X :=
  if zm_is u.1 u.2.1.1 o = true ∧ zs_nam n = true ∧ zm_num u.1 u.2.1.1 n 24 0 (-1) = -1 then (1, u.1, (upd u.2.1.1 o.toNatClampNeg (n + 1), u.2.1.2.1, u.2.1.2.2.1, u.2.1.2.2.2.1, u.2.1.2.2.2.2), u.2.2) else (0, u)
def zm_copy (s d : zs_C) : zs_C := (zs_cp s.1 d.1 24, zs_cp s.2.1 d.2.1 24, zs_cp s.2.2.1 d.2.2.1 24, zs_cz s.2.2.2.1 d.2.2.2.1 24, zs_cp s.2.2.2.2 d.2.2.2.2 1536)
def zm_sync (u : zs_X) : Int32 × zs_X := if u.1 = true then (1, u.1, u.2.1, zm_copy u.2.1 u.2.2) else (0, u)
def zm_cut (u : zs_X) : Int32 × zs_X := (zs_b u.1, false, u.2.1, u.2.2)
def zm_mount (u : zs_X) : Int32 × zs_X := if u.1 = true then (0, u) else (1, true, zm_copy u.2.2 u.2.1, u.2.2)
def zm_objects (u : zs_X) : Int32 := zm_cnt u.1 u.2.1.1 24 0 0
def zm_room (u : zs_X) : Int32 := if u.1 = true then zm_left u.2.1.1 u.2.1.2.2.1 24 0 200 else 0
def zm_object (u : zs_X) (o w : Int32) : Int32 :=
  if zm_is u.1 u.2.1.1 o = true then (if w = 0 then u.2.1.1 o.toNatClampNeg - 1 else if w = 1 then u.2.1.2.1 o.toNatClampNeg else if w = 2 then u.2.1.2.2.1 o.toNatClampNeg else if w = 3 then (if u.2.1.2.2.2.1 o.toNatClampNeg = 0 then 0 else 1) else -1) else -1
def zm_word (u : zs_X) (o i : Int32) : Int32 :=
  if zm_is u.1 u.2.1.1 o = true ∧ ¬ i < 0 ∧ i < u.2.1.2.2.1 o.toNatClampNeg then u.2.1.2.2.2.2 (o.toNatClampNeg * 64 + i.toNatClampNeg) else 0
def zm_find (u : zs_X) (n : Int32) : Int32 := zm_num u.1 u.2.1.1 n 24 0 (-1)
def zm_list (u : zs_X) (k : Int32) : Int32 := zm_rank u.1 u.2.1.1 k 24 0
/-- the lengths that a row of words can have, where the object is there -/
def zs_ok (u : zs_X) : Prop := ∀ j, j < 24 → ∃ q : Nat, q ≤ 64 ∧ u.2.1.2.2.1 j = nI q
def zm_ok (u : zs_X) : Prop := ∀ j, j < 24 → ¬ u.2.1.1 j ≤ 0 → ∃ q : Nat, q ≤ 64 ∧ u.2.1.2.2.1 j = nI q
theorem zs_ix {n : Int32} (h1 : ¬ n < 0) (h2 : ¬ 24 ≤ n) : ∃ j : Nat, j < 24 ∧ n = nI j := by
  rcases pk_ix n (n := 24) (by decide) with h | h | h
  · exact absurd h h1
  · exact absurd h h2
  · exact h
theorem zs_inc4 (i : Nat) : nI i + Int32.ofInt 4 = nI (i + 4) := by
  rw [show Int32.ofInt 4 = nI 4 from by decide]
  exact nI_add i 4
theorem zs_is_t {up : Bool} {nm : zs_F} {o : Int32} (h : zs_is up nm o = true) : ∃ j : Nat, j < 24 ∧ o = nI j ∧ up = true ∧ zs_t nm j = true := by
  simp only [zs_is, Bool.and_eq_true, Bool.not_eq_true', decide_eq_false_iff_not] at h
  obtain ⟨h1, h2, h3, h4⟩ := h
  obtain ⟨j, hj, rfl⟩ := zs_ix h2 h3
  rw [nI_clamp (by omega)] at h4
  exact ⟨j, hj, rfl, h1, h4⟩
theorem zm_is_t {up : Bool} {nm : zs_F} {o : Int32} (h : zm_is up nm o = true) : ∃ j : Nat, j < 24 ∧ o = nI j ∧ up = true ∧ ¬ nm j ≤ 0 := by
  simp only [zm_is, Bool.and_eq_true, Bool.not_eq_true', decide_eq_false_iff_not] at h
  obtain ⟨h1, h2, h3, h4⟩ := h
  obtain ⟨j, hj, rfl⟩ := zs_ix h2 h3
  rw [nI_clamp (by omega)] at h4
  exact ⟨j, hj, rfl, h1, h4⟩
theorem zm_is_at {up : Bool} {nm : zs_F} {i : Nat} (hi : i < 24) : zm_is up nm (nI i) = zm_at up nm i := by
  have h1 : ¬ nI i < 0 := nI_pos (by omega)
  have h2 : ¬ (24 : Int32) ≤ nI i := nI_ge (a := i) (b := 24) hi (by decide)
  simp only [zm_is, zm_at]
  rw [nI_clamp (by omega)]
  simp [h1, h2]
theorem zs_is_at {up : Bool} {nm : zs_F} {i : Nat} (hi : i < 24) : zs_is up nm (nI i) = (up && zs_t nm i) := by
  have h1 : ¬ nI i < 0 := nI_pos (by omega)
  have h2 : ¬ (24 : Int32) ≤ nI i := nI_ge (a := i) (b := 24) hi (by decide)
  simp only [zs_is]
  rw [nI_clamp (by omega)]
  simp [h1, h2]
theorem zs_nm1 {n : Nat} (h : n < 2 ^ 31) : ¬ nI n = -1 := by
  intro q
  have h1 := congrArg Int32.toInt q
  rw [nI_toInt h] at h1
  have h2 : (-1 : Int32).toInt = -1 := by decide
  omega
theorem zs_free_g (nm : zs_F) : ∀ k i : Nat, (zs_free nm k i = -1 ∧ ∀ t, i ≤ t → t < i + k → zs_t nm t = true) ∨ ∃ j : Nat, i ≤ j ∧ j < i + k ∧ zs_free nm k i = nI j ∧ zs_t nm j = false := by
  intro k
  induction k with
  | zero => exact fun i => Or.inl ⟨rfl, fun t h1 h2 => by omega⟩
  | succ k ih =>
    intro i
    by_cases h : zs_t nm i = true
    · rcases ih (i + 1) with ⟨h1, h2⟩ | ⟨j, h1, h2, h3, h4⟩
      · refine Or.inl ⟨by simp only [zs_free]; rw [if_pos h]; exact h1, fun t ht1 ht2 => ?_⟩
        by_cases ht : t = i
        · rw [ht]; exact h
        · exact h2 t (by omega) (by omega)
      · exact Or.inr ⟨j, by omega, by omega, by simp only [zs_free]; rw [if_pos h]; exact h3, h4⟩
    · exact Or.inr ⟨i, Nat.le_refl _, by omega, by simp only [zs_free]; rw [if_neg h], by simpa using h⟩
theorem zs_free_in {nm : zs_F} (h : ¬ zs_free nm 24 0 = -1) : ∃ j : Nat, j < 24 ∧ zs_free nm 24 0 = nI j := by
  rcases zs_free_g nm 24 0 with ⟨h1, -⟩ | ⟨j, -, h2, h3, -⟩
  · exact absurd h1 h
  · exact ⟨j, by omega, h3⟩
theorem zs_fit2 {ln : zs_F} {j q : Nat} {k : Int32} (hq : ln j = nI q) (h6 : q ≤ 64) (h1 : ¬ k < 1) (h2 : ¬ 64 - ln j < k) : ∃ t : Nat, q + t ≤ 64 ∧ k = nI t := by
  have h3 : k ≤ 64 - ln j := Int32.not_lt.mp h2
  rw [hq, show (64 : Int32) = nI 64 from rfl, pk_sub h6] at h3
  obtain ⟨t, ht, rfl⟩ := nI_of (x := k) (fun h => h1 (Int32.lt_trans h (by decide)))
  rw [nI_leI ht (by omega)] at h3
  exact ⟨t, by omega, rfl⟩
theorem zs_rm_le (ln : zs_F) (j : Nat) (k : Int32) : k ≤ zs_rm ln j ↔ k ≤ 64 - ln j ∧ k ≤ 200 - zs_sum ln 24 0 0 := by
  unfold zs_rm
  split
  · rename_i h
    exact ⟨fun q => ⟨Int32.le_trans q (Int32.le_of_lt h), q⟩, fun q => q.2⟩
  · rename_i h
    exact ⟨fun q => ⟨q, Int32.le_trans q (Int32.not_lt.mp h)⟩, fun q => q.1⟩
theorem zs_fit {ln : zs_F} {j q : Nat} {k : Int32} (hq : ln j = nI q) (h6 : q ≤ 64) (h1 : ¬ k < 1) (h2 : k ≤ zs_rm ln j) : ∃ t : Nat, q + t ≤ 64 ∧ k = nI t := zs_fit2 hq h6 h1 (Int32.not_lt.mpr ((zs_rm_le ln j k).mp h2).1)
theorem zs_sw4 {w : Int32} (c0 : ¬ w = 0) (c1 : ¬ w = 1) (c2 : ¬ w = 2) (c3 : ¬ w = 3) : w.toInt < 0 ∨ 3 < w.toInt := by
  have e : ∀ n : Int32, ¬ w = n → ¬ w.toInt = n.toInt := fun n h q => h (Int32.toInt_inj.mp q)
  have e0 := e 0 c0
  have e1 := e 1 c1
  have e2 := e 2 c2
  have e3 := e 3 c3
  rw [show (0 : Int32).toInt = 0 from rfl] at e0
  rw [show (1 : Int32).toInt = 1 from rfl] at e1
  rw [show (2 : Int32).toInt = 2 from rfl] at e2
  rw [show (3 : Int32).toInt = 3 from rfl] at e3
  omega
theorem zs_nge {x y : Int32} (h : y ≤ x) (q : x < y) : False := Int32.not_lt.mpr h q
theorem zs_lt {x y : Int32} (h : ¬ y ≤ x) : x < y := Int32.not_le.mp h
theorem zs_wix {i : Int32} {q : Nat} (h1 : ¬ i < 0) (h2 : i < nI q) (h6 : q ≤ 64) : ∃ t : Nat, t < 64 ∧ i = nI t := by
  obtain ⟨t, ht, rfl⟩ := nI_of h1
  rw [nI_ltI ht (by omega)] at h2
  exact ⟨t, by omega, rfl⟩
theorem zs_uu {f : zs_F} {j : Nat} {x y : Int32} : upd (upd f j x) j y = upd f j y := by
  funext t
  simp only [upd]
  by_cases h : t = j <;> simp [h]
theorem zs_us0 {f : zs_F} {j q : Nat} (h : f j = nI q) : upd f j (nI (q + 0)) = f := by
  funext t
  simp only [upd]
  by_cases ht : t = j
  · rw [if_pos ht, ht, h, Nat.add_zero]
  · rw [if_neg ht]
theorem zs_cut_n (u : zs_X) : narrow .boolean (.int (zs_cut u).1) = .int (zs_cut u).1 := by
  simp only [zs_cut]
  by_cases h : u.1 = true
  · rw [if_pos h]; exact narrow_b1
  · rw [if_neg h]; exact narrow_b0
theorem zm_cut_n (u : zs_X) : narrow .boolean (.int (zm_cut u).1) = .int (zm_cut u).1 := zs_b_n u.1
theorem zs_appendRow_n (u : zs_X) (o w k : Int32) : narrow .boolean (.int (zs_appendRow u o w k).1) = .int (zs_appendRow u o w k).1 := by
  simp only [zs_appendRow]
  by_cases h : zs_okr u o k = true
  · rw [if_pos h]; exact narrow_b1
  · rw [if_neg h]; exact narrow_b0
theorem zm_appendRow_n (u : zs_X) (o w k : Int32) : narrow .boolean (.int (zm_appendRow u o w k).1) = .int (zm_appendRow u o w k).1 := by
  simp only [zm_appendRow]
  by_cases h : zm_okr u o k = true
  · rw [if_pos h]; exact narrow_b1
  · rw [if_neg h]; exact narrow_b0
