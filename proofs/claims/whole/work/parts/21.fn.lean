/-! THE REFERENCE, said once more as functions of its memory M -/
def bi (p : Prop) [Decidable p] : Int := if p then 1 else 0
theorem bi_01 {p : Prop} [Decidable p] : bi p = 0 ∨ bi p = 1 := by unfold bi; split <;> simp
theorem bi_iI {p : Prop} [Decidable p] : q_iI (bi p) := by unfold bi; split <;> exact ⟨by decide, by decide⟩
theorem bi_z {p : Prop} [Decidable p] : (bi p = 0) = ¬ p := by unfold bi; apply propext; split <;> simp_all
theorem bi_t {p : Prop} [Decidable p] (h : p) : bi p = 1 := if_pos h
theorem bi_f {p : Prop} [Decidable p] (h : ¬ p) : bi p = 0 := if_neg h
theorem q_cmp_c (x y : Int) : (x < y ∧ q_cmp x y = -1) ∨ (x = y ∧ q_cmp x y = 0) ∨ (y < x ∧ q_cmp x y = 1) := by
  unfold q_cmp
  by_cases h : x < y
  · exact Or.inl ⟨h, if_pos h⟩
  · rw [if_neg h]
    by_cases h2 : x = y
    · exact Or.inr (Or.inl ⟨h2, if_pos h2⟩)
    · exact Or.inr (Or.inr ⟨by omega, if_neg h2⟩)
theorem q_cmp_iI (x y : Int) : q_iI (q_cmp x y) := by have := q_cmp_c x y; exact ⟨by omega, by omega⟩
theorem q_cmp_le {x y : Int} : (q_cmp x y ≤ 0) = (x ≤ y) := by have := q_cmp_c x y; apply propext; constructor <;> intro <;> omega
theorem q_cmp_lt {x y : Int} : (q_cmp x y < 0) = (x < y) := by have := q_cmp_c x y; apply propext; constructor <;> intro <;> omega
theorem q_cmp_ge {x y : Int} : (0 ≤ q_cmp x y) = (y ≤ x) := by have := q_cmp_c x y; apply propext; constructor <;> intro <;> omega
theorem q_cmp_gt {x y : Int} : (0 < q_cmp x y) = (y < x) := by have := q_cmp_c x y; apply propext; constructor <;> intro <;> omega
theorem q_cmp_eq {x y : Int} : (q_cmp x y = 0) = (x = y) := by have := q_cmp_c x y; apply propext; constructor <;> intro <;> omega
/-- the ranges -/
def wlo (t : Int) : Int := if t = 19 then -1 else 0
def whs (i : Int) : Int := if i = 0 then 9999999999999 else if i = 1 then 2000 else if i = 9 then 1000 else if i = 10 then 1000000 else if i = 13 then 1000 else if i = 16 then 120 else if i = 27 then 10 else if i = 34 then 1500 else if i = 36 then 120 else if i ≤ 39 then 1000000 else 3
def whi (t i : Int) : Int := if t = 50 then whs i else if t = 2 then 2 else if t = 3 then 9999999999999 else if t = 4 then 3 else if t = 5 then 120 else if t = 6 then 1 else if t = 7 then 1000 else if t = 8 then 1000000 else if t = 11 then 50 else if t = 12 then 200
  else if t = 14 then 47 else if t = 15 then 2100 else if t = 17 then 15 else if t = 18 then 2000 else if t = 19 then 2 else if t = 20 then 3 else if t = 21 then 9999999999999 else if t = 22 then 1 else if t = 23 then 3 else if t = 24 then 2100 else if t = 25 then 2 else if t = 26 then 4100
  else if t = 28 then 15 else if t = 29 then 2000 else if t = 30 then 2000 else if t = 31 then 1500 else if t = 32 then 1 else if t = 33 then 1 else if t = 35 then 5 else if t = 40 then 19999 else 1
def WR (M : q_S) : Prop := ∀ t i, wlo t ≤ M t i ∧ M t i ≤ whi t i
theorem WR.up {M : q_S} (h : WR M) {t i x : Int} (hx : wlo t ≤ x ∧ x ≤ whi t i) : WR (q_us M t i x) := by
  intro t2 i2
  unfold q_us
  split
  next e => rw [e.1, e.2]; exact hx
  next => exact h t2 i2
theorem rg_2 {M : q_S} (h : WR M) : ∀ i, 0 ≤ i → i < ((48 : Nat) : Int) → 0 ≤ M 2 i ∧ M 2 i ≤ 2 := fun i _ _ => h 2 i
theorem rg_3 {M : q_S} (h : WR M) : ∀ i, 0 ≤ i → i < ((48 : Nat) : Int) → 0 ≤ M 3 i ∧ M 3 i ≤ 9999999999999 := fun i _ _ => h 3 i
theorem rg_4 {M : q_S} (h : WR M) : ∀ i, 0 ≤ i → i < ((48 : Nat) : Int) → 0 ≤ M 4 i ∧ M 4 i ≤ 3 := fun i _ _ => h 4 i
theorem rg_5 {M : q_S} (h : WR M) : ∀ i, 0 ≤ i → i < ((48 : Nat) : Int) → 0 ≤ M 5 i ∧ M 5 i ≤ 120 := fun i _ _ => h 5 i
theorem rg_6 {M : q_S} (h : WR M) : ∀ i, 0 ≤ i → i < ((48 : Nat) : Int) → 0 ≤ M 6 i ∧ M 6 i ≤ 1 := fun i _ _ => h 6 i
theorem rg_7 {M : q_S} (h : WR M) : ∀ i, 0 ≤ i → i < ((48 : Nat) : Int) → 0 ≤ M 7 i ∧ M 7 i ≤ 1000 := fun i _ _ => h 7 i
theorem rg_8 {M : q_S} (h : WR M) : ∀ i, 0 ≤ i → i < ((48 : Nat) : Int) → 0 ≤ M 8 i ∧ M 8 i ≤ 1000000 := fun i _ _ => h 8 i
theorem rg_11 {M : q_S} (h : WR M) : ∀ i, 0 ≤ i → i < ((3 : Nat) : Int) → 0 ≤ M 11 i ∧ M 11 i ≤ 50 := fun i _ _ => h 11 i
theorem rg_12 {M : q_S} (h : WR M) : ∀ i, 0 ≤ i → i < ((3 : Nat) : Int) → 0 ≤ M 12 i ∧ M 12 i ≤ 200 := fun i _ _ => h 12 i
theorem rg_14 {M : q_S} (h : WR M) : ∀ i, 0 ≤ i → i < ((4000 : Nat) : Int) → 0 ≤ M 14 i ∧ M 14 i ≤ 47 := fun i _ _ => h 14 i
theorem rg_15 {M : q_S} (h : WR M) : ∀ i, 0 ≤ i → i < ((4000 : Nat) : Int) → 0 ≤ M 15 i ∧ M 15 i ≤ 2100 := fun i _ _ => h 15 i
theorem rg_17 {M : q_S} (h : WR M) : ∀ i, 0 ≤ i → i < ((120 : Nat) : Int) → 0 ≤ M 17 i ∧ M 17 i ≤ 15 := fun i _ _ => h 17 i
theorem rg_18 {M : q_S} (h : WR M) : ∀ i, 0 ≤ i → i < ((120 : Nat) : Int) → 0 ≤ M 18 i ∧ M 18 i ≤ 2000 := fun i _ _ => h 18 i
theorem rg_20 {M : q_S} (h : WR M) : ∀ i, 0 ≤ i → i < ((120 : Nat) : Int) → 0 ≤ M 20 i ∧ M 20 i ≤ 3 := fun i _ _ => h 20 i
theorem rg_21 {M : q_S} (h : WR M) : ∀ i, 0 ≤ i → i < ((120 : Nat) : Int) → 0 ≤ M 21 i ∧ M 21 i ≤ 9999999999999 := fun i _ _ => h 21 i
theorem rg_22 {M : q_S} (h : WR M) : ∀ i, 0 ≤ i → i < ((120 : Nat) : Int) → 0 ≤ M 22 i ∧ M 22 i ≤ 1 := fun i _ _ => h 22 i
theorem rg_23 {M : q_S} (h : WR M) : ∀ i, 0 ≤ i → i < ((16 : Nat) : Int) → 0 ≤ M 23 i ∧ M 23 i ≤ 3 := fun i _ _ => h 23 i
theorem rg_24 {M : q_S} (h : WR M) : ∀ i, 0 ≤ i → i < ((16 : Nat) : Int) → 0 ≤ M 24 i ∧ M 24 i ≤ 2100 := fun i _ _ => h 24 i
theorem rg_25 {M : q_S} (h : WR M) : ∀ i, 0 ≤ i → i < ((12 : Nat) : Int) → 0 ≤ M 25 i ∧ M 25 i ≤ 2 := fun i _ _ => h 25 i
theorem rg_26 {M : q_S} (h : WR M) : ∀ i, 0 ≤ i → i < ((12 : Nat) : Int) → 0 ≤ M 26 i ∧ M 26 i ≤ 4100 := fun i _ _ => h 26 i
theorem rg_28 {M : q_S} (h : WR M) : ∀ i, 0 ≤ i → i < ((10 : Nat) : Int) → 0 ≤ M 28 i ∧ M 28 i ≤ 15 := fun i _ _ => h 28 i
theorem rg_29 {M : q_S} (h : WR M) : ∀ i, 0 ≤ i → i < ((10 : Nat) : Int) → 0 ≤ M 29 i ∧ M 29 i ≤ 2000 := fun i _ _ => h 29 i
theorem rg_30 {M : q_S} (h : WR M) : ∀ i, 0 ≤ i → i < ((10 : Nat) : Int) → 0 ≤ M 30 i ∧ M 30 i ≤ 2000 := fun i _ _ => h 30 i
theorem rg_31 {M : q_S} (h : WR M) : ∀ i, 0 ≤ i → i < ((20000 : Nat) : Int) → 0 ≤ M 31 i ∧ M 31 i ≤ 1500 := fun i _ _ => h 31 i
theorem rg_32 {M : q_S} (h : WR M) : ∀ i, 0 ≤ i → i < ((20000 : Nat) : Int) → 0 ≤ M 32 i ∧ M 32 i ≤ 1 := fun i _ _ => h 32 i
theorem rg_33 {M : q_S} (h : WR M) : ∀ i, 0 ≤ i → i < ((20000 : Nat) : Int) → 0 ≤ M 33 i ∧ M 33 i ≤ 1 := fun i _ _ => h 33 i
theorem rg_35 {M : q_S} (h : WR M) : ∀ i, 0 ≤ i → i < ((1500 : Nat) : Int) → 0 ≤ M 35 i ∧ M 35 i ≤ 5 := fun i _ _ => h 35 i
theorem rg_40 {M : q_S} (h : WR M) : ∀ i, 0 ≤ i → i < ((12 : Nat) : Int) → 0 ≤ M 40 i ∧ M 40 i ≤ 19999 := fun i _ _ => h 40 i
theorem rg_42 {M : q_S} (h : WR M) : ∀ i, 0 ≤ i → i < ((20000 : Nat) : Int) → 0 ≤ M 42 i ∧ M 42 i ≤ 1 := fun i _ _ => h 42 i
theorem rg_19 {M : q_S} (h : WR M) : ∀ i, 0 ≤ i → i < ((120 : Nat) : Int) → -1 ≤ M 19 i ∧ M 19 i ≤ 2 := fun i _ _ => h 19 i
theorem rs_0 {M : q_S} (h : WR M) : 0 ≤ M 50 0 ∧ M 50 0 ≤ 9999999999999 := h 50 0
theorem rs_1 {M : q_S} (h : WR M) : 0 ≤ M 50 1 ∧ M 50 1 ≤ 2000 := h 50 1
theorem rs_9 {M : q_S} (h : WR M) : 0 ≤ M 50 9 ∧ M 50 9 ≤ 1000 := h 50 9
theorem rs_10 {M : q_S} (h : WR M) : 0 ≤ M 50 10 ∧ M 50 10 ≤ 1000000 := h 50 10
theorem rs_13 {M : q_S} (h : WR M) : 0 ≤ M 50 13 ∧ M 50 13 ≤ 1000 := h 50 13
theorem rs_16 {M : q_S} (h : WR M) : 0 ≤ M 50 16 ∧ M 50 16 ≤ 120 := h 50 16
theorem rs_27 {M : q_S} (h : WR M) : 0 ≤ M 50 27 ∧ M 50 27 ≤ 10 := h 50 27
theorem rs_34 {M : q_S} (h : WR M) : 0 ≤ M 50 34 ∧ M 50 34 ≤ 1500 := h 50 34
theorem rs_36 {M : q_S} (h : WR M) : 0 ≤ M 50 36 ∧ M 50 36 ≤ 120 := h 50 36
theorem rs_37 {M : q_S} (h : WR M) : 0 ≤ M 50 37 ∧ M 50 37 ≤ 1000000 := h 50 37
theorem rs_38 {M : q_S} (h : WR M) : 0 ≤ M 50 38 ∧ M 50 38 ≤ 1000000 := h 50 38
theorem rs_39 {M : q_S} (h : WR M) : 0 ≤ M 50 39 ∧ M 50 39 ≤ 1000000 := h 50 39
theorem rs_41 {M : q_S} (h : WR M) : 0 ≤ M 50 41 ∧ M 50 41 ≤ 3 := h 50 41
def dcn : Nat → Int → Int
  | 0, _ => 0
  | k + 1, c => if 0 < c then dcn k (c / 10) + 1 else 0
theorem dcn_s (k : Nat) (c : Int) : dcn (k + 1) c = if 0 < c then dcn k (c / 10) + 1 else 0 := rfl
theorem dcn_0 (c : Int) : dcn 0 c = 0 := rfl
def mlen (c : Int) : Int := if 0 < c then dcn 20 c - 1 else 0
def fig (c p : Int) : Int := c / 10 ^ (mlen c - 1 - p).toNat % 10
theorem dcn_nn : ∀ (k : Nat) (c : Int), 0 ≤ dcn k c ∧ dcn k c ≤ k := by
  intro k
  induction k with
  | zero => intro c; exact ⟨Int.le_refl 0, Int.le_refl 0⟩
  | succ k ih =>
    intro c
    simp only [dcn]
    split
    · have := ih (c / 10); omega
    · omega
theorem dcn_pos {k : Nat} {c : Int} (h : 0 < c) : 1 ≤ dcn (k + 1) c := by
  simp only [dcn, if_pos h]
  have := dcn_nn k (c / 10); omega
theorem dcn_pos20 {c : Int} (h : 0 < c) : 1 ≤ dcn 20 c := dcn_pos (k := 19) h
theorem dcn_np20 {c : Int} (h : ¬ 0 < c) : dcn 20 c = 0 := by rw [dcn_s 19 c, if_neg h]
theorem mlen_nn (c : Int) : 0 ≤ mlen c ∧ mlen c ≤ 19 := by
  unfold mlen
  split
  next h => have := dcn_pos20 h; have := (dcn_nn 20 c).2; omega
  next => omega
/-- the versions of a file: the last one below n that is kept -/
def latF (M : q_S) (f : Int) : Nat → Int
  | 0 => -1
  | n + 1 => if M 17 n = f ∧ M 22 n = 0 then (n : Int) else latF M f n
def latestOf (M : q_S) (f : Int) : Int := latF M f (M 50 16).toNat
theorem latF_rg (M : q_S) (f : Int) : ∀ n : Nat, -1 ≤ latF M f n ∧ latF M f n < n := by
  intro n
  induction n with
  | zero => simp only [latF]; omega
  | succ n ih => simp only [latF]; split <;> omega
/-- as of a time -/
def asOfF (M : q_S) (f t : Int) : Nat → Int
  | 0 => -1
  | n + 1 => if M 17 n = f ∧ M 22 n = 0 ∧ M 18 n ≤ t then (n : Int) else asOfF M f t n
def asOfT (M : q_S) (f t : Int) : Int := asOfF M f t (M 50 16).toNat
theorem asOfF_rg (M : q_S) (f t : Int) : ∀ n : Nat, -1 ≤ asOfF M f t n ∧ asOfF M f t n < n := by
  intro n
  induction n with
  | zero => simp only [asOfF]; omega
  | succ n ih => simp only [asOfF]; split <;> omega
abbrev isInP (M : q_S) (v : Int) : Prop := v ≠ -1 ∧ 0 < M 21 v
def rightF (M : q_S) (f m : Int) : Int := if M 50 1 < M 26 (3 * f + m) then M 25 (3 * f + m) else 0
def lockF (M : q_S) (f : Int) : Int := if 0 < M 23 f ∧ M 50 1 < M 24 f then M 23 f - 1 else -1
abbrev isAsP (M : q_S) (p v : Int) : Prop := (v = -1 ∨ M 21 v = 0) ∧ M 2 p = 0 ∨ ¬ (v = -1 ∨ M 21 v = 0) ∧ (M 2 p ≠ 0 ∧ M 3 p = M 21 v ∧ M 4 p = M 20 v)
abbrev isOtherP (M : q_S) (p : Int) : Prop := ¬ isAsP M p (M 5 p - 1)
abbrev inMF (m f : Int) : Prop := (0 ≤ m ∧ m ≤ 2) ∧ 0 ≤ f ∧ f ≤ 15

abbrev thr (M : q_S) (z : Int) : q_S := q_us M 50 41 z
def notesF (M : q_S) (p : Int) : q_S := if M 8 p = 0 then q_us (q_us M 50 10 (M 50 10 + 1)) 8 p (M 50 10 + 1) else M
def editsF (M : q_S) (p : Int) : q_S := if M 11 (p / 16) = 0 then notesF M p else q_us (q_us (q_us M 14 (M 50 13) p) 15 (M 50 13) (M 50 1 + M 11 (p / 16))) 50 13 (M 50 13 + 1)
def leavesF (M : q_S) (p : Int) : q_S := q_us (q_us (q_us M 2 p 0) 3 p 0) 4 p 0
def asksF (M : q_S) (m f : Int) : Int × q_S := if inMF m f then (16 * m + f, thr M 0) else (-1, thr M 1)
def draftF (M : q_S) (n : Int) : Int × q_S :=
  if ¬ (0 ≤ n ∧ n ≤ 9) then (0, thr M 1) else if mlen (M 50 0) = 12 then (0, thr M 2) else
  (mlen ((if M 50 0 = 0 then 10 else 10 * M 50 0) + n), q_us (thr M 0) 50 0 ((if M 50 0 = 0 then 10 else 10 * M 50 0) + n))
def lateF (M : q_S) (m h : Int) : Int × q_S := if ¬ (0 ≤ m ∧ m ≤ 2) then (0, thr M 1) else if ¬ (0 ≤ h ∧ h ≤ 50) then (0, thr M 2) else (M 11 m, q_us (thr M 0) 11 m h)
def roomF (M : q_S) (m h : Int) : Int × q_S := if ¬ (0 ≤ m ∧ m ≤ 2) then (0, thr M 1) else if ¬ (0 ≤ h ∧ h ≤ 200) then (0, thr M 2) else (M 12 m, q_us (thr M 0) 12 m h)
def pinF (M : q_S) (m f b : Int) : Int × q_S := if ¬ inMF m f then (0, thr M 1) else (bi (M 6 (16 * m + f) = 1), q_us (thr M 0) 6 (16 * m + f) b)
def writeF (M : q_S) (m f : Int) : Int × q_S :=
  if ¬ inMF m f then (0, thr M 1) else if M 50 0 = 0 then (0, thr M 2) else
  (mlen (M 50 0), editsF (q_us (q_us (q_us (q_us (thr M 0) 4 (16 * m + f) (if M 2 (16 * m + f) = 0 then f % 4 else M 4 (16 * m + f))) 2 (16 * m + f) 2) 3 (16 * m + f) (M 50 0)) 50 0 0) (16 * m + f))
def moveF (M : q_S) (m f d : Int) : Int × q_S :=
  if ¬ (inMF m f ∧ 0 ≤ d ∧ d ≤ 3) then (0, thr M 1) else if ¬ M 2 (16 * m + f) = 2 then (0, thr M 2) else
  (M 4 (16 * m + f), editsF (q_us (thr M 0) 4 (16 * m + f) d) (16 * m + f))
def eraseF (M : q_S) (m f : Int) : Int × q_S :=
  if ¬ inMF m f then (0, thr M 1) else if M 2 (16 * m + f) = 0 then (0, thr M 2) else (M 2 (16 * m + f), editsF (leavesF (thr M 0) (16 * m + f)) (16 * m + f))
def lockMF (M : q_S) (m f h : Int) : Int × q_S :=
  if ¬ inMF m f then (0, thr M 1) else if ¬ (1 ≤ h ∧ h ≤ 48) then (0, thr M 2) else if ¬ lockF M f = -1 ∧ ¬ lockF M f = m then (0, thr M 3) else
  (M 50 1 + h, q_us (q_us (thr M 0) 23 f (m + 1)) 24 f (M 50 1 + h))
def breakF (M : q_S) (f : Int) : Int × q_S := if ¬ (0 ≤ f ∧ f ≤ 15) then (0, thr M 1) else if lockF M f = -1 then (0, thr M 2) else (lockF M f, q_us (thr M 0) 23 f 0)
def shareF (M : q_S) (d m r h : Int) : q_S :=
  if ¬ ((0 ≤ d ∧ d ≤ 3) ∧ 0 ≤ m ∧ m ≤ 2) then thr M 1 else if ¬ ((0 ≤ r ∧ r ≤ 2) ∧ 1 ≤ h ∧ h ≤ 2000) then thr M 2 else
  q_us (q_us (thr M 0) 25 (3 * d + m) r) 26 (3 * d + m) (M 50 1 + h)
def holdF (M : q_S) (f a b : Int) : Int × q_S :=
  if ¬ (0 ≤ f ∧ f ≤ 15) then (0, thr M 1) else if ¬ ((0 ≤ a ∧ a ≤ 2000) ∧ a ≤ b ∧ b ≤ 2000) then (0, thr M 2) else if M 50 27 = 10 then (0, thr M 3) else
  (M 50 27 + 1, q_us (q_us (q_us (q_us (thr M 0) 28 (M 50 27) f) 29 (M 50 27) a) 30 (M 50 27) b) 50 27 (M 50 27 + 1))
def releaseF (M : q_S) : Int × q_S := (M 50 27, q_us (thr M 0) 50 27 0)
theorem WR.thr {M : q_S} (h : WR M) {z : Int} (hz : 0 ≤ z ∧ z ≤ 3) : WR (thr M z) := h.up hz
theorem lockF_thr {M : q_S} {z f : Int} : lockF (q_us M 50 41 z) f = lockF M f := rfl
theorem rightF_thr {M : q_S} {z d m : Int} : rightF (q_us M 50 41 z) d m = rightF M d m := rfl
theorem latF_congr {A B : q_S} {f : Int} (h : ∀ k, A 17 k = B 17 k ∧ A 22 k = B 22 k) : ∀ n, latF A f n = latF B f n := by
  intro n
  induction n with
  | zero => rfl
  | succ n ih => simp only [latF, (h n).1, (h n).2, ih]
theorem asOfF_congr {A B : q_S} {f t : Int} (h : ∀ k, A 17 k = B 17 k ∧ A 22 k = B 22 k ∧ A 18 k = B 18 k) : ∀ n, asOfF A f t n = asOfF B f t n := by
  intro n
  induction n with
  | zero => rfl
  | succ n ih => simp only [asOfF, (h n).1, (h n).2.1, (h n).2.2, ih]
theorem latestOf_thr {M : q_S} {z f : Int} : latestOf (q_us M 50 41 z) f = latestOf M f := latF_congr (A := q_us M 50 41 z) (B := M) (fun _ => ⟨rfl, rfl⟩) (M 50 16).toNat
theorem asOfT_thr {M : q_S} {z f t : Int} : asOfT (q_us M 50 41 z) f t = asOfT M f t := asOfF_congr (A := q_us M 50 41 z) (B := M) (fun _ => ⟨rfl, rfl, rfl⟩) (M 50 16).toNat
theorem asOf_le_lat (M : q_S) (f t : Int) : ∀ n : Nat, asOfF M f t n ≤ latF M f n := by
  intro n
  induction n with
  | zero => exact Int.le_refl _
  | succ n ih =>
    simp only [asOfF, latF]
    have := asOfF_rg M f t n
    by_cases h : M 17 n = f ∧ M 22 n = 0
    · rw [if_pos h]
      split <;> omega
    · rw [if_neg h, if_neg (fun g => h ⟨g.1, g.2.1⟩)]; exact ih
def makesF (M : q_S) (f m c d : Int) : q_S := q_us (q_us (q_us (q_us (q_us (q_us (q_us M 17 (M 50 16) f) 18 (M 50 16) (M 50 1)) 19 (M 50 16) m) 21 (M 50 16) c) 20 (M 50 16) d) 22 (M 50 16) 0) 50 16 (M 50 16 + 1)
def becomesF (M : q_S) (p v : Int) : q_S := if isInP M v then q_us (q_us (q_us (q_us M 5 p (v + 1)) 2 p 1) 3 p (M 21 v)) 4 p (M 20 v) else leavesF (q_us M 5 p (v + 1)) p
abbrev mayP (M : q_S) (p lat : Int) : Prop := (lockF M (p % 16) = -1 ∨ lockF M (p % 16) = p / 16) ∧ (¬ isInP M lat ∨ rightF M (M 20 lat) (p / 16) = 2) ∧ (M 2 p = 0 ∨ rightF M (M 4 p) (p / 16) = 2)
def mrdF (M : q_S) (p lat : Int) : Int := if isInP M lat then M 20 lat else if ¬ M 2 p = 0 then M 4 p else -1
abbrev mayReadP (M : q_S) (p lat : Int) : Prop := mrdF M p lat = -1 ∨ 1 ≤ rightF M (mrdF M p lat) (p / 16)
abbrev canGoP (M : q_S) (p : Int) : Prop := M 2 p = 2 ∧ ¬ isOtherP M p ∧ M 6 p = 0
def pkF (M : q_S) : Int := if M 50 34 = 0 ∨ 5 ≤ M 35 (M 50 34 - 1) then M 50 34 + 1 else M 50 34
def comesF (M : q_S) (x : Int) : q_S :=
  if M 50 34 = 0 ∨ 5 ≤ M 35 (M 50 34 - 1) then q_us (q_us (q_us (q_us (q_us M 50 34 (M 50 34 + 1)) 31 x (M 50 34 + 1)) 35 (M 50 34 + 1 - 1) (M 35 (M 50 34 + 1 - 1) + 1)) 32 x 0) 50 39 (M 50 39 + 1)
  else q_us (q_us (q_us (q_us M 31 x (M 50 34)) 35 (M 50 34 - 1) (M 35 (M 50 34 - 1) + 1)) 32 x 0) 50 39 (M 50 39 + 1)
def restoresF (M : q_S) (f t : Int) : Int × q_S :=
  if asOfT M f t = -1 ∨ (M 21 (asOfT M f t) = M 21 (latestOf M f) ∧ (M 21 (asOfT M f t) = 0 ∨ M 20 (asOfT M f t) = M 20 (latestOf M f))) then (-1, M)
  else (M 50 16, makesF M f (-1) (M 21 (asOfT M f t)) (M 20 (asOfT M f t)))
def restoreF (M : q_S) (f t : Int) : Int × q_S :=
  if ¬ (0 ≤ f ∧ f ≤ 15) then (0, thr M 1) else if ¬ (0 ≤ t ∧ t ≤ M 50 1) then (0, thr M 2) else if 100 < M 50 16 then (0, thr M 3) else restoresF (thr M 0) f t
def timeF (M : q_S) : Int × q_S := (M 50 1, thr M 0)
def versionsF (M : q_S) : Int × q_S := (M 50 16, thr M 0)
def stateOfF (M : q_S) (m f : Int) : Int × q_S := if inMF m f then (M 2 (16 * m + f), thr M 0) else (0, thr M 1)
def folderOfF (M : q_S) (m f : Int) : Int × q_S := if inMF m f then (if M 2 (16 * m + f) = 0 then -1 else M 4 (16 * m + f), thr M 0) else (0, thr M 1)
def seenF (M : q_S) (m f : Int) : Int × q_S := if inMF m f then (M 5 (16 * m + f) - 1, thr M 0) else (0, thr M 1)
def isChangedF (M : q_S) (m f : Int) : Int × q_S := if inMF m f then (bi (isOtherP M (16 * m + f)), thr M 0) else (0, thr M 1)
def numberAtF (M : q_S) (m f k : Int) : Int × q_S :=
  if ¬ (0 ≤ k ∧ inMF m f) then (0, thr (if k < 0 then M else (asksF M m f).2) 1) else
  (if ¬ M 2 (16 * m + f) = 2 ∨ mlen (M 3 (16 * m + f)) ≤ k then -1 else fig (M 3 (16 * m + f)) k, thr (thr M 0) 0)
def versionF (M : q_S) (v w : Int) : Int × q_S :=
  if ¬ (0 ≤ v ∧ v ≤ M 50 16 - 1) then (0, thr M 1) else if ¬ (0 ≤ w ∧ w ≤ 5) then (0, thr M 2) else
  (if w = 0 then M 17 v else if w = 1 then M 18 v else if w = 2 then M 19 v else if w = 3 then (if M 21 v = 0 then -1 else M 20 v) else if w = 4 then mlen (M 21 v) else 1 - M 22 v, thr M 0)
def asOfMF (M : q_S) (f t : Int) : Int × q_S := if ¬ (0 ≤ f ∧ f ≤ 15) then (0, thr M 1) else if ¬ (0 ≤ t ∧ t ≤ M 50 1) then (0, thr M 2) else (asOfT M f t, thr M 0)
def lockOfF (M : q_S) (f : Int) : Int × q_S := if ¬ (0 ≤ f ∧ f ≤ 15) then (0, thr M 1) else (lockF M f, thr M 0)
def rightMF (M : q_S) (d m : Int) : Int × q_S := if ¬ ((0 ≤ d ∧ d ≤ 3) ∧ 0 ≤ m ∧ m ≤ 2) then (0, thr M 1) else (rightF M d m, thr M 0)
theorem lockF_rg {M : q_S} (h : WR M) (f : Int) : -1 ≤ lockF M f ∧ lockF M f ≤ 2 := by
  have : 0 ≤ M 23 f ∧ M 23 f ≤ 3 := h 23 f
  unfold lockF; split <;> omega
theorem rightF_rg {M : q_S} (h : WR M) (d m : Int) : 0 ≤ rightF M d m ∧ rightF M d m ≤ 2 := by
  have : 0 ≤ M 25 (3 * d + m) ∧ M 25 (3 * d + m) ≤ 2 := h 25 (3 * d + m)
  unfold rightF; split <;> omega
theorem latestOf_rg {M : q_S} (h : WR M) (f : Int) : -1 ≤ latestOf M f ∧ latestOf M f < M 50 16 := by
  have h1 := rs_16 h
  have h2 := latF_rg M f (M 50 16).toNat
  unfold latestOf; omega
theorem asOfT_rg {M : q_S} (h : WR M) (f t : Int) : -1 ≤ asOfT M f t ∧ asOfT M f t < M 50 16 ∧ asOfT M f t ≤ latestOf M f := by
  have h1 := rs_16 h
  have h2 := asOfF_rg M f t (M 50 16).toNat
  have h3 := asOf_le_lat M f t (M 50 16).toNat
  unfold asOfT latestOf; omega
theorem WR.leaves {M : q_S} (h : WR M) (p : Int) : WR (leavesF M p) := by
  unfold leavesF
  refine WR.up (WR.up (WR.up h ⟨(show (0 : Int) ≤ 0 by decide), (show (0 : Int) ≤ 2 by decide)⟩) ⟨(show (0 : Int) ≤ 0 by decide), (show (0 : Int) ≤ 9999999999999 by decide)⟩) ⟨(show (0 : Int) ≤ 0 by decide), (show (0 : Int) ≤ 3 by decide)⟩
theorem notesF_o {M : q_S} {p t j : Int} (h1 : t ≠ 8) (h2 : t ≠ 50) : notesF M p t j = M t j := by
  unfold notesF; split
  · simp [q_us, h1, h2]
  · rfl
theorem editsF_o {M : q_S} {p t j : Int} (h1 : t ≠ 8) (h2 : t ≠ 50) (h3 : t ≠ 14) (h4 : t ≠ 15) : editsF M p t j = M t j := by
  unfold editsF; split
  · exact notesF_o h1 h2
  · simp [q_us, h2, h3, h4]
theorem editsF_3 {M : q_S} {p j : Int} : editsF M p 3 j = M 3 j := editsF_o (by decide) (by decide) (by decide) (by decide)
def takF (M : q_S) (m : Int) : Nat → Int
  | 0 => 0
  | n + 1 => takF M m n + (if M 2 (16 * m + n) = 2 then mlen (M 3 (16 * m + n)) else 0)
def ntF (M : q_S) (m : Int) : Nat → Int
  | 0 => 0
  | n + 1 => ntF M m n + (if 0 < M 8 (16 * m + n) then 1 else 0)
def fnF (M : q_S) (m : Int) : Nat → Int
  | 0 => -1
  | n + 1 => if 0 < M 8 (16 * m + n) ∧ (fnF M m n = -1 ∨ M 8 (16 * m + n) < M 8 (fnF M m n)) then 16 * m + n else fnF M m n
def heldI (M : q_S) (v : Int) : Nat → Int
  | 0 => 0
  | n + 1 => if ¬ heldI M v n = 0 ∨ (M 28 n = M 17 v ∧ M 29 n ≤ M 18 v ∧ M 18 v ≤ M 30 n) then 1 else 0
def follI (M : q_S) (v : Int) : Nat → Int
  | 0 => 0
  | n + 1 => if ¬ follI M v n = 0 ∨ (M 17 (v + 1 + n) = M 17 v ∧ M 22 (v + 1 + n) = 0 ∧ M 18 (v + 1 + n) / 24 = M 18 v / 24) then 1 else 0
def loF (M : q_S) (m : Int) : Nat → Int × q_S
  | 0 => (0, M)
  | k + 1 => if (loF M m k).2 14 k / 16 = m ∧ 0 < (loF M m k).2 15 k then ((loF M m k).1 + 1, q_us (loF M m k).2 15 k 0) else loF M m k
def scF (M : q_S) (m : Int) : Nat → Int × q_S
  | 0 => (0, M)
  | k + 1 => if isOtherP (scF M m k).2 (16 * m + k) ∧ (scF M m k).2 8 (16 * m + k) = 0 then ((scF M m k).1 + 1, notesF (scF M m k).2 (16 * m + k)) else scF M m k
def daF (M : q_S) (p : Int) : Nat → Int × q_S
  | 0 => (0, M)
  | k + 1 => if (daF M p k).2 31 k = p + 1 ∧ (daF M p k).2 32 k = 0 then ((daF M p k).1 + 1, q_us (daF M p k).2 32 k 1) else daF M p k
def srF (M : q_S) : Nat → Int × q_S
  | 0 => (0, M)
  | k + 1 => if (srF M k).2 32 k = 1 ∧ (srF M k).2 33 k = 1 then ((srF M k).1 + 1, q_us (srF M k).2 32 k 0) else srF M k
def takenF (M : q_S) (m : Int) : Int × q_S := if ¬ (0 ≤ m ∧ m ≤ 2) then (0, thr M 1) else (takF (thr M 0) m 16, thr M 0)
def notedF (M : q_S) (m : Int) : Int × q_S := if ¬ (0 ≤ m ∧ m ≤ 2) then (0, thr M 1) else (ntF (thr M 0) m 16, thr M 0)
def loseF (M : q_S) (m : Int) : Int × q_S := if ¬ (0 ≤ m ∧ m ≤ 2) then (0, thr M 1) else loF (thr M 0) m (M 50 13).toNat
def scanF (M : q_S) (m : Int) : Int × q_S := if ¬ (0 ≤ m ∧ m ≤ 2) then (0, thr M 1) else scF (thr M 0) m 16
def damageF (M : q_S) (p : Int) : Int × q_S := if ¬ (0 ≤ p ∧ p ≤ M 50 34 - 1) then (0, thr M 1) else daF (thr M 0) p 20000
def scrubF (M : q_S) : Int × q_S := srF (thr M 0) 20000
theorem fnF_rg (M : q_S) (m : Int) : ∀ n : Nat, fnF M m n = -1 ∨ (16 * m ≤ fnF M m n ∧ fnF M m n < 16 * m + n) := by
  intro n
  induction n with
  | zero => exact Or.inl rfl
  | succ n ih => simp only [fnF]; split <;> omega
theorem takF_rg (M : q_S) (m : Int) : ∀ n : Nat, 0 ≤ takF M m n ∧ takF M m n ≤ 19 * n := by
  intro n
  induction n with
  | zero => exact ⟨Int.le_refl _, Int.le_refl _⟩
  | succ n ih => simp only [takF]; have := mlen_nn (M 3 (16 * m + n)); split <;> omega
theorem ntF_rg (M : q_S) (m : Int) : ∀ n : Nat, 0 ≤ ntF M m n ∧ ntF M m n ≤ n := by
  intro n
  induction n with
  | zero => exact ⟨Int.le_refl _, Int.le_refl _⟩
  | succ n ih => simp only [ntF]; split <;> omega
theorem WR.notes {M : q_S} (h : WR M) {p : Int} (hn : M 50 10 ≤ 999999) : WR (notesF M p) := by
  have := rs_10 h
  unfold notesF
  split
  · exact WR.up (WR.up h ⟨(show (0 : Int) ≤ M 50 10 + 1 by omega), (show M 50 10 + 1 ≤ (1000000 : Int) by omega)⟩) ⟨(show (0 : Int) ≤ M 50 10 + 1 by omega), (show M 50 10 + 1 ≤ (1000000 : Int) by omega)⟩
  · exact h
theorem notesF_41 {M : q_S} {p j : Int} (hj : j ≠ 10 := by decide) : notesF M p 50 j = M 50 j := by
  unfold notesF; split
  · simp [q_us, hj]
  · rfl
theorem notesF_10 (M : q_S) (p : Int) : M 50 10 ≤ notesF M p 50 10 ∧ notesF M p 50 10 ≤ M 50 10 + 1 := by
  unfold notesF; split
  · simp [q_us]; omega
  · omega
