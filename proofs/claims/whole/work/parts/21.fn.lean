/-! THE REFERENCE, said once more as functions of its memory M -/
def bi (p : Prop) [Decidable p] : Int := if p then 1 else 0
theorem bi_01 {p : Prop} [Decidable p] : bi p = 0 ∨ bi p = 1 := by unfold bi; split <;> simp
theorem bi_t {p : Prop} [Decidable p] (h : p) : bi p = 1 := if_pos h
theorem bi_f {p : Prop} [Decidable p] (h : ¬ p) : bi p = 0 := if_neg h
theorem q_cmp_c (x y : Int) : (x < y ∧ q_cmp x y = -1) ∨ (x = y ∧ q_cmp x y = 0) ∨ (y < x ∧ q_cmp x y = 1) := by
  unfold q_cmp
  by_cases h : x < y
  · exact Or.inl ⟨h, if_pos h⟩
  · rw [if_neg h]
    by_cases h2 : x = y
    · exact Or.inr (Or.inl ⟨h2, if_pos h2⟩)
    · exact Or.inr (Or.inr ⟨by omega, if_neg h2⟩)
theorem q_cmp_iI (x y : Int) : q_iI (q_cmp x y) := by have := q_cmp_c x y; exact ⟨by omega, by omega⟩
theorem q_cmp_le {x y : Int} : (q_cmp x y ≤ 0) = (x ≤ y) := by have := q_cmp_c x y; apply propext; constructor <;> intro <;> omega
theorem q_cmp_lt {x y : Int} : (q_cmp x y < 0) = (x < y) := by have := q_cmp_c x y; apply propext; constructor <;> intro <;> omega
theorem q_cmp_ge {x y : Int} : (0 ≤ q_cmp x y) = (y ≤ x) := by have := q_cmp_c x y; apply propext; constructor <;> intro <;> omega
theorem q_cmp_gt {x y : Int} : (0 < q_cmp x y) = (y < x) := by have := q_cmp_c x y; apply propext; constructor <;> intro <;> omega
theorem q_cmp_eq {x y : Int} : (q_cmp x y = 0) = (x = y) := by have := q_cmp_c x y; apply propext; constructor <;> intro <;> omega
/-- the ranges -/
def wlo (t : Int) : Int := if t = 19 then -1 else 0
def whs (i : Int) : Int := if i = 0 then 10000000000000 else if i = 1 then 2000 else if i = 9 then 1000 else if i = 10 then 1000000 else if i = 13 then 1000 else if i = 16 then 120 else if i = 27 then 10 else if i = 34 then 1500 else if i = 36 then 120 else if i ≤ 39 then 1000000 else 3
def whi (t i : Int) : Int := if t = 50 then whs i else if t = 2 then 2 else if t = 3 then 10000000000000 else if t = 4 then 3 else if t = 5 then 120 else if t = 6 then 1 else if t = 7 then 1000 else if t = 8 then 1000000 else if t = 11 then 50 else if t = 12 then 200
  else if t = 14 then 47 else if t = 15 then 2100 else if t = 17 then 15 else if t = 18 then 2000 else if t = 19 then 2 else if t = 20 then 3 else if t = 21 then 10000000000000 else if t = 22 then 1 else if t = 23 then 3 else if t = 24 then 2100 else if t = 25 then 2 else if t = 26 then 4100
  else if t = 28 then 15 else if t = 29 then 2000 else if t = 30 then 2000 else if t = 31 then 1500 else if t = 32 then 1 else if t = 33 then 1 else if t = 35 then 5 else if t = 40 then 19999 else 1
def WR (M : q_S) : Prop := ∀ t i, wlo t ≤ M t i ∧ M t i ≤ whi t i
theorem WR.up {M : q_S} (h : WR M) {t i x : Int} (hx : wlo t ≤ x ∧ x ≤ whi t i) : WR (q_us M t i x) := by
  intro t2 i2
  unfold q_us
  split
  next e => rw [e.1, e.2]; exact hx
  next => exact h t2 i2
theorem rg_2 {M : q_S} (h : WR M) : ∀ i, 0 ≤ i → i < ((48 : Nat) : Int) → 0 ≤ M 2 i ∧ M 2 i ≤ 2 := fun i _ _ => h 2 i
theorem rg_3 {M : q_S} (h : WR M) : ∀ i, 0 ≤ i → i < ((48 : Nat) : Int) → 0 ≤ M 3 i ∧ M 3 i ≤ 10000000000000 := fun i _ _ => h 3 i
theorem rg_4 {M : q_S} (h : WR M) : ∀ i, 0 ≤ i → i < ((48 : Nat) : Int) → 0 ≤ M 4 i ∧ M 4 i ≤ 3 := fun i _ _ => h 4 i
theorem rg_5 {M : q_S} (h : WR M) : ∀ i, 0 ≤ i → i < ((48 : Nat) : Int) → 0 ≤ M 5 i ∧ M 5 i ≤ 120 := fun i _ _ => h 5 i
theorem rg_6 {M : q_S} (h : WR M) : ∀ i, 0 ≤ i → i < ((48 : Nat) : Int) → 0 ≤ M 6 i ∧ M 6 i ≤ 1 := fun i _ _ => h 6 i
theorem rg_7 {M : q_S} (h : WR M) : ∀ i, 0 ≤ i → i < ((48 : Nat) : Int) → 0 ≤ M 7 i ∧ M 7 i ≤ 1000 := fun i _ _ => h 7 i
theorem rg_8 {M : q_S} (h : WR M) : ∀ i, 0 ≤ i → i < ((48 : Nat) : Int) → 0 ≤ M 8 i ∧ M 8 i ≤ 1000000 := fun i _ _ => h 8 i
theorem rg_11 {M : q_S} (h : WR M) : ∀ i, 0 ≤ i → i < ((3 : Nat) : Int) → 0 ≤ M 11 i ∧ M 11 i ≤ 50 := fun i _ _ => h 11 i
theorem rg_12 {M : q_S} (h : WR M) : ∀ i, 0 ≤ i → i < ((3 : Nat) : Int) → 0 ≤ M 12 i ∧ M 12 i ≤ 200 := fun i _ _ => h 12 i
theorem rg_14 {M : q_S} (h : WR M) : ∀ i, 0 ≤ i → i < ((4000 : Nat) : Int) → 0 ≤ M 14 i ∧ M 14 i ≤ 47 := fun i _ _ => h 14 i
theorem rg_15 {M : q_S} (h : WR M) : ∀ i, 0 ≤ i → i < ((4000 : Nat) : Int) → 0 ≤ M 15 i ∧ M 15 i ≤ 2100 := fun i _ _ => h 15 i
theorem rg_17 {M : q_S} (h : WR M) : ∀ i, 0 ≤ i → i < ((120 : Nat) : Int) → 0 ≤ M 17 i ∧ M 17 i ≤ 15 := fun i _ _ => h 17 i
theorem rg_18 {M : q_S} (h : WR M) : ∀ i, 0 ≤ i → i < ((120 : Nat) : Int) → 0 ≤ M 18 i ∧ M 18 i ≤ 2000 := fun i _ _ => h 18 i
theorem rg_20 {M : q_S} (h : WR M) : ∀ i, 0 ≤ i → i < ((120 : Nat) : Int) → 0 ≤ M 20 i ∧ M 20 i ≤ 3 := fun i _ _ => h 20 i
theorem rg_21 {M : q_S} (h : WR M) : ∀ i, 0 ≤ i → i < ((120 : Nat) : Int) → 0 ≤ M 21 i ∧ M 21 i ≤ 10000000000000 := fun i _ _ => h 21 i
theorem rg_22 {M : q_S} (h : WR M) : ∀ i, 0 ≤ i → i < ((120 : Nat) : Int) → 0 ≤ M 22 i ∧ M 22 i ≤ 1 := fun i _ _ => h 22 i
theorem rg_23 {M : q_S} (h : WR M) : ∀ i, 0 ≤ i → i < ((16 : Nat) : Int) → 0 ≤ M 23 i ∧ M 23 i ≤ 3 := fun i _ _ => h 23 i
theorem rg_24 {M : q_S} (h : WR M) : ∀ i, 0 ≤ i → i < ((16 : Nat) : Int) → 0 ≤ M 24 i ∧ M 24 i ≤ 2100 := fun i _ _ => h 24 i
theorem rg_25 {M : q_S} (h : WR M) : ∀ i, 0 ≤ i → i < ((12 : Nat) : Int) → 0 ≤ M 25 i ∧ M 25 i ≤ 2 := fun i _ _ => h 25 i
theorem rg_26 {M : q_S} (h : WR M) : ∀ i, 0 ≤ i → i < ((12 : Nat) : Int) → 0 ≤ M 26 i ∧ M 26 i ≤ 4100 := fun i _ _ => h 26 i
theorem rg_28 {M : q_S} (h : WR M) : ∀ i, 0 ≤ i → i < ((10 : Nat) : Int) → 0 ≤ M 28 i ∧ M 28 i ≤ 15 := fun i _ _ => h 28 i
theorem rg_29 {M : q_S} (h : WR M) : ∀ i, 0 ≤ i → i < ((10 : Nat) : Int) → 0 ≤ M 29 i ∧ M 29 i ≤ 2000 := fun i _ _ => h 29 i
theorem rg_30 {M : q_S} (h : WR M) : ∀ i, 0 ≤ i → i < ((10 : Nat) : Int) → 0 ≤ M 30 i ∧ M 30 i ≤ 2000 := fun i _ _ => h 30 i
theorem rg_31 {M : q_S} (h : WR M) : ∀ i, 0 ≤ i → i < ((20000 : Nat) : Int) → 0 ≤ M 31 i ∧ M 31 i ≤ 1500 := fun i _ _ => h 31 i
theorem rg_32 {M : q_S} (h : WR M) : ∀ i, 0 ≤ i → i < ((20000 : Nat) : Int) → 0 ≤ M 32 i ∧ M 32 i ≤ 1 := fun i _ _ => h 32 i
theorem rg_33 {M : q_S} (h : WR M) : ∀ i, 0 ≤ i → i < ((20000 : Nat) : Int) → 0 ≤ M 33 i ∧ M 33 i ≤ 1 := fun i _ _ => h 33 i
theorem rg_35 {M : q_S} (h : WR M) : ∀ i, 0 ≤ i → i < ((1500 : Nat) : Int) → 0 ≤ M 35 i ∧ M 35 i ≤ 5 := fun i _ _ => h 35 i
theorem rg_40 {M : q_S} (h : WR M) : ∀ i, 0 ≤ i → i < ((12 : Nat) : Int) → 0 ≤ M 40 i ∧ M 40 i ≤ 19999 := fun i _ _ => h 40 i
theorem rg_42 {M : q_S} (h : WR M) : ∀ i, 0 ≤ i → i < ((20000 : Nat) : Int) → 0 ≤ M 42 i ∧ M 42 i ≤ 1 := fun i _ _ => h 42 i
theorem rg_19 {M : q_S} (h : WR M) : ∀ i, 0 ≤ i → i < ((120 : Nat) : Int) → -1 ≤ M 19 i ∧ M 19 i ≤ 2 := fun i _ _ => h 19 i
theorem rs_0 {M : q_S} (h : WR M) : 0 ≤ M 50 0 ∧ M 50 0 ≤ 10000000000000 := h 50 0
theorem rs_1 {M : q_S} (h : WR M) : 0 ≤ M 50 1 ∧ M 50 1 ≤ 2000 := h 50 1
theorem rs_9 {M : q_S} (h : WR M) : 0 ≤ M 50 9 ∧ M 50 9 ≤ 1000 := h 50 9
theorem rs_10 {M : q_S} (h : WR M) : 0 ≤ M 50 10 ∧ M 50 10 ≤ 1000000 := h 50 10
theorem rs_13 {M : q_S} (h : WR M) : 0 ≤ M 50 13 ∧ M 50 13 ≤ 1000 := h 50 13
theorem rs_16 {M : q_S} (h : WR M) : 0 ≤ M 50 16 ∧ M 50 16 ≤ 120 := h 50 16
theorem rs_27 {M : q_S} (h : WR M) : 0 ≤ M 50 27 ∧ M 50 27 ≤ 10 := h 50 27
theorem rs_34 {M : q_S} (h : WR M) : 0 ≤ M 50 34 ∧ M 50 34 ≤ 1500 := h 50 34
theorem rs_36 {M : q_S} (h : WR M) : 0 ≤ M 50 36 ∧ M 50 36 ≤ 120 := h 50 36
theorem rs_37 {M : q_S} (h : WR M) : 0 ≤ M 50 37 ∧ M 50 37 ≤ 1000000 := h 50 37
theorem rs_38 {M : q_S} (h : WR M) : 0 ≤ M 50 38 ∧ M 50 38 ≤ 1000000 := h 50 38
theorem rs_39 {M : q_S} (h : WR M) : 0 ≤ M 50 39 ∧ M 50 39 ≤ 1000000 := h 50 39
theorem rs_41 {M : q_S} (h : WR M) : 0 ≤ M 50 41 ∧ M 50 41 ≤ 3 := h 50 41
def dcn : Nat → Int → Int
  | 0, _ => 0
  | k + 1, c => if 0 < c then dcn k (c / 10) + 1 else 0
theorem dcn_s (k : Nat) (c : Int) : dcn (k + 1) c = if 0 < c then dcn k (c / 10) + 1 else 0 := rfl
theorem dcn_0 (c : Int) : dcn 0 c = 0 := rfl
def mlen (c : Int) : Int := if 0 < c then dcn 20 c - 1 else 0
def fig (c p : Int) : Int := c / 10 ^ (mlen c - 1 - p).toNat % 10
theorem dcn_nn : ∀ (k : Nat) (c : Int), 0 ≤ dcn k c ∧ dcn k c ≤ k := by
  intro k
  induction k with
  | zero => intro c; exact ⟨Int.le_refl 0, Int.le_refl 0⟩
  | succ k ih =>
    intro c
    simp only [dcn]
    split
    · have := ih (c / 10); omega
    · omega
theorem dcn_pos {k : Nat} {c : Int} (h : 0 < c) : 1 ≤ dcn (k + 1) c := by
  simp only [dcn, if_pos h]
  have := dcn_nn k (c / 10); omega
theorem dcn_pos20 {c : Int} (h : 0 < c) : 1 ≤ dcn 20 c := dcn_pos (k := 19) h
theorem dcn_np20 {c : Int} (h : ¬ 0 < c) : dcn 20 c = 0 := by rw [dcn_s 19 c, if_neg h]
theorem mlen_nn (c : Int) : 0 ≤ mlen c ∧ mlen c ≤ 19 := by
  unfold mlen
  split
  next h => have := dcn_pos20 h; have := (dcn_nn 20 c).2; omega
  next => omega
/-- the versions of a file: the last one below n that is kept -/
def latF (M : q_S) (f : Int) : Nat → Int
  | 0 => -1
  | n + 1 => if M 17 n = f ∧ M 22 n = 0 then (n : Int) else latF M f n
def latestOf (M : q_S) (f : Int) : Int := latF M f (M 50 16).toNat
theorem latF_rg (M : q_S) (f : Int) : ∀ n : Nat, -1 ≤ latF M f n ∧ latF M f n < n := by
  intro n
  induction n with
  | zero => simp only [latF]; omega
  | succ n ih => simp only [latF]; split <;> omega
/-- as of a time -/
def asOfF (M : q_S) (f t : Int) : Nat → Int
  | 0 => -1
  | n + 1 => if M 17 n = f ∧ M 22 n = 0 ∧ M 18 n ≤ t then (n : Int) else asOfF M f t n
def asOfT (M : q_S) (f t : Int) : Int := asOfF M f t (M 50 16).toNat
theorem asOfF_rg (M : q_S) (f t : Int) : ∀ n : Nat, -1 ≤ asOfF M f t n ∧ asOfF M f t n < n := by
  intro n
  induction n with
  | zero => simp only [asOfF]; omega
  | succ n ih => simp only [asOfF]; split <;> omega
abbrev isInP (M : q_S) (v : Int) : Prop := v ≠ -1 ∧ 0 < M 21 v
def rightF (M : q_S) (f m : Int) : Int := if M 50 1 < M 26 (3 * f + m) then M 25 (3 * f + m) else 0
def lockF (M : q_S) (f : Int) : Int := if 0 < M 23 f ∧ M 50 1 < M 24 f then M 23 f - 1 else -1
abbrev isAsP (M : q_S) (p v : Int) : Prop := (v = -1 ∨ M 21 v = 0) ∧ M 2 p = 0 ∨ ¬ (v = -1 ∨ M 21 v = 0) ∧ (M 2 p ≠ 0 ∧ M 3 p = M 21 v ∧ M 4 p = M 20 v)
abbrev isOtherP (M : q_S) (p : Int) : Prop := ¬ isAsP M p (M 5 p - 1)
abbrev inMF (m f : Int) : Prop := (0 ≤ m ∧ m ≤ 2) ∧ 0 ≤ f ∧ f ≤ 15

