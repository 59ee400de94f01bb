/-! constructors: loops and slots -/
def spC (C : q_S) (k : Nat) : q_S := fun t j => if t = 133 ∧ 0 ≤ j ∧ j < k then 2 else if t = 134 ∧ 0 ≤ j ∧ j < k then 2001 else C t j
theorem spC_ap {C : q_S} {k : Nat} {t j : Int} : spC C k t j = if t = 133 ∧ 0 ≤ j ∧ j < k then 2 else if t = 134 ∧ 0 ≤ j ∧ j < k then 2001 else C t j := rfl
theorem spC_0 (C : q_S) : spC C 0 = C := by
  funext t j
  rw [spC_ap, if_neg (by omega), if_neg (by omega)]
theorem spC_s (C : q_S) (k : Nat) : q_us (q_us (spC C k) 133 k 2) 134 k 2001 = spC C (k + 1) := by
  funext t j
  simp only [q_us_ap, spC_ap]
  by_cases e1 : t = 133
  · subst e1
    rw [if_neg (by omega)]
    by_cases e2 : j = k
    · rw [if_pos ⟨rfl, e2⟩, if_pos ⟨rfl, by omega, by omega⟩]
    · rw [if_neg (fun g => e2 g.2)]
      by_cases e3 : 0 ≤ j ∧ j < (k : Int)
      · rw [if_pos ⟨rfl, e3⟩, if_pos ⟨rfl, by omega, by omega⟩]
      · rw [if_neg (fun g => e3 g.2), if_neg (show ¬ ((133 : Int) = 133 ∧ 0 ≤ j ∧ j < ((k + 1 : Nat) : Int)) from fun g => e3 ⟨g.2.1, by omega⟩), if_neg (by omega), if_neg (by omega)]
  · by_cases e4 : t = 134
    · subst e4
      simp only [Int.reduceEq, false_and, true_and, if_false]
      by_cases e2 : j = k
      · rw [if_pos e2, if_pos ⟨by omega, by omega⟩]
      · rw [if_neg e2]
        by_cases e3 : 0 ≤ j ∧ j < (k : Int)
        · rw [if_pos e3, if_pos ⟨by omega, by omega⟩]
        · rw [if_neg e3, if_neg (fun g => e3 ⟨g.1, by omega⟩)]
    · rw [if_neg (by omega), if_neg (by omega), if_neg (by omega), if_neg (by omega), if_neg (by omega), if_neg (by omega)]
/-- an array is filled with one number -/
def flC (C : q_S) (ta z : Int) (k : Nat) : q_S := fun t j => if t = ta ∧ 0 ≤ j ∧ j < k then z else C t j
theorem flC_ap {C : q_S} {ta z : Int} {k : Nat} {t j : Int} : flC C ta z k t j = if t = ta ∧ 0 ≤ j ∧ j < k then z else C t j := rfl
theorem flC_0 (C : q_S) (ta z : Int) : flC C ta z 0 = C := by
  funext t j
  rw [flC_ap, if_neg (by omega)]
theorem flC_s (C : q_S) (ta z : Int) (k : Nat) : q_us (flC C ta z k) ta k z = flC C ta z (k + 1) := by
  funext t j
  simp only [q_us_ap, flC_ap]
  by_cases e2 : t = ta ∧ j = k
  · rw [if_pos e2, if_pos ⟨e2.1, by omega, by omega⟩]
  · rw [if_neg e2]
    by_cases e3 : t = ta ∧ 0 ≤ j ∧ j < (k : Int)
    · rw [if_pos e3, if_pos ⟨e3.1, by omega, by omega⟩]
    · rw [if_neg e3, if_neg (fun g => e3 ⟨g.1, g.2.1, by have := fun y => e2 ⟨g.1, y⟩; omega⟩)]
/-- a copy that is made -/
def cpI (C : q_S) (t : Int) : q_S := q_us (q_us (q_us (q_us (q_us (q_us (q_us C t 0 0) t 1 (-1)) t 3 (-1)) t 4 0) t 5 0) t 6 1000000) t 2 1000000
theorem cpI_o {C : q_S} {t t2 j : Int} (h : t2 ≠ t) : cpI C t t2 j = C t2 j := by
  unfold cpI
  rw [us_ne h, us_ne h, us_ne h, us_ne h, us_ne h, us_ne h, us_ne h]
theorem cpI_p {C : q_S} {t : Int} : cpI C t t 0 = 0 ∧ cpI C t t 1 = -1 ∧ cpI C t t 2 = 1000000 ∧ cpI C t t 3 = -1 ∧ cpI C t t 4 = 0 ∧ cpI C t t 5 = 0 ∧ cpI C t t 6 = 1000000 := by
  unfold cpI
  simp only [q_us_ap, Int.reduceEq, and_false, and_self, if_false, if_true]
theorem ln_600 {p j g : Int} (hp : 0 ≤ p ∧ p < 48) : ln (600 + p) j g = if j = 6 then 1000000 else g := by
  unfold ln ln0
  rw [if_pos (by omega), if_neg (by omega), if_neg (by omega), if_neg (by omega), if_neg (by omega), if_neg (by omega), if_neg (by omega), if_neg (by omega), if_neg (by omega), if_neg (by omega), if_neg (by omega), if_neg (by omega), if_neg (by omega), if_neg (by omega), if_neg (by omega), if_neg (by omega), if_neg (by omega), if_neg (by omega), if_pos (by omega)]
theorem kl_600 {p j : Int} (hp : 0 ≤ p ∧ p < 48) : kof (ln (600 + p) j 1000000) = (1, 0, 1000000) ∧ ¬ q_sc (ln (600 + p) j 1000000) := by
  rw [ln_600 hp]
  have e : (if j = 6 then (1000000 : Int) else 1000000) = 1000000 := by split <;> rfl
  rw [e]
  exact ⟨kof_ct (c := 0) (by decide), by decide⟩
theorem ln_540 {m j g : Int} (hm : 0 ≤ m ∧ m ≤ 2) : ln (540 + m) j g = 200 + 16 * m + j := by
  unfold ln ln0
  rw [if_pos (by omega), if_neg (by omega), if_neg (by omega), if_neg (by omega), if_neg (by omega), if_neg (by omega), if_neg (by omega), if_neg (by omega), if_neg (by omega), if_neg (by omega), if_neg (by omega), if_neg (by omega), if_neg (by omega), if_neg (by omega), if_neg (by omega), if_neg (by omega), if_neg (by omega), if_pos (by omega)]
  omega
theorem kof_cp {p : Int} (hp : 0 ≤ p ∧ p < 48) : kof (200 + p) = (2, 0, 200 + p) := by
  unfold kof
  rw [kkc_hi ⟨by omega, by omega⟩ ⟨by omega, by omega⟩, if_neg (by omega), if_neg (by omega), if_neg (by omega), if_neg (by omega), if_neg (by omega), if_neg (by omega), if_neg (by omega), if_neg (by omega), if_neg (by omega), if_neg (by omega), if_pos (by omega)]
theorem ln_510 {m g : Int} (hm : 0 ≤ m ∧ m ≤ 2) : ln (510 + m) 0 g = 540 + m ∧ ln (510 + m) 1 g = 150 + m := by
  unfold ln ln0
  refine ⟨?_, ?_⟩
  · rw [if_pos (by omega), if_neg (by omega), if_neg (by omega), if_neg (by omega), if_neg (by omega), if_pos ⟨by omega, rfl⟩]; omega
  · rw [if_pos (by omega), if_neg (by omega), if_neg (by omega), if_neg (by omega), if_neg (by omega), if_neg (by omega), if_neg (by omega), if_neg (by omega), if_neg (by omega), if_neg (by omega), if_neg (by omega), if_neg (by omega), if_neg (by omega), if_neg (by omega), if_neg (by omega), if_pos (by omega)]; omega
theorem kof_540 {m : Int} (hm : 0 ≤ m ∧ m ≤ 2) : kof (540 + m) = (31, 16, 540 + m) := by
  unfold kof kk kks
  rw [if_neg (by omega), if_pos (by omega), if_neg (by omega), if_neg (by omega), if_neg (by omega)]
theorem kof_140 {m : Int} (hm : 0 ≤ m ∧ m ≤ 2) : kof (140 + m) = (31, 16, 140 + m) := by
  have := kl_c (m := m) (g := 0) hm
  rw [ln_m hm, show 110 + m + 30 + 10 * 0 = 140 + m by omega] at this
  exact this
theorem kof_150 {m : Int} (hm : 0 ≤ m ∧ m ≤ 2) : kof (150 + m) = (20, 16, 150 + m) := by
  have := kl_l (m := m) (g := 0) hm
  rw [ln_m hm, show 110 + m + 30 + 10 * 1 = 150 + m by omega] at this
  exact this
theorem ln_140 {m j g : Int} (hm : 0 ≤ m ∧ m ≤ 2) : ln (140 + m) j g = 200 + 16 * m + j := by
  unfold ln ln0
  rw [if_neg (by omega), if_neg (by omega), if_neg (by omega), if_neg (by omega), if_neg (by omega), if_neg (by omega), if_neg (by omega), if_neg (by omega), if_neg (by omega), if_neg (by omega), if_neg (by omega), if_neg (by omega), if_pos (by omega)]
  omega
