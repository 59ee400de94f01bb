/-! the reference's functions, second half -/
def cSt (c : Int) : Nat → Int × Int × (Int → Int)
  | 0 => (0, 1, fun _ => 0)
  | k + 1 => if fig c k = 0 ∨ 10000 ≤ 10 * (cSt c k).2.1 + fig c k ∨ (k : Int) = mlen c - 1 then ((cSt c k).1 + 1, 1, fun j => if j = (cSt c k).1 then 10 * (cSt c k).2.1 + fig c k else (cSt c k).2.2 j)
    else ((cSt c k).1, 10 * (cSt c k).2.1 + fig c k, (cSt c k).2.2)
def ncut (c : Int) : Int := (cSt c (mlen c).toNat).1
def pce (c j : Int) : Int := (cSt c (mlen c).toNat).2.2 j
def cutSt (M : q_S) (c : Int) : Nat → q_S
  | 0 => M
  | k + 1 => if fig c k = 0 ∨ 10000 ≤ 10 * (cSt c k).2.1 + fig c k ∨ (k : Int) = mlen c - 1 then q_us (cutSt M c k) 40 (cSt c k).1 (10 * (cSt c k).2.1 + fig c k) else cutSt M c k
def cutS (M : q_S) (c : Int) : q_S := cutSt M c (mlen c).toNat
theorem fig_rg (c p : Int) : 0 ≤ fig c p ∧ fig c p ≤ 9 := by unfold fig; omega
theorem cSt_rg (c : Int) : ∀ k : Nat, 0 ≤ (cSt c k).1 ∧ (cSt c k).1 ≤ k ∧ ((cSt c k).2.1 = 1 ∨ (10 ≤ (cSt c k).2.1 ∧ (cSt c k).2.1 < 20) ∨ (100 ≤ (cSt c k).2.1 ∧ (cSt c k).2.1 < 200) ∨ (1000 ≤ (cSt c k).2.1 ∧ (cSt c k).2.1 < 2000)) := by
  intro k
  induction k with
  | zero => exact ⟨by simp [cSt], by simp [cSt], Or.inl rfl⟩
  | succ k ih =>
    have := fig_rg c k
    simp only [cSt]
    split
    · refine ⟨?_, ?_, Or.inl rfl⟩ <;> simp only [] <;> omega
    · refine ⟨?_, ?_, ?_⟩ <;> simp only [] <;> omega
theorem cSt_pc (c : Int) : ∀ k : Nat, ∀ j : Int, 0 ≤ (cSt c k).2.2 j ∧ (cSt c k).2.2 j ≤ 19999 ∧ (0 ≤ j → j < (cSt c k).1 → 10 ≤ (cSt c k).2.2 j) := by
  intro k
  induction k with
  | zero => intro j; exact ⟨by simp [cSt], by simp [cSt], by intro h1 h2; simp [cSt] at h2; omega⟩
  | succ k ih =>
    intro j
    have h1 := fig_rg c k
    have h2 := cSt_rg c k
    have h3 := ih j
    simp only [cSt]
    split
    · simp only []
      split
      · omega
      · exact ⟨h3.1, h3.2.1, fun a b => h3.2.2 a (by omega)⟩
    · exact h3
theorem ncut_rg (c : Int) : 0 ≤ ncut c ∧ ncut c ≤ mlen c := by
  have := cSt_rg c (mlen c).toNat
  have h2 := (mlen_nn c).1
  unfold ncut; omega
theorem pce_rg (c j : Int) : 0 ≤ pce c j ∧ pce c j ≤ 19999 := by
  have := cSt_pc c (mlen c).toNat j
  exact ⟨this.1, this.2.1⟩
theorem cutSt_o {M : q_S} {c t j : Int} (h : t ≠ 40) : ∀ k, cutSt M c k t j = M t j := by
  intro k
  induction k with
  | zero => rfl
  | succ k ih =>
    simp only [cutSt]; split
    · simp only [q_us_ap]; rw [if_neg (fun g => h g.1)]; exact ih
    · exact ih
theorem cutSt_40 {M : q_S} {c : Int} : ∀ (k : Nat) (j : Int), 0 ≤ j → j < (cSt c k).1 → cutSt M c k 40 j = (cSt c k).2.2 j := by
  intro k
  induction k with
  | zero => intro j h1 h2; simp [cSt] at h2; omega
  | succ k ih =>
    intro j h1 h2
    simp only [cutSt, cSt] at h2 ⊢
    split
    next h =>
      rw [if_pos h] at h2
      simp only [q_us_ap, true_and] at h2 ⊢
      by_cases e : j = (cSt c k).1
      · rw [if_pos e, if_pos e]
      · rw [if_neg e, if_neg e]
        exact ih j h1 (by omega)
    next h =>
      rw [if_neg h] at h2
      exact ih j h1 h2
theorem cutS_o {M : q_S} {c t j : Int} (h : t ≠ 40) : cutS M c t j = M t j := cutSt_o h _
theorem cutS_40 {M : q_S} {c j : Int} (h1 : 0 ≤ j) (h2 : j < ncut c) : cutS M c 40 j = pce c j := cutSt_40 _ j h1 h2
theorem wr_cutSt {M : q_S} (h : WR M) (c : Int) : ∀ k, WR (cutSt M c k) := by
  intro k
  induction k with
  | zero => exact h
  | succ k ih =>
    have h1 := fig_rg c k
    have h2 := cSt_rg c k
    simp only [cutSt]
    split
    · exact WR.up ih ⟨(show (0 : Int) ≤ _ by omega), (show _ ≤ (19999 : Int) by omega)⟩
    · exact ih
theorem div_pow_s (c : Int) (j : Nat) : c / 10 ^ j / 10 = c / 10 ^ (j + 1) := by
  have h10 : ∀ j : Nat, (0 : Int) ≤ 10 ^ j := by
    intro j
    induction j with
    | zero => decide
    | succ j ih => rw [Int.pow_succ]; omega
  rw [Int.ediv_ediv_of_nonneg (h10 j), Int.pow_succ]
theorem div_pow_rg {c : Int} (h : 0 ≤ c) (j : Nat) : 0 ≤ c / 10 ^ j ∧ c / 10 ^ j ≤ c := by
  induction j with
  | zero => rw [Int.pow_zero, Int.ediv_one]; omega
  | succ j ih => rw [← div_pow_s]; omega
def numF (M : q_S) (m f k : Int) : Int := if ¬ M 2 (16 * m + f) = 2 ∨ mlen (M 3 (16 * m + f)) ≤ k then -1 else fig (M 3 (16 * m + f)) k
def whI (M : q_S) (c : Int) : Nat → Int
  | 0 => 1
  | k + 1 => if ¬ whI M c k = 0 ∧ 0 < M 31 (pce c k) ∧ M 32 (pce c k) = 0 then 1 else 0
def isWholeF (M : q_S) (c : Int) : Int × q_S := (whI M c (ncut c).toNat, cutS M c)
def mkF (S : q_S) (c : Int) : Nat → q_S
  | 0 => S
  | k + 1 => q_us (mkF S c k) 42 (pce c k) 1
def marksF (M : q_S) (c : Int) : q_S := mkF (cutS M c) c (ncut c).toNat
theorem dcn_lt : ∀ (k n : Nat) (c : Int), c < 10 ^ n → dcn k c ≤ n := by
  intro k
  induction k with
  | zero => intro n c _; simp only [dcn]; omega
  | succ k ih =>
    intro n c h
    simp only [dcn]
    split
    next h0 =>
      cases n with
      | zero => rw [Int.pow_zero] at h; omega
      | succ n =>
        have := ih n (c / 10) (by rw [Int.pow_succ] at h; omega)
        omega
    next => omega
theorem mlen_12 {c : Int} (h : 0 ≤ c ∧ c ≤ 9999999999999) : mlen c ≤ 12 := by
  have := dcn_lt 20 13 c (by have : (10 : Int) ^ 13 = 10000000000000 := by decide
                             omega)
  unfold mlen; split <;> omega
