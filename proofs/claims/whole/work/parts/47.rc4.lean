/-! a number more in the draft -/
theorem div_pow_t (c : Int) (e : Nat) : c / 10 ^ (e + 1) = c / 10 / 10 ^ e := by
  rw [Int.pow_succ, Int.mul_comm ((10 : Int) ^ e) 10, ← Int.ediv_ediv_of_nonneg (show (0 : Int) ≤ 10 by decide)]
theorem dcn_stab : ∀ (k : Nat) (c : Int), 0 ≤ c → c < 10 ^ k → dcn (k + 1) c = dcn k c := by
  intro k
  induction k with
  | zero => intro c h0 h; simp at h; simp only [dcn]; rw [if_neg (by omega)]
  | succ k ih =>
    intro c h0 h
    rw [dcn_s (k + 1) c, dcn_s k c]
    by_cases e : 0 < c
    · rw [if_pos e, if_pos e, ih (c / 10) (by omega) (by rw [Int.pow_succ] at h; omega)]
    · rw [if_neg e, if_neg e]
theorem mlen_more {c n : Int} (h : 0 < c) (h2 : c ≤ 9999999999999) (hn : 0 ≤ n ∧ n ≤ 9) : mlen (10 * c + n) = mlen c + 1 := by
  unfold mlen
  rw [if_pos (by omega), if_pos h, dcn_s 19 (10 * c + n), if_pos (by omega), show (10 * c + n) / 10 = c by omega]
  have := dcn_stab 19 c (by omega) (by have : (10 : Int) ^ 19 = 10000000000000000000 := by decide
                                       omega)
  rw [this]; omega
theorem fig_more {c n i : Int} (h : 0 < c) (h2 : c ≤ 9999999999999) (hn : 0 ≤ n ∧ n ≤ 9) (hi : 0 ≤ i ∧ i ≤ mlen c) : fig (10 * c + n) i = if i = mlen c then n else fig c i := by
  have e := mlen_more h h2 hn
  unfold fig
  rw [e]
  by_cases ei : i = mlen c
  · rw [if_pos ei, show (mlen c + 1 - 1 - i).toNat = 0 by omega, Int.pow_zero, Int.ediv_one]; omega
  · rw [if_neg ei, show (mlen c + 1 - 1 - i).toNat = (mlen c - 1 - i).toNat + 1 by omega, div_pow_t, show (10 * c + n) / 10 = c by omega]
theorem lead_le : ∀ k : Nat, k ≤ 12 → ∀ c : Int, c / 10 ^ k = 1 → c ≤ 9999999999999 := by
  intro k hk c h
  have hp : ∀ j : Nat, j ≤ 12 → (0 : Int) < 10 ^ j ∧ (10 : Int) ^ j ≤ 1000000000000 := by
    intro j
    induction j with
    | zero => intro _; exact ⟨by decide, by decide⟩
    | succ j ih =>
      intro hj
      refine ⟨by rw [Int.pow_succ]; have := (ih (by omega)).1; omega, ?_⟩
      have : j = 0 ∨ j = 1 ∨ j = 2 ∨ j = 3 ∨ j = 4 ∨ j = 5 ∨ j = 6 ∨ j = 7 ∨ j = 8 ∨ j = 9 ∨ j = 10 ∨ j = 11 := by omega
      rcases this with rfl | rfl | rfl | rfl | rfl | rfl | rfl | rfl | rfl | rfl | rfl | rfl <;> decide
  have g := hp k hk
  have h1 := Int.lt_ediv_add_one_mul_self c g.1
  rw [h] at h1
  omega
theorem vcode_pos {c : Int} (h : vcode c) (h0 : ¬ c = 0) : 1 ≤ mlen c ∧ c / 10 ^ (mlen c).toNat = 1 := h.2.2.elim (fun g => absurd g h0) (fun g => g)
theorem draft_more {c n : Int} (hc : vcode c) (hl : ¬ mlen c = 12) (hn : 0 ≤ n ∧ n ≤ 9) :
    vcode ((if c = 0 then 10 else 10 * c) + n) ∧ mlen ((if c = 0 then 10 else 10 * c) + n) = mlen c + 1 ∧ ∀ i, 0 ≤ i → i ≤ mlen c → fig ((if c = 0 then 10 else 10 * c) + n) i = if i = mlen c then n else fig c i := by
  have hcl := vcode_len hc
  by_cases e : c = 0
  · rw [if_pos e, e, mlen_0]
    have e1 : mlen (10 + n) = 1 := by
      have := mlen_more (c := 1) (n := n) (by decide) (by decide) hn
      rw [show (10 : Int) * 1 + n = 10 + n by omega, show mlen 1 = 0 by decide] at this
      exact this
    refine ⟨⟨by omega, by omega, Or.inr ⟨by omega, ?_⟩⟩, by omega, fun i h1 h2 => ?_⟩
    · rw [e1]; show (10 + n) / 10 ^ 1 = 1; rw [Int.pow_succ, Int.pow_zero]; omega
    · rw [if_pos (by omega)]
      unfold fig
      rw [e1, show (1 - 1 - i).toNat = 0 by omega, Int.pow_zero, Int.ediv_one]; omega
  · rw [if_neg e]
    have g := vcode_pos hc e
    have hp : 0 < c := by have := hc.1; omega
    have e1 := mlen_more hp hc.2.1 hn
    have e2 : (10 * c + n) / 10 ^ (mlen (10 * c + n)).toNat = 1 := by
      rw [e1, show (mlen c + 1).toNat = (mlen c).toNat + 1 by omega, div_pow_t, show (10 * c + n) / 10 = c by omega]
      exact g.2
    exact ⟨⟨by omega, lead_le _ (by omega) _ e2, Or.inr ⟨by omega, e2⟩⟩, e1, fun i h1 h2 => fig_more hp hc.2.1 hn ⟨h1, h2⟩⟩
/-- as PB, without an answer -/
def PBv (X : q_S) (e1 e2 e3 : String) (K : q_K) (M : q_S) : q_Q2 := fun o K2 M2 C2 => (q_xt K K2 ∧ q_tb K2 (X 50 16)) ∧ M2 = M ∧ RC X C2 ∧
  ((X 50 41 = 0 ∧ o = Sum.inl none) ∨ (X 50 41 = 1 ∧ o = Sum.inr e1) ∨ (X 50 41 = 2 ∧ o = Sum.inr e2) ∨ (X 50 41 = 3 ∧ o = Sum.inr e3))
theorem pbv1 {X : q_S} {e1 e2 e3 : String} {K : q_K} {B M C : q_S} (hB : q_tb K (M 50 16)) (hR : RC M C) (h : X = thr M 1) : PBv X e1 e2 e3 K B (Sum.inr e1) K B C := by
  subst h
  exact ⟨⟨q_xt.rfl, hB⟩, rfl, rc_thr hR 1, Or.inr (Or.inl ⟨rfl, rfl⟩)⟩
theorem pbv2 {X : q_S} {e1 e2 e3 : String} {K : q_K} {B M C : q_S} (hB : q_tb K (M 50 16)) (hR : RC M C) (h : X = thr M 2) : PBv X e1 e2 e3 K B (Sum.inr e2) K B C := by
  subst h
  exact ⟨⟨q_xt.rfl, hB⟩, rfl, rc_thr hR 2, Or.inr (Or.inr (Or.inl ⟨rfl, rfl⟩))⟩
theorem pbv0 {F X : q_S} {e1 e2 e3 : String} {K : q_K} {B C2 : q_S} (h : F = X) (hB : q_tb K (X 50 16)) (h0 : X 50 41 = 0) (hR : RC X C2) : PBv F e1 e2 e3 K B (Sum.inl none) K B C2 := by
  subst h
  exact ⟨⟨q_xt.rfl, hB⟩, rfl, hR, Or.inl ⟨h0, rfl⟩⟩
