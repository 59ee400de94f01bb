/-! the bound on packs: weights of pieces -/
def wX (x : Int) : Int := if x = 10 then 0 else if (11 ≤ x ∧ x ≤ 19) ∨ (110 ≤ x ∧ x ≤ 190) ∧ x % 10 = 0 then 1 else 2
theorem wX_rg (x : Int) : 0 ≤ wX x ∧ wX x ≤ 2 := by unfold wX; split <;> (try split) <;> omega
theorem sumF_tail {f : Int → Int} {n : Nat} (h : ∀ k : Int, (n : Int) ≤ k → f k = 0) : ∀ d : Nat, sumF f (n + d) = sumF f n := by
  intro d
  induction d with
  | zero => rfl
  | succ d ih => rw [show n + (d + 1) = (n + d) + 1 by omega]; simp only [sumF]; rw [ih, h _ (by omega)]; omega
theorem sumF_nn {f : Int → Int} : ∀ n : Nat, (∀ k : Int, 0 ≤ k → k < n → 0 ≤ f k) → 0 ≤ sumF f n := by
  intro n
  induction n with
  | zero => exact fun _ => Int.le_refl 0
  | succ n ih => intro h; have := ih (fun k a b => h k a (by omega)); have := h n (by omega) (by omega); simp only [sumF]; omega
theorem sumF_le {f g : Int → Int} : ∀ n : Nat, (∀ k : Int, 0 ≤ k → k < n → f k ≤ g k) → sumF f n ≤ sumF g n := by
  intro n
  induction n with
  | zero => exact fun _ => Int.le_refl 0
  | succ n ih => intro h; have := ih (fun k a b => h k a (by omega)); have := h n (by omega) (by omega); simp only [sumF]; omega
theorem sumF_add {f g : Int → Int} : ∀ n : Nat, sumF (fun x => f x + g x) n = sumF f n + sumF g n := by
  intro n
  induction n with
  | zero => rfl
  | succ n ih => simp only [sumF]; rw [ih]; omega
theorem wX_200 : sumF (fun x => 2 - wX x) 200 = 20 := by decide +kernel
theorem wX_tot : sumF (fun x => 2 - wX x) 20000 = 20 := by
  have h := sumF_tail (f := fun x => 2 - wX x) (n := 200) (fun k hk => by unfold wX; rw [if_neg (by omega), if_neg (by omega)]; rfl) 19800
  exact h.trans wX_200
/-- the weights of a content -/
def swF (c : Int) : Int := sumF (fun i => wX (pce c i)) (ncut c).toNat
def swK (c : Int) (k : Nat) : Int := sumF (fun i => wX ((cSt c k).2.2 i)) (cSt c k).1.toNat
theorem sw_cut {S : Int × Int × (Int → Int)} (h : 0 ≤ S.1) (v : Int) : sumF (fun i => wX ((fun j => if j = S.1 then v else S.2.2 j) i)) (S.1 + 1).toNat = sumF (fun i => wX (S.2.2 i)) S.1.toNat + wX v := by
  rw [show (S.1 + 1).toNat = S.1.toNat + 1 by omega]
  simp only [sumF]
  rw [sumF_congr (g := fun i => wX (S.2.2 i)) _ (fun k a b => by rw [if_neg (by omega)]), if_pos (by omega)]
theorem sw_inv {c : Int} : ∀ k : Nat, (k : Int) < mlen c →
    (((cSt c k).2.1 = 1 ∧ swK c k + (cSt c k).1 ≤ k ∧ 3 * swK c k ≤ 2 * k) ∨ ((11 ≤ (cSt c k).2.1 ∧ (cSt c k).2.1 ≤ 19) ∧ swK c k + (cSt c k).1 + 1 ≤ k ∧ 3 * swK c k + 2 ≤ 2 * k) ∨
      ((111 ≤ (cSt c k).2.1 ∧ (cSt c k).2.1 ≤ 199) ∧ swK c k + (cSt c k).1 + 2 ≤ k ∧ 3 * swK c k + 4 ≤ 2 * k) ∨ ((1111 ≤ (cSt c k).2.1 ∧ (cSt c k).2.1 ≤ 1999) ∧ swK c k + (cSt c k).1 + 3 ≤ k ∧ 3 * swK c k + 6 ≤ 2 * k)) := by
  intro k
  induction k with
  | zero => intro _; exact Or.inl ⟨rfl, by show (0 : Int) + 0 ≤ _; omega, by show (3 : Int) * 0 ≤ _; omega⟩
  | succ k ih =>
    intro hk
    have i := ih (by omega)
    have f := fig_rg c k
    have n0 := (cSt_rg c k).1
    by_cases e : fig c k = 0 ∨ 10000 ≤ 10 * (cSt c k).2.1 + fig c k ∨ (k : Int) = mlen c - 1
    · have es : cSt c (k + 1) = ((cSt c k).1 + 1, 1, fun j => if j = (cSt c k).1 then 10 * (cSt c k).2.1 + fig c k else (cSt c k).2.2 j) := by simp only [cSt]; rw [if_pos e]
      have ew : swK c (k + 1) = swK c k + wX (10 * (cSt c k).2.1 + fig c k) := by
        unfold swK; rw [es]; exact sw_cut n0 _
      have e1 : (cSt c (k + 1)).1 = (cSt c k).1 + 1 := by rw [es]
      have e2 : (cSt c (k + 1)).2.1 = 1 := by rw [es]
      have w := wX_rg (10 * (cSt c k).2.1 + fig c k)
      left
      rw [ew, e1, e2]
      have e3 : fig c k = 0 ∨ 10000 ≤ 10 * (cSt c k).2.1 + fig c k := by omega
      rcases i with i | i | i | i
      · have e0 : fig c k = 0 := by omega
        have w0 : wX (10 * (cSt c k).2.1 + fig c k) = 0 := by rw [i.1, e0]; rfl
        omega
      · have e0 : fig c k = 0 := by omega
        have w0 : wX (10 * (cSt c k).2.1 + fig c k) ≤ 1 := by rw [e0]; unfold wX; rw [if_neg (by omega), if_pos (by omega)]; decide
        omega
      · omega
      · omega
    · have es : cSt c (k + 1) = ((cSt c k).1, 10 * (cSt c k).2.1 + fig c k, (cSt c k).2.2) := by simp only [cSt]; rw [if_neg e]
      have ew : swK c (k + 1) = swK c k := by unfold swK; rw [es]
      have e1 : (cSt c (k + 1)).1 = (cSt c k).1 := by rw [es]
      have e2 : (cSt c (k + 1)).2.1 = 10 * (cSt c k).2.1 + fig c k := by rw [es]
      rw [ew, e1, e2]
      omega
theorem sw_fin {c : Int} (hc : mlen c ≤ 12) : swF c + ncut c ≤ mlen c + 1 ∧ swF c ≤ 8 := by
  have hn := mlen_nn c
  by_cases h0 : mlen c = 0
  · have en := ncut_rg c
    have e : ncut c = 0 := by omega
    unfold swF
    rw [e, h0]
    exact ⟨show (0 : Int) + 0 ≤ 0 + 1 by decide, show (0 : Int) ≤ 8 by decide⟩
  · obtain ⟨k, hk⟩ : ∃ k : Nat, (mlen c).toNat = k + 1 := ⟨(mlen c).toNat - 1, by omega⟩
    have i := sw_inv (c := c) k (by omega)
    have f := fig_rg c k
    have n0 := (cSt_rg c k).1
    have e : fig c k = 0 ∨ 10000 ≤ 10 * (cSt c k).2.1 + fig c k ∨ (k : Int) = mlen c - 1 := by omega
    have es : cSt c (k + 1) = ((cSt c k).1 + 1, 1, fun j => if j = (cSt c k).1 then 10 * (cSt c k).2.1 + fig c k else (cSt c k).2.2 j) := by simp only [cSt]; rw [if_pos e]
    have ew : swF c = swK c k + wX (10 * (cSt c k).2.1 + fig c k) := by
      unfold swF ncut pce; rw [hk, es]; exact sw_cut n0 _
    have e1 : ncut c = (cSt c k).1 + 1 := by unfold ncut; rw [hk, es]
    have w := wX_rg (10 * (cSt c k).2.1 + fig c k)
    rw [ew, e1]
    rcases i with i | i | i | i
    · have w1 : wX (10 * (cSt c k).2.1 + fig c k) ≤ 1 := by
        rw [i.1]; unfold wX
        split
        · decide
        · rw [if_pos (by omega)]; decide
      omega
    · omega
    · omega
    · omega
