/-! sums over the store's list and over all pieces -/
def sumF (g : Int → Int) : Nat → Int
  | 0 => 0
  | n + 1 => sumF g n + g n
theorem sumF_congr {f g : Int → Int} : ∀ n : Nat, (∀ k : Int, 0 ≤ k → k < n → f k = g k) → sumF f n = sumF g n := by
  intro n
  induction n with
  | zero => intro _; rfl
  | succ n ih => intro h; simp only [sumF]; rw [ih (fun k a b => h k a (by omega)), h n (by omega) (by omega)]
theorem sumF_zero {f : Int → Int} : ∀ n : Nat, (∀ k : Int, 0 ≤ k → k < n → f k = 0) → sumF f n = 0 := by
  intro n
  induction n with
  | zero => intro _; rfl
  | succ n ih => intro h; simp only [sumF]; rw [ih (fun k a b => h k a (by omega)), h n (by omega) (by omega)]; rfl
theorem sumF_pt {f g : Int → Int} {x : Int} (h0 : 0 ≤ x) (h : ∀ k, k ≠ x → f k = g k) : ∀ n : Nat, sumF f n = sumF g n + (if x < n then f x - g x else 0) := by
  intro n
  induction n with
  | zero => simp only [sumF]; rw [if_neg (by omega)]; rfl
  | succ n ih =>
    simp only [sumF, ih]
    by_cases e : (n : Int) = x
    · rw [if_neg (show ¬ x < (n : Int) by omega), if_pos (show x < ((n + 1 : Nat) : Int) by omega), e]; omega
    · rw [h n e]
      by_cases e2 : x < n
      · rw [if_pos e2, if_pos (show x < ((n + 1 : Nat) : Int) by omega)]; omega
      · rw [if_neg e2, if_neg (show ¬ x < ((n + 1 : Nat) : Int) by omega)]; omega
/-- a sum over a list without repetition is the sum over all, if the rest is nothing -/
theorem sum_list {P : Int → Int} {N : Nat} : ∀ (n : Nat) (g : Int → Int), (∀ i : Int, 0 ≤ i → i < n → 0 ≤ P i ∧ P i < N) → (∀ i j : Int, 0 ≤ i → i < j → j < n → P i ≠ P j) → (∀ x : Int, 0 ≤ x → x < N → g x ≠ 0 → ∃ i, (0 ≤ i ∧ i < (n : Int)) ∧ P i = x) →
    sumF (fun i => g (P i)) n = sumF g N := by
  intro n
  induction n with
  | zero =>
    intro g _ _ h3
    rw [sumF_zero N (fun k a b => Classical.byContradiction (fun e => by
      obtain ⟨i, h, _⟩ := h3 k a b e
      have := h.1; have := h.2; omega))]
    rfl
  | succ n ih =>
    intro g h1 h2 h3
    have hn := h1 n (by omega) (by omega)
    have i := ih (fun x => if x = P n then 0 else g x) (fun i a b => h1 i a (by omega)) (fun i j a b c => h2 i j a b (by omega)) (fun x a b e => by
      by_cases ex : x = P n
      · rw [if_pos ex] at e; exact absurd rfl e
      · rw [if_neg ex] at e
        obtain ⟨i, hi, hp⟩ := h3 x a b e
        refine ⟨i, ⟨hi.1, ?_⟩, hp⟩
        have h9 : i ≠ n := fun e9 => ex (by rw [← hp, e9])
        have := hi.2; omega)
    have e1 := sumF_congr (f := fun i => if P i = P n then 0 else g (P i)) (g := fun i => g (P i)) n (fun k a b => by
      show (if P k = P n then 0 else g (P k)) = _
      rw [if_neg (h2 k n a b (by omega))])
    have e2 := sumF_pt (f := g) (g := fun x => if x = P n then 0 else g x) hn.1 (fun k hk => by
      show g k = if k = P n then 0 else g k
      rw [if_neg hk]) N
    simp only [sumF]
    rw [e2, if_pos hn.2, if_pos rfl, ← i, e1]
    omega
theorem cnt_sum (S : q_S) (q : Int) : ∀ n, cnt S q n = sumF (fun x => if S 31 x = q then 1 else 0) n := by
  intro n
  induction n with
  | zero => rfl
  | succ n ih => simp only [cnt, sumF, ih]
theorem sm_sum (M : q_S) (t : Int) : ∀ n, sm M t n = sumF (fun x => M t x) n := by
  intro n
  induction n with
  | zero => rfl
  | succ n ih => simp only [sm, sumF, ih]
theorem smB_sum (M : q_S) (t : Int) : ∀ n, smB M t n = sumF (fun x => if 0 < M t x then 1 else 0) n := by
  intro n
  induction n with
  | zero => rfl
  | succ n ih => simp only [smB, sumF, ih]
theorem rt_n {M C : q_S} (h : RT M C) : 0 ≤ C 105 0 ∧ C 105 0 ≤ 512 := h.1
theorem rt_i {M C : q_S} (h : RT M C) {i : Int} (hi : 0 ≤ i ∧ i < C 105 0) : (0 ≤ C 126 i ∧ C 126 i < 20000) ∧ M 31 (C 126 i) = C 127 i + 1 ∧ 0 ≤ C 127 i ∧ M 32 (C 126 i) = C 128 i ∧ M 33 (C 126 i) = C 129 i := h.2.1 i hi.1 hi.2
/-- any sum over the store's list -/
theorem rt_sum {M C : q_S} (h : RT M C) (g : Int → Int) (hg : ∀ x, 0 ≤ x → x < 20000 → M 31 x = 0 → g x = 0) : sumF (fun i => g (C 126 i)) (C 105 0).toNat = sumF g 20000 := by
  have hn := rt_n h
  refine sum_list (P := fun i => C 126 i) (N := 20000) (C 105 0).toNat g (fun i a b => (rt_i h ⟨a, by omega⟩).1) (fun i j a b c => h.2.2.1 i j a b (by omega)) (fun x a b e => ?_)
  obtain ⟨i, hi, hp⟩ := h.2.2.2.1 x a b (fun e0 => e (hg x a b e0))
  exact ⟨i, ⟨hi.1, by have := hi.2; omega⟩, hp⟩
def fiF (C : q_S) (x : Int) : Nat → Int
  | 0 => -1
  | n + 1 => if ¬ fiF C x n = -1 then fiF C x n else if C 126 n = x then (n : Int) else -1
theorem fiF_rg (C : q_S) (x : Int) : ∀ n : Nat, fiF C x n = -1 ∨ ((0 ≤ fiF C x n ∧ fiF C x n < n) ∧ C 126 (fiF C x n) = x) := by
  intro n
  induction n with
  | zero => exact Or.inl rfl
  | succ n ih =>
    simp only [fiF]
    split
    next h =>
      rcases ih with g | g
      · exact absurd g h
      · exact Or.inr ⟨⟨g.1.1, by omega⟩, g.2⟩
    next h =>
      split
      next h2 => exact Or.inr ⟨⟨by omega, by omega⟩, h2⟩
      next h2 => exact Or.inl rfl
theorem fiF_stop {C : q_S} {x : Int} {k : Nat} (h : fiF C x k = -1) (h2 : C 126 k = x) : ∀ d : Nat, fiF C x (k + 1 + d) = k := by
  intro d
  induction d with
  | zero => simp only [Nat.add_zero, fiF]; rw [if_neg (by omega), if_pos h2]
  | succ d ih => rw [← Nat.add_assoc]; simp only [fiF]; rw [if_pos (by omega)]; exact ih
theorem fiF_none {C : q_S} {x : Int} : ∀ n : Nat, fiF C x n = -1 → ∀ i : Int, 0 ≤ i → i < n → C 126 i ≠ x := by
  intro n
  induction n with
  | zero => intro _ i a b; omega
  | succ n ih =>
    intro h i a b
    simp only [fiF] at h
    split at h
    next h1 => exact absurd h h1
    next h1 =>
      split at h
      next h2 => omega
      next h2 =>
        by_cases e : i = n
        · rw [e]; exact h2
        · exact ih (Classical.not_not.mp h1) i a (by omega)
abbrev fi (C : q_S) (x : Int) : Int := fiF C x (C 105 0).toNat
theorem fi_rg {M C : q_S} (h : RT M C) (x : Int) : fi C x = -1 ∨ ((0 ≤ fi C x ∧ fi C x < C 105 0) ∧ C 126 (fi C x) = x) := by
  have h1 := rt_n h
  rcases fiF_rg C x (C 105 0).toNat with g | g
  · exact Or.inl g
  · exact Or.inr ⟨⟨g.1.1, by show fiF C x (C 105 0).toNat < C 105 0; have := g.1.2; omega⟩, g.2⟩
theorem fi_z {M C : q_S} (h : RT M C) {x : Int} (hx : 0 ≤ x ∧ x < 20000) : fi C x = -1 ↔ M 31 x = 0 := by
  have h1 := rt_n h
  constructor
  · intro e
    refine Classical.byContradiction (fun g => ?_)
    obtain ⟨i, hi, hp⟩ := h.2.2.2.1 x hx.1 hx.2 g
    exact fiF_none _ e i hi.1 (by have := hi.2; omega) hp
  · intro e
    rcases fi_rg h x with g | g
    · exact g
    · have := rt_i h g.1
      rw [g.2] at this
      omega
theorem fi_v {M C : q_S} (h : RT M C) {x : Int} (hx : ¬ fi C x = -1) : (0 ≤ fi C x ∧ fi C x < C 105 0) ∧ C 126 (fi C x) = x ∧ M 31 x = C 127 (fi C x) + 1 ∧ 0 ≤ C 127 (fi C x) ∧ M 32 x = C 128 (fi C x) ∧ M 33 x = C 129 (fi C x) := by
  rcases fi_rg h x with g | g
  · exact absurd g hx
  · have := rt_i h g.1
    rw [g.2] at this
    exact ⟨g.1, g.2, this.2.1, this.2.2.1, this.2.2.2.1, this.2.2.2.2⟩
def haI (M : q_S) (c : Int) : Nat → Int
  | 0 => 1
  | k + 1 => if ¬ haI M c k = 0 ∧ ¬ M 31 (pce c k) = 0 then 1 else 0
theorem haI_stop {M : q_S} {c : Int} {k : Nat} (h : haI M c k = 0) : ∀ d : Nat, haI M c (k + d) = 0 := by
  intro d
  induction d with
  | zero => exact h
  | succ d ih => rw [← Nat.add_assoc]; simp only [haI]; rw [if_neg (fun g => g.1 ih)]
theorem whI_stop {M : q_S} {c : Int} {k : Nat} (h : whI M c k = 0) : ∀ d : Nat, whI M c (k + d) = 0 := by
  intro d
  induction d with
  | zero => exact h
  | succ d ih => rw [← Nat.add_assoc]; simp only [whI]; rw [if_neg (fun g => g.1 ih)]
theorem lsI_stop {M : q_S} {c : Int} {k : Nat} (h : ¬ lsI M c k = 0) : ∀ d : Nat, ¬ lsI M c (k + d) = 0 := by
  intro d
  induction d with
  | zero => exact h
  | succ d ih => rw [← Nat.add_assoc]; simp only [lsI]; rw [if_pos (Or.inl ih)]; decide
theorem frV_lat (M : q_S) (h : WR M) (f : Int) : ∀ n : Nat, (frV M f n = 0 ↔ latF M f n ≠ -1) := by
  intro n
  induction n with
  | zero => simp only [frV, latF]; constructor <;> intro h <;> omega
  | succ n ih =>
    have g : 0 ≤ M 22 n ∧ M 22 n ≤ 1 := h 22 n
    have h1 := latF_rg M f n
    simp only [frV, latF]
    by_cases e : M 17 n = f ∧ M 22 n = 0
    · rw [if_pos e, if_neg (fun g2 => g2.2.elim (fun g3 => g3 e.1) (fun g3 => by have := e.2; omega))]; constructor <;> intro _ <;> omega
    · rw [if_neg e]
      by_cases e2 : frV M f n = 0
      · rw [if_neg (fun g2 => g2.1 e2)]; exact ⟨fun _ => ih.mp e2, fun _ => rfl⟩
      · rw [if_pos ⟨e2, by by_cases e3 : M 17 n = f; exact Or.inr (by have : M 22 n ≠ 0 := fun g2 => e ⟨e3, g2⟩; omega); exact Or.inl e3⟩]
        constructor
        · intro g2; omega
        · intro g2; exact absurd (ih.mpr g2) e2
theorem frM_0 (M : q_S) (f : Int) : ∀ n : Nat, frM M f 0 n = 0 := by
  intro n
  cases n with
  | zero => rfl
  | succ n => simp only [frM, frM_0 M f n]; rfl
theorem frM_stop {M : q_S} {f b : Int} {k : Nat} (h : frM M f b k = 0) : ∀ d : Nat, frM M f b (k + d) = 0 := by
  intro d
  induction d with
  | zero => exact h
  | succ d ih => rw [← Nat.add_assoc]; simp only [frM]; rw [if_neg (fun g => g.1 ih)]
theorem frI_eq {M : q_S} (h : WR M) (f : Int) : ¬ frI M f = 0 ↔ latestOf M f = -1 ∧ ¬ frM M f 1 3 = 0 := by
  have h1 := frV_lat M h f (M 50 16).toNat
  have h2 := frV_01 M f (M 50 16).toNat
  unfold frI latestOf
  by_cases e : latF M f (M 50 16).toNat = -1
  · have e2 : frV M f (M 50 16).toNat = 1 := by
      rcases h2 with g | g
      · exact absurd e (h1.mp g)
      · exact g
    rw [e2]; exact ⟨fun g => ⟨e, g⟩, fun g => g.2⟩
  · rw [h1.mpr e, frM_0]; exact ⟨fun g => absurd rfl g, fun g => absurd g.1 e⟩
theorem hldF_eq (M : q_S) (v : Int) : ∀ n, heldI M v n = hldF M (M 17 v) (M 18 v) n := by
  intro n
  induction n with
  | zero => rfl
  | succ n ih =>
    simp only [heldI, hldF, ih]
    by_cases e : M 28 n = M 17 v ∧ M 29 n ≤ M 18 v ∧ M 18 v ≤ M 30 n
    · rw [if_pos (Or.inr e), if_pos e]
    · rw [if_neg e]
      by_cases e2 : hldF M (M 17 v) (M 18 v) n = 0
      · rw [if_neg (fun g => g.elim (fun g => g e2) e), e2]
      · rw [if_pos (Or.inl e2)]
        have : ∀ n, hldF M (M 17 v) (M 18 v) n = 0 ∨ hldF M (M 17 v) (M 18 v) n = 1 := by
          intro n
          induction n with
          | zero => exact Or.inl rfl
          | succ n ih2 => simp only [hldF]; split; exact Or.inr rfl; exact ih2
        rcases this n with g | g
        · exact absurd g e2
        · exact g.symm
theorem hldF_some {M : q_S} {f t : Int} {k : Nat} (h : M 28 k = f ∧ M 29 k ≤ t ∧ t ≤ M 30 k) : ∀ d : Nat, hldF M f t (k + 1 + d) = 1 := by
  intro d
  induction d with
  | zero => simp only [Nat.add_zero, hldF]; rw [if_pos h]
  | succ d ih => rw [← Nat.add_assoc]; simp only [hldF]; split; rfl; exact ih
