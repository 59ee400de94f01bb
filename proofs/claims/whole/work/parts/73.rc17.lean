/-! thinning -/
theorem ndC_01 {C : q_S} {c i : Int} (h : 0 ≤ C 130 i ∧ C 130 i ≤ 1) : ∀ k, 0 ≤ ndC C c k 130 i ∧ ndC C c k 130 i ≤ 1 := by
  intro k
  induction k with
  | zero => exact h
  | succ k ih =>
    simp only [ndC]; split
    · exact ih
    · simp only [q_us_ap]; split
      · exact ⟨by decide, by decide⟩
      · exact ih
theorem nnC_01 {M C : q_S} {m i : Int} (h : 0 ≤ C 130 i ∧ C 130 i ≤ 1) : ∀ k, 0 ≤ nnC M C m k 130 i ∧ nnC M C m k 130 i ≤ 1 := by
  intro k
  induction k with
  | zero => exact h
  | succ k ih =>
    simp only [nnC]; split
    · exact ndC_01 ih _
    · exact ih
theorem nvC_01 {M C : q_S} {i : Int} (h : 0 ≤ C 130 i ∧ C 130 i ≤ 1) : ∀ k, 0 ≤ nvC M C k 130 i ∧ nvC M C k 130 i ≤ 1 := by
  intro k
  induction k with
  | zero => exact h
  | succ k ih =>
    simp only [nvC]; split
    · exact ndC_01 ih _
    · exact ih
theorem nmC_01 {M C : q_S} {i : Int} (h : 0 ≤ C 130 i ∧ C 130 i ≤ 1) : ∀ k, 0 ≤ nmC M C k 130 i ∧ nmC M C k 130 i ≤ 1 := by
  intro k
  induction k with
  | zero => exact h
  | succ k ih => simp only [nmC]; exact nnC_01 ih _
theorem follI_ex {M : q_S} {v : Int} : ∀ n : Nat, ¬ follI M v n = 0 → ∃ u, (v < u ∧ u ≤ v + n) ∧ M 17 u = M 17 v ∧ M 22 u = 0 := by
  intro n
  induction n with
  | zero => intro h; exact absurd rfl h
  | succ n ih =>
    intro h
    simp only [follI] at h
    by_cases e : follI M v n = 0
    · by_cases e2 : M 17 (v + 1 + n) = M 17 v ∧ M 22 (v + 1 + n) = 0 ∧ M 18 (v + 1 + n) / 24 = M 18 v / 24
      · exact ⟨v + 1 + n, ⟨by omega, by omega⟩, e2.1, e2.2.1⟩
      · rw [if_neg (fun g => g.elim (fun g => g e) e2)] at h; exact absurd rfl h
    · obtain ⟨u, a, b⟩ := ih e
      exact ⟨u, ⟨a.1, by omega⟩, b⟩
theorem old_lat {M : q_S} (hI : MI M) {v : Int} (hv : 0 ≤ v ∧ v < M 50 16) (h : oldP M v) : ¬ latestOf M (M 17 v) = v := by
  intro e
  rcases h with h | h
  · obtain ⟨u, a, b⟩ := follI_ex _ h.2
    have := (hI.2.2.1 u (by omega) (by omega)).2.2
    rw [b.1, e] at this
    omega
  · exact h.2 e
theorem latF_drop {M : q_S} {k f : Int} : ∀ n : Nat, latF M f n ≠ k → latF (q_us M 22 k 1) f n = latF M f n := by
  intro n
  induction n with
  | zero => intro _; rfl
  | succ n ih =>
    intro h
    simp only [latF] at h ⊢
    have e17 : q_us M 22 k 1 17 n = M 17 n := if_neg (fun g => absurd g.1 (by decide))
    rw [e17]
    by_cases e : M 17 n = f ∧ M 22 n = 0
    · rw [if_pos e] at h
      have e22 : q_us M 22 k 1 22 n = M 22 n := if_neg (fun g => h g.2)
      rw [e22, if_pos e]
      exact (if_pos e).symm
    · rw [if_neg e] at h
      rw [ih h]
      by_cases e9 : (n : Int) = k
      · have e22 : q_us M 22 k 1 22 n = 1 := if_pos ⟨rfl, e9⟩
        rw [e22, if_neg (fun g => absurd g.2 (by decide))]
        exact (if_neg e).symm
      · have e22 : q_us M 22 k 1 22 n = M 22 n := if_neg (fun g => e9 g.2)
        rw [e22]
theorem lat_drop {M : q_S} {k : Int} (h : ¬ latestOf M (M 17 k) = k) (h0 : 0 ≤ k) (f : Int) : latestOf (q_us M 22 k 1) f = latestOf M f := by
  have e16 : q_us M 22 k 1 50 16 = M 50 16 := if_neg (fun g => absurd g.1 (by decide))
  unfold latestOf
  rw [e16]
  refine latF_drop _ (fun e => h ?_)
  have h1 := lat_17 M f (M 50 16).toNat (by rw [e]; omega)
  rw [e] at h1
  unfold latestOf
  rw [h1.1]
  exact e
theorem rc_keep {M C : q_S} (h : RC M C) (hW : WR M) {v : Int} (hv : 0 ≤ v ∧ v < M 50 16) (hl : ¬ latestOf M (M 17 v) = v) : RC (q_us M 22 v 1) (q_us C (1000 + v) 5 0) := by
  have h16 := rs_16 hW
  have g := rc_V h
  have fC : ∀ t j, t < 999 → q_us C (1000 + v) 5 0 t j = C t j := fun t j x => if_neg (fun y => by have := y.1; omega)
  have fM : ∀ t j, t ≠ 22 → q_us M 22 v 1 t j = M t j := fun t j x => if_neg (fun y => x y.1)
  refine rc_fr_V h h16.1 (fun t j x => fM t j (by omega)) (fun t j x => if_neg (fun y => by omega)) (by have q := h.1; unfold RS at q ⊢; simp only [fC 100 _ (by decide), fC 104 _ (by decide), fC 108 _ (by decide), fC 105 _ (by decide), fM 50 _ (by decide)]; exact q) ⟨fun u a b => ?_, ?_, fun f a b => ?_⟩
  · have b2 : u < M 50 16 := b
    have k := g.1 u a b2
    have ev : vfo (q_us M 22 v 1) u = vfo M u := rfl
    rw [ev, fM 17 u (by decide), fM 18 u (by decide), fM 19 u (by decide), fM 21 u (by decide)]
    simp only [q_us_ap, Int.reduceEq, and_false, if_false, true_and, and_true]
    rw [if_neg (show ¬ ((125 : Int) = 1000 + v ∧ u = 5) by omega)]
    refine ⟨k.1, k.2.1, k.2.2.1, k.2.2.2.1, k.2.2.2.2.1, k.2.2.2.2.2.1, ?_⟩
    by_cases e : u = v
    · rw [if_pos (by omega), if_pos e]; rfl
    · rw [if_neg (by omega), if_neg e]; exact k.2.2.2.2.2.2
  · have k := g.2.1
    have f9 : ∀ j, q_us C (1000 + v) 5 0 999 j = C 999 j := fun j => if_neg (fun y => by have := y.1; omega)
    rw [f9, f9, f9, f9, f9, f9]; exact k
  · rw [lat_drop hl hv.1, fC 124 f (by decide)]; exact g.2.2 f a b
theorem mi_keep {M : q_S} (h : MI M) {v : Int} (hv : 0 ≤ v ∧ v < M 50 16) (hl : ¬ latestOf M (M 17 v) = v) : MI (q_us M 22 v 1) :=
  ⟨h.1, h.2.1, fun u a b => by rw [lat_drop hl hv.1]; exact h.2.2.1 u a b, h.2.2.2⟩
