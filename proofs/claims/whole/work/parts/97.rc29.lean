/-- restoring -/
theorem rs_inv {M : q_S} (hI : MI M) (hP : PMI M) (hK : KI M) (f t : Int) : PMI (restoresF M f t).2 ∧ KI (restoresF M f t).2 ∧ (∀ j : Int, j ≠ 16 → (restoresF M f t).2 50 j = M 50 j) ∧ ∀ p, (restoresF M f t).2 8 p = M 8 p := by
  unfold restoresF
  split
  · exact ⟨hP, hK, fun _ _ => rfl, fun _ => rfl⟩
  · exact ⟨hP.makes _ _ _ _, ki_makes hK hI _ _ _ _, fun j g => by
      unfold makesF
      simp only [q_us_ap, Int.reduceEq, false_and, true_and, if_false]
      rw [if_neg g], fun _ => rfl⟩
theorem inv_restore {M : q_S} {k : Int} (h : INV M k) (f t : Int) : INV (restoreF M f t).2 (k + 1) := by
  unfold restoreF
  split
  · exact inv_thr h (by decide)
  · split
    · exact inv_thr h (by decide)
    · split
      · exact inv_thr h (by decide)
      next e1 e2 e3 =>
        have g36 := rs_36 h.1
        have r := restores_ok (M := thr M 0) (f := f) (t := t) (h.1.thr (by decide)) (mi_thr h.2.2.1 0) (by omega) (by show M 50 16 < 120; omega)
        have s := rs_inv (M := thr M 0) (mi_thr h.2.2.1 0) (h.2.1.of (fun _ => rfl) (fun _ => rfl) rfl) (ki_o h.2.2.2.1 (fun t j g => us_nn (by omega))) f t
        refine ⟨r.1, s.1, r.2.1, s.2.1, ?_⟩
        have hN := h.2.2.2.2
        have e16 : (restoresF (thr M 0) f t).2 50 16 ≤ M 50 16 + 1 := by
          rw [r.2.2.1]
          show M 50 16 + _ ≤ _
          split <;> omega
        have e16b : M 50 16 ≤ (restoresF (thr M 0) f t).2 50 16 := by
          rw [r.2.2.1]
          show M 50 16 ≤ M 50 16 + _
          split <;> omega
        have ss := s.2.2.1
        have z : ∀ j : Int, j ≠ 16 → j ≠ 41 → (restoresF (thr M 0) f t).2 50 j = M 50 j := fun j a b => (ss j a).trans (us_nn (by omega))
        unfold NB at hN ⊢
        rw [nq_o (B := M) (fun p => (s.2.2.2 p).trans rfl) (z 10 (by decide) (by decide)), z 36 (by decide) (by decide), z 9 (by decide) (by decide), z 13 (by decide) (by decide), z 37 (by decide) (by decide), z 38 (by decide) (by decide), z 39 (by decide) (by decide)]
        omega
theorem inv_restoreFolder {M : q_S} {k : Int} (h : INV M k) (d t : Int) : INV (restoreFolderF M d t).2 (k + 1) := by
  unfold restoreFolderF
  split
  · exact inv_thr h (by decide)
  · split
    · exact inv_thr h (by decide)
    · split
      · exact inv_thr h (by decide)
      next e1 e2 e3 =>
        have hT : WR (thr M 0) := h.1.thr (by decide)
        have hI := mi_thr h.2.2.1 0
        have r := fun n hn => rf_ok (M := thr M 0) hT hI (by show M 50 16 ≤ 100; omega) d t n hn
        have hh : ∀ n : Nat, n ≤ 16 → (PMI (rfF (thr M 0) d t n).2 ∧ KI (rfF (thr M 0) d t n).2 ∧ (∀ j : Int, j ≠ 16 → (rfF (thr M 0) d t n).2 50 j = (thr M 0) 50 j) ∧ ∀ p, (rfF (thr M 0) d t n).2 8 p = M 8 p) ∧ M 50 16 ≤ (rfF (thr M 0) d t n).2 50 16 := by
          intro n
          induction n with
          | zero => exact fun _ => ⟨⟨h.2.1.of (fun _ => rfl) (fun _ => rfl) rfl, ki_o h.2.2.2.1 (fun t j g => us_nn (by omega)), fun _ _ => rfl, fun _ => rfl⟩, Int.le_refl _⟩
          | succ n ih =>
            intro hn
            have i := ih (by omega)
            have ii := r n (by omega)
            simp only [rfF]
            split
            · have s := rs_inv ii.2.1 i.1.1 i.1.2.1 n t
              refine ⟨⟨s.1, s.2.1, fun j a => (s.2.2.1 j a).trans (i.1.2.2.1 j a), fun p => (s.2.2.2 p).trans (i.1.2.2.2 p)⟩, ?_⟩
              have q := restores_ok (f := n) (t := t) ii.1 ii.2.1 ⟨by omega, by omega⟩ (by have : (thr M 0) 50 16 = M 50 16 := rfl; omega)
              show M 50 16 ≤ (restoresF (rfF (thr M 0) d t n).2 n t).2 50 16
              rw [q.2.2.1]
              split <;> omega
            · exact i
        have i := hh 16 (by omega)
        have ii := r 16 (by omega)
        refine ⟨ii.1, i.1.1, ii.2.1, i.1.2.1, ?_⟩
        have hN := h.2.2.2.2
        have e16 : (rfF (thr M 0) d t 16).2 50 16 ≤ M 50 16 + 16 := ii.2.2.2.1
        have z : ∀ j : Int, j ≠ 16 → j ≠ 41 → (rfF (thr M 0) d t 16).2 50 j = M 50 j := fun j a b => (i.1.2.2.1 j a).trans (us_nn (by omega))
        unfold NB at hN ⊢
        rw [nq_o (B := M) i.1.2.2.2 (z 10 (by decide) (by decide)), z 36 (by decide) (by decide), z 9 (by decide) (by decide), z 13 (by decide) (by decide), z 37 (by decide) (by decide), z 38 (by decide) (by decide), z 39 (by decide) (by decide)]
        omega
/-- following -/
theorem foS_o {S : q_S} {t j : Int} (h : ¬ (t = 40 ∨ t = 33 ∨ t = 50 ∧ j = 36)) : foS S t j = S t j := by
  rw [foS_T (by omega), us_nn (by omega), foT_o (by omega)]
theorem inv_follow {M : q_S} {k : Int} (h : INV M k) (e : Int) : INV (followF M e).2 (k + 1) := by
  unfold followF
  split
  · exact inv_thr h (by decide)
  · have hh : ∀ (r : Nat) (n : Int) (S : q_S), WR S → S 50 36 ≤ S 50 16 → WR (foF e r n S).2 ∧ (foF e r n S).2 50 36 ≤ (foF e r n S).2 50 16 ∧ ∀ t j : Int, ¬ (t = 40 ∨ t = 33 ∨ t = 50 ∧ j = 36) → (foF e r n S).2 t j = S t j := by
      intro r
      induction r with
      | zero => exact fun n S a b => ⟨a, b, fun _ _ _ => rfl⟩
      | succ r ih =>
        intro n S a b
        simp only [foF]
        split
        · exact ⟨a, b, fun _ _ _ => rfl⟩
        next c =>
          have e36 : foS S 50 36 = S 50 36 + 1 := by rw [foS_T (by decide), us_eq]
          have e16 : foS S 50 16 = S 50 16 := foS_o (by decide)
          have i := ih (n + (1 - S 22 (S 50 36))) (foS S) (wr_foS a (by omega)) (by rw [e36, e16]; omega)
          exact ⟨i.1, i.2.1, fun t j g => (i.2.2 t j g).trans (foS_o g)⟩
    have hN := h.2.2.2.2
    have r := hh (M 50 16 - M 50 36 + 1).toNat 0 (thr M 0) (h.1.thr (by decide)) hN.1.1
    have fo : ∀ t j : Int, ¬ (t = 40 ∨ t = 33 ∨ t = 50 ∧ (j = 36 ∨ j = 41)) → (foF e (M 50 16 - M 50 36 + 1).toNat 0 (thr M 0)).2 t j = M t j := fun t j g => (r.2.2 t j (by omega)).trans (us_nn (by omega))
    refine ⟨r.1, h.2.1.of (fun j => fo 31 j (by omega)) (fun j => fo 35 j (by omega)) (fo 50 34 (by omega)), mi_o h.2.2.1 (fun t j g => fo t j (by omega)), ki_o h.2.2.2.1 (fun t j g => fo t j (by omega)), ?_⟩
    have r36 := r.2.1
    rw [fo 50 16 (by omega)] at r36
    unfold NB at hN ⊢
    rw [nq_o (B := M) (fun p => fo 8 p (by omega)) (fo 50 10 (by omega)), fo 50 16 (by omega), fo 50 9 (by omega), fo 50 13 (by omega), fo 50 37 (by omega), fo 50 38 (by omega), fo 50 39 (by omega)]
    omega
/-- thinning -/
theorem inv_drops {M X : q_S} {k : Int} (h : INV M k) (w : WR X) (p : PMI X) (i : MI X) (fx : ∀ t j : Int, ¬ (t = 22 ∨ t = 50 ∧ j = 41) → X t j = M t j) : INV (dropsF X) (k + 1) := by
  have d := wr_drops w p
  have fd : ∀ t j : Int, ¬ ((31 ≤ t ∧ t ≤ 33) ∨ t = 35 ∨ t = 40 ∨ t = 42) → dropsF X t j = X t j := fun t j g => dropsF_o (by omega) (by omega) (by omega) (by omega) (by omega) (by omega)
  generalize dropsF X = Y at *
  have fo : ∀ t j : Int, ¬ (t = 22 ∨ (31 ≤ t ∧ t ≤ 33) ∨ t = 35 ∨ t = 40 ∨ t = 42 ∨ t = 50 ∧ j = 41) → Y t j = M t j := fun t j g => (fd t j (by omega)).trans (fx t j (by omega))
  exact ⟨d.1, d.2, mi_o i (fun t j g => fd t j (by omega)), ki_o h.2.2.2.1 (fun t j g => fo t j (by omega)), nb_up (nb_o h.2.2.2.2 (fun p => fo 8 p (by omega)) (fun j g => fo 50 j (by omega)))⟩
theorem inv_thin {M : q_S} {k : Int} (h : INV M k) : INV (thinF M).2 (k + 1) := by
  have et : (thinF M).2 = dropsF (thF (thr M 0) (M 50 16).toNat).2 := by unfold thinF; with_reducible rfl
  rw [et]
  have g16 := rs_16 h.1
  have hh : ∀ n : Nat, (n : Int) ≤ M 50 16 → MI (thF (thr M 0) n).2 := by
    intro n
    induction n with
    | zero => exact fun _ => mi_thr h.2.2.1 0
    | succ n ih =>
      intro hn
      have i := ih (by omega)
      have e16 : (thF (thr M 0) n).2 50 16 = M 50 16 := thF_o (by decide) n
      simp only [thF]
      split
      next c => exact mi_keep i ⟨by omega, by omega⟩ (old_lat i ⟨by omega, by omega⟩ c.2.2)
      · exact i
  have hn : ((M 50 16).toNat : Int) = M 50 16 := Int.toNat_of_nonneg g16.1
  have i := hh (M 50 16).toNat (by omega)
  have w := thF_ok (h.1.thr (z := 0) (by decide)) (M 50 16).toNat
  have p : PMI (thF (thr M 0) (M 50 16).toNat).2 := h.2.1.of (fun j => thF_o (by decide) _) (fun j => thF_o (by decide) _) (thF_o (by decide) _)
  have fx : ∀ t j : Int, ¬ (t = 22 ∨ t = 50 ∧ j = 41) → (thF (thr M 0) (M 50 16).toNat).2 t j = M t j := fun t j g => (thF_o (by omega) _).trans (us_nn (by omega))
  exact inv_drops h w p i fx
/-- pulling -/
theorem ki_catch {M : q_S} (hK : KI M) (p v : Int) : KI (cuF M p v) := by
  unfold cuF
  split
  next e =>
    refine ki_copy hK (p := p) (fun t j g gj => (us_nn (by omega)).trans (us_nn (by omega))) (fun t j g => (us_nn (by omega)).trans (us_nn (by omega))) (fun g => ?_)
    have e1 := e.1.1
    have e2 := e.1.2
    rw [show q_us (q_us M 5 p (v + 1)) 4 p (M 20 v) 5 p = v + 1 from (us_nn (by omega)).trans us_eq, show v + 1 - 1 = v by omega]
    refine Or.inr ⟨fun x => x.elim e1 (fun y => by
      have : M 21 v = 0 := y
      omega), ?_⟩
    rw [us_eq]
    exact ⟨e.2.1, e.2.2, rfl⟩
  · exact ki_becomes hK p v
theorem inv_pull {M : q_S} {k : Int} (h : INV M k) (m : Int) : INV (pullF M m).2 (k + 1) := by
  unfold pullF
  split
  · exact inv_thr h (by decide)
  next e1 =>
    have hm : 0 ≤ m ∧ m ≤ 2 := Decidable.of_not_not e1
    have a := pl_ok (M := thr M 0) (h.1.thr (by decide)) (mi_thr h.2.2.1 0) hm 16 (by omega)
    have hh : ∀ n : Nat, KI (plF (thr M 0) m n).2 ∧ ∀ t j : Int, ¬ (2 ≤ t ∧ t ≤ 5) → (plF (thr M 0) m n).2 t j = (thr M 0) t j := by
      intro n
      induction n with
      | zero => exact ⟨ki_o h.2.2.2.1 (fun t j g => us_nn (by omega)), fun _ _ _ => rfl⟩
      | succ n ih =>
        rw [pl_step]
        split
        · exact ⟨ki_catch ih.1 _ _, fun t j g => (cu_o (by omega)).trans (ih.2 t j g)⟩
        · exact ih
    have fo : ∀ t j : Int, ¬ ((2 ≤ t ∧ t ≤ 5) ∨ t = 50 ∧ j = 41) → (plF (thr M 0) m 16).2 t j = M t j := fun t j g => ((hh 16).2 t j (by omega)).trans (us_nn (by omega))
    exact ⟨a.1, h.2.1.of (fun j => fo 31 j (by omega)) (fun j => fo 35 j (by omega)) (fo 50 34 (by omega)), a.2.1, (hh 16).1, nb_up (nb_o h.2.2.2.2 (fun p => fo 8 p (by omega)) (fun j g => fo 50 j (by omega)))⟩
