theorem covX_thr {X : Int → Bool} {M : q_S} (h : covX X M) (z : Int) : covX X (thr M z) := covX_o h (fun p => us_nn (by omega)) (fun p => us_nn (by omega)) (us_nn (by omega)) (fun p => us_nn (by omega))
theorem zcov_thr {Z : Int → Bool} {M : q_S} (h : zcov Z M) (z : Int) : zcov Z (thr M z) := zcov_o h (fun p => us_nn (by omega)) (fun p => us_nn (by omega)) (fun p => us_nn (by omega)) (fun p => us_nn (by omega))
theorem gi_late {M : q_S} {k : Int} (h : GI M k) (m x : Int) : GI ((lateF M m x).2) (k + 1) := by
  unfold lateF
  split
  · exact gi_thr h _
  split
  · exact gi_thr h _
  exact gi_o h (fun t j g => (us_nn (by omega)).trans (us_nn (by omega)))
theorem gi_room {M : q_S} {k : Int} (h : GI M k) (m x : Int) : GI ((roomF M m x).2) (k + 1) := by
  unfold roomF
  split
  · exact gi_thr h _
  split
  · exact gi_thr h _
  exact gi_o h (fun t j g => (us_nn (by omega)).trans (us_nn (by omega)))
theorem gi_pin {M : q_S} {k : Int} (h : GI M k) (m f b : Int) : GI ((pinF M m f b).2) (k + 1) := by
  unfold pinF
  split
  · exact gi_thr h _
  exact gi_o h (fun t j g => (us_nn (by omega)).trans (us_nn (by omega)))
theorem gi_lock {M : q_S} {k : Int} (h : GI M k) (m f x : Int) : GI ((lockMF M m f x).2) (k + 1) := by
  unfold lockMF
  split
  · exact gi_thr h _
  split
  · exact gi_thr h _
  split
  · exact gi_thr h _
  exact gi_o h (fun t j g => (us_nn (by omega)).trans ((us_nn (by omega)).trans (us_nn (by omega))))
theorem gi_breakLock {M : q_S} {k : Int} (h : GI M k) (f : Int) : GI ((breakF M f).2) (k + 1) := by
  unfold breakF
  split
  · exact gi_thr h _
  split
  · exact gi_thr h _
  exact gi_o h (fun t j g => (us_nn (by omega)).trans (us_nn (by omega)))
theorem gi_share {M : q_S} {k : Int} (h : GI M k) (d m r x : Int) : GI (shareF M d m r x) (k + 1) := by
  unfold shareF
  split
  · exact gi_thr h _
  split
  · exact gi_thr h _
  exact gi_o h (fun t j g => (us_nn (by omega)).trans ((us_nn (by omega)).trans (us_nn (by omega))))
theorem gi_hold {M : q_S} {k : Int} (h : GI M k) (f a b : Int) : GI ((holdF M f a b).2) (k + 1) := by
  unfold holdF
  split
  · exact gi_thr h _
  split
  · exact gi_thr h _
  split
  · exact gi_thr h _
  exact gi_o h (fun t j g => (us_nn (by omega)).trans ((us_nn (by omega)).trans ((us_nn (by omega)).trans ((us_nn (by omega)).trans (us_nn (by omega))))))
theorem gi_release {M : q_S} {k : Int} (h : GI M k)  : GI ((releaseF M).2) (k + 1) := by
  unfold releaseF
  exact gi_o h (fun t j g => (us_nn (by omega)).trans (us_nn (by omega)))
theorem gi_damage {M : q_S} {k : Int} (h : GI M k) (p : Int) : GI (damageF M p).2 (k + 1) := by
  unfold damageF
  split
  · exact gi_thr h _
  · have hh : ∀ n : Nat, ∀ t j : Int, t ≠ 32 → (daF (thr M 0) p n).2 t j = thr M 0 t j := by
      intro n
      induction n with
      | zero => exact fun _ _ _ => rfl
      | succ n ih =>
        simp only [daF]
        split
        · exact fun t j g => (us_ne g).trans (ih t j g)
        · exact ih
    exact gi_o h (fun t j g => by rw [hh _ t j (by omega)]; exact us_nn (by omega))
theorem gi_scrub {M : q_S} {k : Int} (h : GI M k) : GI (scrubF M).2 (k + 1) := by
  unfold scrubF
  have hh : ∀ n : Nat, ∀ t j : Int, t ≠ 32 → (srF (thr M 0) n).2 t j = thr M 0 t j := by
    intro n
    induction n with
    | zero => exact fun _ _ _ => rfl
    | succ n ih =>
      simp only [srF]
      split
      · exact fun t j g => (us_ne g).trans (ih t j g)
      · exact ih
  exact gi_o h (fun t j g => by rw [hh _ t j (by omega)]; exact us_nn (by omega))
theorem gi_lost {M : q_S} {k : Int} (h : GI M k) : GI (lostF M).2 (k + 1) := by
  unfold lostF
  have hh : ∀ n : Nat, ∀ t j : Int, t ≠ 40 → (ltF (thr M 0) n).2 t j = thr M 0 t j := by
    intro n
    induction n with
    | zero => exact fun _ _ _ => rfl
    | succ n ih =>
      simp only [ltF]
      split
      · exact ih
      · exact fun t j g => (cutS_o g).trans (ih t j g)
  exact gi_o h (fun t j g => by rw [hh _ t j (by omega)]; exact us_nn (by omega))
theorem gi_lose {M : q_S} {k : Int} (h : GI M k) (m : Int) : GI (loseF M m).2 (k + 1) := by
  unfold loseF
  split
  · exact gi_thr h _
  · exact gi_o h (fun t j g => by rw [(loF_sp (thr M 0) m _).1, if_neg (by omega)]; exact us_nn (by omega))
theorem gi_follow {M : q_S} {k : Int} (h : GI M k) (e : Int) : GI (followF M e).2 (k + 1) := by
  unfold followF
  split
  · exact gi_thr h _
  · have hh : ∀ (r : Nat) (n : Int) (S : q_S), ∀ t j : Int, ¬ (t = 40 ∨ t = 33 ∨ t = 50 ∧ j = 36) → (foF e r n S).2 t j = S t j := by
      intro r
      induction r with
      | zero => exact fun n S _ _ _ => rfl
      | succ r ih =>
        intro n S t j g
        simp only [foF]
        split
        · rfl
        · exact (ih _ _ t j g).trans (foS_o g)
    exact gi_o h (fun t j g => (hh _ _ _ t j (by omega)).trans (us_nn (by omega)))
theorem gi_draft {M : q_S} {k : Int} (h : GI M k) (hI : MI M) (n : Int) : GI (draftF M n).2 (k + 1) := by
  unfold draftF
  split
  · exact gi_thr h _
  · split
    · exact gi_thr h _
    next h1 h2 =>
      have hd := (draft_more (n := n) hI.1 h2 (Decidable.of_not_not h1)).2.1
      generalize (if M 50 0 = 0 then 10 else 10 * M 50 0) + n = z at hd
      show GI (q_us (thr M 0) 50 0 z) (k + 1)
      have fo : ∀ t j : Int, ¬ (t = 50 ∧ (j = 0 ∨ j = 41)) → q_us (thr M 0) 50 0 z t j = M t j := fun t j g => (us_nn (by omega)).trans (us_nn (by omega))
      obtain ⟨X, Z, A, Wd, s, th, u, e, G0, E0, E20, U0, c0, ⟨a, b⟩, d, f⟩ := h
      refine ⟨X, Z, A + 1, Wd, s, th, u, e, G0, E0, E20, U0, c0, ⟨covX_o a (fun p => fo 3 p (by omega)) (fun p => fo 21 p (by omega)) (fo 50 16 (by omega)) (fun p => fo 31 p (by omega)), zcov_o b (fun p => fo 8 p (by omega)) (fun p => fo 2 p (by omega)) (fun p => fo 3 p (by omega)) (fun p => fo 31 p (by omega))⟩, ?_, ?_⟩
      · rw [sz_o (B := M) (fun x => fo 31 x (by omega)), show gP (q_us (thr M 0) 50 0 z) = gP M from rfl, show cP (q_us (thr M 0) 50 0 z) = cP M from rfl, fo 50 39 (by omega), us_eq, hd]
        exact num_draft d
      · rw [fo 50 39 (by omega)]; exact f
/-- edits -/
theorem gi_editsF {M S : q_S} {k : Int} (h : GI M k) {p : Int} (h3 : ∀ X, covX X M → covX X S) (hS : ∀ t j : Int, ((t = 31 ∨ t = 35) ∨ t = 50 ∧ (j = 0 ∨ j = 34 ∨ j = 39)) → S t j = M t j) : GI (editsF S p) (k + 1) := by
  have fo : ∀ t j : Int, ¬ (t = 8 ∨ t = 14 ∨ t = 15 ∨ t = 50 ∧ (j = 10 ∨ j = 13)) → editsF S p t j = S t j := fun t j g => by
    by_cases e : t = 50
    · subst e; exact editsF_s (by omega) (by omega)
    · exact editsF_o (by omega) e (by omega) (by omega)
  exact gi_s h (fun X a => covX_o (h3 X a) (fun p => fo 3 p (by omega)) (fun p => fo 21 p (by omega)) (fo 50 16 (by omega)) (fun p => fo 31 p (by omega))) (fun x => (fo 31 x (by omega)).trans (hS 31 x (by omega))) (fun x => (fo 35 x (by omega)).trans (hS 35 x (by omega))) ((fo 50 34 (by omega)).trans (hS 50 34 (by omega))) ((fo 50 39 (by omega)).trans (hS 50 39 (by omega))) ((fo 50 0 (by omega)).trans (hS 50 0 (by omega)))
theorem gi_move {M : q_S} {k : Int} (h : GI M k) (m f d : Int) : GI (moveF M m f d).2 (k + 1) := by
  unfold moveF
  split
  · exact gi_thr h _
  · split
    · exact gi_thr h _
    · exact gi_editsF h (fun X a => covX_o a (fun p => (us_nn (by omega)).trans (us_nn (by omega))) (fun p => (us_nn (by omega)).trans (us_nn (by omega))) ((us_nn (by omega)).trans (us_nn (by omega))) (fun p => (us_nn (by omega)).trans (us_nn (by omega)))) (fun t j g => (us_nn (by omega)).trans (us_nn (by omega)))
theorem covX_leaves {X : Int → Bool} {M : q_S} (h : covX X M) (p : Int) : covX X (leavesF M p) := by
  refine ⟨fun q a b => ?_, fun v a b => h.2.1 v a b, fun x a b => h.2.2 x a b⟩
  have e : leavesF M p 3 q = if q = p then 0 else M 3 q := by unfold leavesF; simp only [q_us_ap, Int.reduceEq, false_and, true_and, if_false]
  rw [e]
  split
  · exact inC_0 X
  · exact h.1 q a b
theorem gi_erase {M : q_S} {k : Int} (h : GI M k) (m f : Int) : GI (eraseF M m f).2 (k + 1) := by
  unfold eraseF
  split
  · exact gi_thr h _
  · split
    · exact gi_thr h _
    · refine gi_editsF h (fun X a => covX_leaves (covX_thr a 0) _) (fun t j g => ?_)
      unfold leavesF
      exact (us_nn (by omega)).trans ((us_nn (by omega)).trans ((us_nn (by omega)).trans (us_nn (by omega))))
theorem gi_scan {M : q_S} {k : Int} (h : GI M k) (m : Int) : GI (scanF M m).2 (k + 1) := by
  unfold scanF
  split
  · exact gi_thr h _
  · have fo : ∀ t j : Int, ¬ (t = 8 ∨ t = 50 ∧ j = 10 ∨ t = 50 ∧ j = 41) → (scF (thr M 0) m 16).2 t j = M t j := fun t j g => (scF_o (by omega) (by omega) 16).trans (us_nn (by omega))
    exact gi_s h (fun X a => covX_o a (fun p => fo 3 p (by omega)) (fun p => fo 21 p (by omega)) (fo 50 16 (by omega)) (fun p => fo 31 p (by omega))) (fun x => fo 31 x (by omega)) (fun x => fo 35 x (by omega)) (fo 50 34 (by omega)) (fo 50 39 (by omega)) (fo 50 0 (by omega))
theorem gi_pass {M : q_S} {k : Int} (h : GI M k) (x : Int) : GI (passF M x).2 (k + 1) := by
  unfold passF
  split
  · exact gi_thr h _
  · split
    · exact gi_thr h _
    · have fo : ∀ t j : Int, ¬ (t = 8 ∨ t = 15 ∨ t = 50 ∧ j = 10 ∨ t = 50 ∧ j = 1 ∨ t = 50 ∧ j = 41) → psF (thr M 0) x.toNat t j = M t j := fun t j g => (psF_o (by omega) _).trans (us_nn (by omega))
      exact gi_s h (fun X a => covX_o a (fun p => fo 3 p (by omega)) (fun p => fo 21 p (by omega)) (fo 50 16 (by omega)) (fun p => fo 31 p (by omega))) (fun x => fo 31 x (by omega)) (fun x => fo 35 x (by omega)) (fo 50 34 (by omega)) (fo 50 39 (by omega)) (fo 50 0 (by omega))
/-- restoring -/
theorem covX_restores {X : Int → Bool} {M : q_S} (h : covX X M) (h16 : 0 ≤ M 50 16) (f t : Int) : covX X (restoresF M f t).2 ∧ 0 ≤ (restoresF M f t).2 50 16 := by
  have hr := asOfF_rg M f t (M 50 16).toNat
  unfold restoresF
  split
  · exact ⟨h, h16⟩
  next e =>
    have g : 0 ≤ asOfT M f t := by
      unfold asOfT at e ⊢
      have := fun g => e (Or.inl g)
      omega
    have g2 : asOfT M f t < M 50 16 := by unfold asOfT; omega
    have e16 : makesF M f (-1) (M 21 (asOfT M f t)) (M 20 (asOfT M f t)) 50 16 = M 50 16 + 1 := by unfold makesF; exact us_eq
    have e21 : ∀ v, makesF M f (-1) (M 21 (asOfT M f t)) (M 20 (asOfT M f t)) 21 v = if v = M 50 16 then M 21 (asOfT M f t) else M 21 v := fun v => by
      unfold makesF; simp only [q_us_ap, Int.reduceEq, false_and, true_and, if_false]
    refine ⟨⟨fun p a b => h.1 p a b, fun v a b => ?_, fun x a b => h.2.2 x a b⟩, by show 0 ≤ makesF M f (-1) (M 21 (asOfT M f t)) (M 20 (asOfT M f t)) 50 16; omega⟩
    have b2 : v < makesF M f (-1) (M 21 (asOfT M f t)) (M 20 (asOfT M f t)) 50 16 := b
    show inC X (makesF M f (-1) (M 21 (asOfT M f t)) (M 20 (asOfT M f t)) 21 v)
    rw [e21]
    split
    · exact h.2.1 _ g g2
    · exact h.2.1 v a (by omega)
theorem restores_o {M : q_S} {f t t2 j : Int} (h : ¬ ((17 ≤ t2 ∧ t2 ≤ 22) ∨ t2 = 50 ∧ j = 16)) : (restoresF M f t).2 t2 j = M t2 j := by
  unfold restoresF
  split
  · rfl
  · unfold makesF
    exact (us_nn (by omega)).trans ((us_nn (by omega)).trans ((us_nn (by omega)).trans ((us_nn (by omega)).trans ((us_nn (by omega)).trans ((us_nn (by omega)).trans (us_nn (by omega)))))))
theorem gi_mk {M M' : q_S} {k : Int} (h : GI M k) (hX : ∀ X, covX X M → covX X M') (fo : ∀ t2 j : Int, ¬ ((17 ≤ t2 ∧ t2 ≤ 22) ∨ t2 = 50 ∧ (j = 16 ∨ j = 41)) → M' t2 j = M t2 j) : GI M' (k + 1) :=
  gi_n h hX (fun X Z _ b => zcov_o b (fun p => fo 8 p (by omega)) (fun p => fo 2 p (by omega)) (fun p => fo 3 p (by omega)) (fun x => fo 31 x (by omega))) (fun x => fo 31 x (by omega)) (fun x => fo 35 x (by omega)) (fo 50 34 (by omega)) (fo 50 39 (by omega)) (fo 50 0 (by omega))
theorem gi_restore {M : q_S} {k : Int} (h : GI M k) (h16 : 0 ≤ M 50 16) (f t : Int) : GI (restoreF M f t).2 (k + 1) := by
  unfold restoreF
  split
  · exact gi_thr h _
  · split
    · exact gi_thr h _
    · split
      · exact gi_thr h _
      · exact gi_mk h (fun X a => (covX_restores (M := thr M 0) (covX_thr a 0) h16 f t).1) (fun t2 j g => (restores_o (by omega)).trans (us_nn (by omega)))
theorem gi_restoreFolder {M : q_S} {k : Int} (h : GI M k) (h16 : 0 ≤ M 50 16) (d t : Int) : GI (restoreFolderF M d t).2 (k + 1) := by
  unfold restoreFolderF
  split
  · exact gi_thr h _
  · split
    · exact gi_thr h _
    · split
      · exact gi_thr h _
      · have hh : ∀ n : Nat, (∀ X, covX X M → covX X (rfF (thr M 0) d t n).2) ∧ 0 ≤ (rfF (thr M 0) d t n).2 50 16 ∧ ∀ t2 j : Int, ¬ ((17 ≤ t2 ∧ t2 ≤ 22) ∨ t2 = 50 ∧ j = 16) → (rfF (thr M 0) d t n).2 t2 j = (thr M 0) t2 j := by
          intro n
          induction n with
          | zero => exact ⟨fun X a => covX_thr a 0, h16, fun _ _ _ => rfl⟩
          | succ n ih =>
            simp only [rfF]
            split
            · exact ⟨fun X a => (covX_restores (ih.1 X a) ih.2.1 n t).1, (covX_restores (M := (rfF (thr M 0) d t n).2) (X := fun _ => true) ⟨fun _ _ _ _ _ _ => rfl, fun _ _ _ _ _ _ => rfl, fun _ _ _ _ => rfl⟩ ih.2.1 n t).2, fun t2 j g => (restores_o g).trans (ih.2.2 t2 j g)⟩
            · exact ih
        exact gi_mk h (hh 16).1 (fun t2 j g => ((hh 16).2.2 t2 j (by omega)).trans (us_nn (by omega)))
/-- pulling -/
theorem cov_cu {X Z : Int → Bool} {M : q_S} {p v : Int} (h : covX X M) (hz : zcov Z M) (hv : 0 ≤ v ∧ v < M 50 16) : covX X (cuF M p v) ∧ zcov Z (cuF M p v) := by
  unfold cuF
  split
  · exact ⟨⟨h.1, h.2.1, h.2.2⟩, fun q a b c d i e f g => hz q a b c d i e f g⟩
  · unfold becomesF
    split
    · have e3 : ∀ q, q_us (q_us (q_us (q_us M 5 p (v + 1)) 2 p 1) 3 p (M 21 v)) 4 p (M 20 v) 3 q = if q = p then M 21 v else M 3 q := fun q => by simp only [q_us_ap, Int.reduceEq, false_and, true_and, if_false]
      have e2 : ∀ q, q_us (q_us (q_us (q_us M 5 p (v + 1)) 2 p 1) 3 p (M 21 v)) 4 p (M 20 v) 2 q = if q = p then 1 else M 2 q := fun q => by simp only [q_us_ap, Int.reduceEq, false_and, true_and, if_false]
      refine ⟨⟨fun q a b => ?_, h.2.1, h.2.2⟩, fun q a b c d i e f g => ?_⟩
      · rw [e3]
        split
        · exact h.2.1 v hv.1 hv.2
        · exact h.1 q a b
      · rw [e2] at d
        by_cases eq : q = p
        · rw [if_pos eq] at d; exact absurd d (by decide)
        · rw [if_neg eq] at d
          rw [e3, if_neg eq] at f g ⊢
          exact hz q a b c d i e f g
    · refine ⟨covX_leaves ⟨h.1, h.2.1, h.2.2⟩ p, fun q a b c d i e f g => ?_⟩
      have e3 : leavesF (q_us M 5 p (v + 1)) p 3 q = if q = p then 0 else M 3 q := by unfold leavesF; simp only [q_us_ap, Int.reduceEq, false_and, true_and, if_false]
      have e2 : leavesF (q_us M 5 p (v + 1)) p 2 q = if q = p then 0 else M 2 q := by unfold leavesF; simp only [q_us_ap, Int.reduceEq, false_and, true_and, if_false]
      rw [e2] at d
      by_cases eq : q = p
      · rw [if_pos eq] at d; exact absurd d (by decide)
      · rw [if_neg eq] at d
        rw [e3, if_neg eq] at f g ⊢
        exact hz q a b c d i e f g
theorem gi_pull {M : q_S} {k : Int} (h : GI M k) (m : Int) : GI (pullF M m).2 (k + 1) := by
  unfold pullF
  split
  · exact gi_thr h _
  · have fo : ∀ n : Nat, ∀ t j : Int, ¬ (2 ≤ t ∧ t ≤ 5) → (plF (thr M 0) m n).2 t j = (thr M 0) t j := by
      intro n
      induction n with
      | zero => exact fun _ _ _ => rfl
      | succ n ih =>
        rw [pl_step]
        split
        · exact fun t j g => (cu_o (by omega)).trans (ih t j g)
        · exact ih
    have hh : ∀ X Z, covX X M → zcov Z M → ∀ n : Nat, covX X (plF (thr M 0) m n).2 ∧ zcov Z (plF (thr M 0) m n).2 := by
      intro X Z a b n
      induction n with
      | zero => exact ⟨covX_thr a 0, zcov_thr b 0⟩
      | succ n ih =>
        rw [pl_step]
        split
        next c =>
          have r := latF_rg (plF (thr M 0) m n).2 n ((plF (thr M 0) m n).2 50 16).toNat
          have c2 := c.2.1
          unfold latestOf at c2
          refine cov_cu ih.1 ih.2 ⟨?_, ?_⟩
          · unfold latestOf; omega
          · unfold latestOf; omega
        · exact ih
    have f2 : ∀ t j : Int, ¬ ((2 ≤ t ∧ t ≤ 5) ∨ t = 50 ∧ j = 41) → (plF (thr M 0) m 16).2 t j = M t j := fun t j g => (fo 16 t j (by omega)).trans (us_nn (by omega))
    exact gi_n h (fun X a => (hh X X a (zcov_X a) 16).1) (fun X Z a b => (hh X Z a b 16).2) (fun x => f2 31 x (by omega)) (fun x => f2 35 x (by omega)) (f2 50 34 (by omega)) (f2 50 39 (by omega)) (f2 50 0 (by omega))
