/-- the invariant of a run: what holds of the reference after k calls -/
theorem us_nn {S : q_S} {t j z t2 j2 : Int} (h : ¬ (t2 = t ∧ j2 = j)) : q_us S t j z t2 j2 = S t2 j2 := if_neg h
theorem us_ne2 {S : q_S} {t j z t2 j2 : Int} (h : j2 ≠ j) : q_us S t j z t2 j2 = S t2 j2 := if_neg (fun g => h g.2)
theorem us_eq {S : q_S} {t j z : Int} : q_us S t j z t j = z := if_pos ⟨rfl, rfl⟩
def czF (M : q_S) : Int := sumF (fun p => if M 8 p = 0 then 1 else 0) 48
def nqF (M : q_S) : Int := M 50 10 + czF M
def NB (M : q_S) (k : Int) : Prop := (M 50 36 ≤ M 50 16 ∧ M 50 16 ≤ 117) ∧ M 50 9 ≤ k ∧ M 50 13 ≤ k ∧ nqF M ≤ 48 * k + 48 ∧ M 50 37 ≤ 17 * k ∧ M 50 38 ≤ 17 * k ∧ M 50 39 ≤ 204 * k
def INV (M : q_S) (k : Int) : Prop := WR M ∧ PMI M ∧ MI M ∧ KI M ∧ NB M k
theorem cz_rg (M : q_S) : 0 ≤ czF M ∧ czF M ≤ 48 := sumF_01 (fun i => by split <;> omega) 48
theorem cz_o {A B : q_S} (h : ∀ p, A 8 p = B 8 p) : czF A = czF B := sumF_congr _ (fun k _ _ => by rw [h])
theorem cz_us {M : q_S} {p : Int} (hp : 0 ≤ p ∧ p < 48) (z : Int) : czF (q_us M 8 p z) = czF M + ((if z = 0 then 1 else 0) - (if M 8 p = 0 then 1 else 0)) := by
  unfold czF
  rw [sumF_pt (f := fun q => if q_us M 8 p z 8 q = 0 then (1 : Int) else 0) (g := fun q => if M 8 q = 0 then (1 : Int) else 0) hp.1 (fun k hk => by rw [us_ne2 hk]) 48, if_pos (show p < ((48 : Nat) : Int) from hp.2)]
  show _ + ((if q_us M 8 p z 8 p = 0 then (1 : Int) else 0) - _) = _
  rw [show q_us M 8 p z 8 p = z from if_pos ⟨rfl, rfl⟩]
theorem nq_o {A B : q_S} (h : ∀ p, A 8 p = B 8 p) (h2 : A 50 10 = B 50 10) : nqF A = nqF B := by unfold nqF; rw [cz_o h, h2]
theorem nq_le (M : q_S) : M 50 10 ≤ nqF M := by have := cz_rg M; unfold nqF; omega
theorem nq_notes (M : q_S) {p : Int} (hp : 0 ≤ p ∧ p < 48) (hW : WR M) : nqF (notesF M p) = nqF M := by
  have g10 : 0 ≤ M 50 10 := (hW 50 10).1
  unfold notesF
  split
  next e =>
    unfold nqF
    rw [cz_us hp, us_ne (by decide)]
    rw [show q_us M 50 10 (M 50 10 + 1) 50 10 = M 50 10 + 1 from if_pos ⟨rfl, rfl⟩, if_neg (by omega), show q_us M 50 10 (M 50 10 + 1) 8 p = M 8 p from us_ne (by decide), if_pos e, cz_o (A := q_us M 50 10 (M 50 10 + 1)) (B := M) (fun q => us_ne (by decide))]
    omega
  · rfl
theorem nb_o {M M' : q_S} {k : Int} (h : NB M k) (h8 : ∀ p, M' 8 p = M 8 p) (hM : ∀ j : Int, (j = 9 ∨ j = 10 ∨ j = 13 ∨ j = 16 ∨ j = 36 ∨ j = 37 ∨ j = 38 ∨ j = 39) → M' 50 j = M 50 j) : NB M' k := by
  unfold NB
  rw [nq_o h8 (hM 10 (by omega)), hM 36 (by omega), hM 16 (by omega), hM 9 (by omega), hM 13 (by omega), hM 37 (by omega), hM 38 (by omega), hM 39 (by omega)]
  exact h
theorem nb_up {M : q_S} {k : Int} (h : NB M k) : NB M (k + 1) := by
  unfold NB at h ⊢; omega
/-- the calls that change nothing of this -/
theorem inv_o {M M' : q_S} {k : Int} (h : INV M k) (hW : WR M') (hM : ∀ t j : Int, ¬ ((t = 6 ∨ t = 7) ∨ (t = 11 ∨ t = 12) ∨ (23 ≤ t ∧ t ≤ 30) ∨ (t = 32 ∨ t = 33) ∨ (t = 40 ∨ t = 42) ∨ t = 50 ∧ (j = 27 ∨ j = 41)) → M' t j = M t j) : INV M' (k + 1) :=
  ⟨hW, h.2.1.of (fun j => hM 31 j (by omega)) (fun j => hM 35 j (by omega)) (hM 50 34 (by omega)), mi_o h.2.2.1 (fun t j g => hM t j (by omega)), ki_o h.2.2.2.1 (fun t j g => hM t j (by omega)), nb_up (nb_o h.2.2.2.2 (fun p => hM 8 p (by omega)) (fun j g => hM 50 j (by omega)))⟩
theorem inv_thr {M : q_S} {k : Int} (h : INV M k) {z : Int} (hz : 0 ≤ z ∧ z ≤ 3) : INV (thr M z) (k + 1) :=
  inv_o h (h.1.thr hz) (fun t j g => us_nn (by omega))
theorem inv_late {M : q_S} {k : Int} (h : INV M k) (m x : Int) : INV ((lateF M m x).2) (k + 1) := by
  unfold lateF
  split
  · exact inv_thr h (by decide)
  split
  · exact inv_thr h (by decide)
  exact inv_o h ((h.1.thr (z := 0) (by decide)).up ⟨(show (0 : Int) ≤ x by omega), (show x ≤ (50 : Int) by omega)⟩) (fun t j g => (us_nn (by omega)).trans (us_nn (by omega)))

theorem inv_room {M : q_S} {k : Int} (h : INV M k) (m x : Int) : INV ((roomF M m x).2) (k + 1) := by
  unfold roomF
  split
  · exact inv_thr h (by decide)
  split
  · exact inv_thr h (by decide)
  exact inv_o h ((h.1.thr (z := 0) (by decide)).up ⟨(show (0 : Int) ≤ x by omega), (show x ≤ (200 : Int) by omega)⟩) (fun t j g => (us_nn (by omega)).trans (us_nn (by omega)))

theorem inv_pin {M : q_S} {k : Int} (h : INV M k) (m f : Int) {b : Int} (hb : b = 0 ∨ b = 1) : INV ((pinF M m f b).2) (k + 1) := by
  unfold pinF
  split
  · exact inv_thr h (by decide)
  exact inv_o h ((h.1.thr (z := 0) (by decide)).up ⟨(show (0 : Int) ≤ b by omega), (show b ≤ (1 : Int) by omega)⟩) (fun t j g => (us_nn (by omega)).trans (us_nn (by omega)))

theorem inv_lock {M : q_S} {k : Int} (h : INV M k) (m f x : Int) : INV ((lockMF M m f x).2) (k + 1) := by
  unfold lockMF
  have g1 := rs_1 h.1
  unfold inMF at *
  split
  · exact inv_thr h (by decide)
  split
  · exact inv_thr h (by decide)
  split
  · exact inv_thr h (by decide)
  exact inv_o h (((h.1.thr (z := 0) (by decide)).up ⟨(show (0 : Int) ≤ m + 1 by omega), (show m + 1 ≤ (3 : Int) by omega)⟩).up ⟨(show (0 : Int) ≤ M 50 1 + x by omega), (show M 50 1 + x ≤ (2100 : Int) by omega)⟩) (fun t j g => (us_nn (by omega)).trans ((us_nn (by omega)).trans (us_nn (by omega))))

theorem inv_breakLock {M : q_S} {k : Int} (h : INV M k) (f : Int) : INV ((breakF M f).2) (k + 1) := by
  unfold breakF
  split
  · exact inv_thr h (by decide)
  split
  · exact inv_thr h (by decide)
  exact inv_o h ((h.1.thr (z := 0) (by decide)).up ⟨(show (0 : Int) ≤ 0 by omega), (show 0 ≤ (3 : Int) by omega)⟩) (fun t j g => (us_nn (by omega)).trans (us_nn (by omega)))

theorem inv_share {M : q_S} {k : Int} (h : INV M k) (d m r x : Int) : INV (shareF M d m r x) (k + 1) := by
  unfold shareF
  have g1 := rs_1 h.1
  split
  · exact inv_thr h (by decide)
  split
  · exact inv_thr h (by decide)
  exact inv_o h (((h.1.thr (z := 0) (by decide)).up ⟨(show (0 : Int) ≤ r by omega), (show r ≤ (2 : Int) by omega)⟩).up ⟨(show (0 : Int) ≤ M 50 1 + x by omega), (show M 50 1 + x ≤ (4100 : Int) by omega)⟩) (fun t j g => (us_nn (by omega)).trans ((us_nn (by omega)).trans (us_nn (by omega))))

theorem inv_hold {M : q_S} {k : Int} (h : INV M k) (f a b : Int) : INV ((holdF M f a b).2) (k + 1) := by
  unfold holdF
  have g1 := rs_27 h.1
  split
  · exact inv_thr h (by decide)
  split
  · exact inv_thr h (by decide)
  split
  · exact inv_thr h (by decide)
  exact inv_o h (((((h.1.thr (z := 0) (by decide)).up ⟨(show (0 : Int) ≤ f by omega), (show f ≤ (15 : Int) by omega)⟩).up ⟨(show (0 : Int) ≤ a by omega), (show a ≤ (2000 : Int) by omega)⟩).up ⟨(show (0 : Int) ≤ b by omega), (show b ≤ (2000 : Int) by omega)⟩).up ⟨(show (0 : Int) ≤ M 50 27 + 1 by omega), (show M 50 27 + 1 ≤ (10 : Int) by omega)⟩) (fun t j g => (us_nn (by omega)).trans ((us_nn (by omega)).trans ((us_nn (by omega)).trans ((us_nn (by omega)).trans (us_nn (by omega))))))

theorem inv_release {M : q_S} {k : Int} (h : INV M k)  : INV ((releaseF M).2) (k + 1) := by
  unfold releaseF
  exact inv_o h ((h.1.thr (z := 0) (by decide)).up ⟨(show (0 : Int) ≤ 0 by omega), (show 0 ≤ (10 : Int) by omega)⟩) (fun t j g => (us_nn (by omega)).trans (us_nn (by omega)))
theorem inv_damage {M : q_S} {k : Int} (h : INV M k) (p : Int) : INV (damageF M p).2 (k + 1) := by
  unfold damageF
  split
  · exact inv_thr h (by decide)
  · have hh : ∀ n : Nat, WR (daF (thr M 0) p n).2 ∧ ∀ t j : Int, t ≠ 32 → (daF (thr M 0) p n).2 t j = thr M 0 t j := by
      intro n
      induction n with
      | zero => exact ⟨h.1.thr (by decide), fun _ _ _ => rfl⟩
      | succ n ih =>
        simp only [daF]
        split
        · exact ⟨ih.1.up ⟨(by show (0 : Int) ≤ 1; decide), (by show (1 : Int) ≤ 1; decide)⟩, fun t j g => (us_ne g).trans (ih.2 t j g)⟩
        · exact ih
    exact inv_o h (hh _).1 (fun t j g => by rw [(hh _).2 t j (by omega)]; exact us_nn (by omega))
theorem inv_scrub {M : q_S} {k : Int} (h : INV M k) : INV (scrubF M).2 (k + 1) := by
  unfold scrubF
  have hh : ∀ n : Nat, WR (srF (thr M 0) n).2 ∧ ∀ t j : Int, t ≠ 32 → (srF (thr M 0) n).2 t j = thr M 0 t j := by
    intro n
    induction n with
    | zero => exact ⟨h.1.thr (by decide), fun _ _ _ => rfl⟩
    | succ n ih =>
      simp only [srF]
      split
      · exact ⟨ih.1.up ⟨(by show (0 : Int) ≤ 0; decide), (by show (0 : Int) ≤ 1; decide)⟩, fun t j g => (us_ne g).trans (ih.2 t j g)⟩
      · exact ih
  exact inv_o h (hh _).1 (fun t j g => by rw [(hh _).2 t j (by omega)]; exact us_nn (by omega))
theorem inv_lost {M : q_S} {k : Int} (h : INV M k) : INV (lostF M).2 (k + 1) := by
  unfold lostF
  have hh : ∀ n : Nat, ∀ t j : Int, t ≠ 40 → (ltF (thr M 0) n).2 t j = thr M 0 t j := by
    intro n
    induction n with
    | zero => exact fun _ _ _ => rfl
    | succ n ih =>
      simp only [ltF]
      split
      · exact ih
      · exact fun t j g => (cutS_o g).trans (ih t j g)
  exact inv_o h (wr_ltF (h.1.thr (by decide)) _) (fun t j g => by rw [hh _ t j (by omega)]; exact us_nn (by omega))
theorem inv_lose {M : q_S} {k : Int} (h : INV M k) (m : Int) : INV (loseF M m).2 (k + 1) := by
  unfold loseF
  split
  · exact inv_thr h (by decide)
  · have sp := fun n => (loF_sp (thr M 0) m n).1
    have hW : ∀ n : Nat, WR (loF (thr M 0) m n).2 := by
      intro n
      induction n with
      | zero => exact h.1.thr (by decide)
      | succ n ih =>
        simp only [loF]
        split
        · exact ih.up ⟨(by show (0 : Int) ≤ 0; decide), (by show (0 : Int) ≤ 2100; decide)⟩
        · exact ih
    have ho : ∀ t j : Int, t ≠ 15 → ¬ (t = 50 ∧ j = 41) → (loF (thr M 0) m (M 50 13).toNat).2 t j = M t j := fun t j a b => by rw [sp, if_neg (fun g => a g.1)]; exact us_nn b
    refine ⟨hW _, h.2.1.of (fun j => ho 31 j (by decide) (by omega)) (fun j => ho 35 j (by decide) (by omega)) (ho 50 34 (by decide) (by omega)), ?_, ki_o h.2.2.2.1 (fun t j g => ho t j (by omega) (by omega)), nb_up (nb_o h.2.2.2.2 (fun p => ho 8 p (by decide) (by omega)) (fun j g => ho 50 j (by decide) (by omega)))⟩
    have hI := h.2.2.1
    refine ⟨?_, ?_, ?_, ?_⟩
    · rw [ho 50 0 (by decide) (by omega)]; exact hI.1
    · intro p a b
      rw [ho 3 p (by decide) (by omega), ho 2 p (by decide) (by omega), ho 5 p (by decide) (by omega), ho 50 16 (by decide) (by omega), ho 17 _ (by decide) (by omega), ho 8 p (by decide) (by omega), ho 50 10 (by decide) (by omega)]
      exact hI.2.1 p a b
    · intro v a b
      rw [ho 50 16 (by decide) (by omega)] at b
      have g := hI.2.2.1 v a b
      have hl : ∀ f, latestOf (loF (thr M 0) m (M 50 13).toNat).2 f = latestOf M f := fun f => lat_eq (fun j => ho 17 j (by decide) (by omega)) (fun j => ho 22 j (by decide) (by omega)) (ho 50 16 (by decide) (by omega)) f
      rw [ho 21 v (by decide) (by omega), ho 18 v (by decide) (by omega), ho 50 1 (by decide) (by omega), hl, ho 17 v (by decide) (by omega)]
      exact g
    · intro q a b
      rw [ho 50 13 (by decide) (by omega)] at b
      rw [sp, ho 50 1 (by decide) (by omega)]
      split
      · exact Or.inl rfl
      · exact hI.2.2.2 q a b
