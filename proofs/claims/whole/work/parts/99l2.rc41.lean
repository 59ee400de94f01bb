/-! which refusals there are -/
theorem t41_draft (M : q_S) (n : Int) : (draftF M n).2 50 41 ≤ 2 := by
  unfold draftF
  split
  · exact (by show (1 : Int) ≤ _; decide)
  split
  · exact (by show (2 : Int) ≤ _; decide)
  exact (by show (0 : Int) ≤ _; decide)
theorem t41_write (M : q_S) (m f : Int) : (writeF M m f).2 50 41 ≤ 2 := by
  unfold writeF
  split
  · exact (by show (1 : Int) ≤ _; decide)
  split
  · exact (by show (2 : Int) ≤ _; decide)
  refine Int.le_trans (Int.le_of_eq (editsF_s (by decide) (by decide))) ?_
  exact (by show (0 : Int) ≤ _; decide)
theorem t41_move (M : q_S) (m f d : Int) : (moveF M m f d).2 50 41 ≤ 2 := by
  unfold moveF
  split
  · exact (by show (1 : Int) ≤ _; decide)
  split
  · exact (by show (2 : Int) ≤ _; decide)
  refine Int.le_trans (Int.le_of_eq (editsF_s (by decide) (by decide))) ?_
  exact (by show (0 : Int) ≤ _; decide)
theorem t41_erase (M : q_S) (m f : Int) : (eraseF M m f).2 50 41 ≤ 2 := by
  unfold eraseF
  split
  · exact (by show (1 : Int) ≤ _; decide)
  split
  · exact (by show (2 : Int) ≤ _; decide)
  refine Int.le_trans (Int.le_of_eq (editsF_s (by decide) (by decide))) ?_
  exact (by show (0 : Int) ≤ _; decide)
theorem t41_late (M : q_S) (m x : Int) : (lateF M m x).2 50 41 ≤ 2 := by
  unfold lateF
  split
  · exact (by show (1 : Int) ≤ _; decide)
  split
  · exact (by show (2 : Int) ≤ _; decide)
  exact (by show (0 : Int) ≤ _; decide)
theorem t41_room (M : q_S) (m x : Int) : (roomF M m x).2 50 41 ≤ 2 := by
  unfold roomF
  split
  · exact (by show (1 : Int) ≤ _; decide)
  split
  · exact (by show (2 : Int) ≤ _; decide)
  exact (by show (0 : Int) ≤ _; decide)
theorem t41_lose (M : q_S) (m : Int) : (loseF M m).2 50 41 ≤ 1 := by
  unfold loseF
  split
  · exact (by show (1 : Int) ≤ _; decide)
  refine Int.le_trans (Int.le_of_eq (((loF_sp (thr M 0) m _).1 50 41).trans (if_neg (fun g => absurd g.1 (by decide))))) ?_
  exact (by show (0 : Int) ≤ _; decide)
theorem t41_scan (M : q_S) (m : Int) : (scanF M m).2 50 41 ≤ 1 := by
  unfold scanF
  split
  · exact (by show (1 : Int) ≤ _; decide)
  refine Int.le_trans (Int.le_of_eq (scF_o (by decide) (by decide) 16)) ?_
  exact (by show (0 : Int) ≤ _; decide)
theorem t41_pin (M : q_S) (m f b : Int) : (pinF M m f b).2 50 41 ≤ 1 := by
  unfold pinF
  split
  · exact (by show (1 : Int) ≤ _; decide)
  exact (by show (0 : Int) ≤ _; decide)
theorem t41_breakLock (M : q_S) (f : Int) : (breakF M f).2 50 41 ≤ 2 := by
  unfold breakF
  split
  · exact (by show (1 : Int) ≤ _; decide)
  split
  · exact (by show (2 : Int) ≤ _; decide)
  exact (by show (0 : Int) ≤ _; decide)
theorem t41_pass (M : q_S) (x : Int) : (passF M x).2 50 41 ≤ 2 := by
  unfold passF
  split
  · exact (by show (1 : Int) ≤ _; decide)
  split
  · exact (by show (2 : Int) ≤ _; decide)
  refine Int.le_trans (Int.le_of_eq (psF_o (by decide) _)) ?_
  exact (by show (0 : Int) ≤ _; decide)
theorem t41_stateOf (M : q_S) (m f : Int) : (stateOfF M m f).2 50 41 ≤ 1 := by
  unfold stateOfF
  split
  · exact (by show (0 : Int) ≤ _; decide)
  · exact (by show (1 : Int) ≤ _; decide)
theorem t41_folderOf (M : q_S) (m f : Int) : (folderOfF M m f).2 50 41 ≤ 1 := by
  unfold folderOfF
  split
  · exact (by show (0 : Int) ≤ _; decide)
  · exact (by show (1 : Int) ≤ _; decide)
theorem t41_isChanged (M : q_S) (m f : Int) : (isChangedF M m f).2 50 41 ≤ 1 := by
  unfold isChangedF
  split
  · exact (by show (0 : Int) ≤ _; decide)
  · exact (by show (1 : Int) ≤ _; decide)
theorem t41_seen (M : q_S) (m f : Int) : (seenF M m f).2 50 41 ≤ 1 := by
  unfold seenF
  split
  · exact (by show (0 : Int) ≤ _; decide)
  · exact (by show (1 : Int) ≤ _; decide)
theorem t41_noted (M : q_S) (m : Int) : (notedF M m).2 50 41 ≤ 1 := by
  unfold notedF
  split
  · exact (by show (1 : Int) ≤ _; decide)
  exact (by show (0 : Int) ≤ _; decide)
theorem t41_taken (M : q_S) (m : Int) : (takenF M m).2 50 41 ≤ 1 := by
  unfold takenF
  split
  · exact (by show (1 : Int) ≤ _; decide)
  exact (by show (0 : Int) ≤ _; decide)
theorem t41_version (M : q_S) (v w : Int) : (versionF M v w).2 50 41 ≤ 2 := by
  unfold versionF
  split
  · exact (by show (1 : Int) ≤ _; decide)
  split
  · exact (by show (2 : Int) ≤ _; decide)
  exact (by show (0 : Int) ≤ _; decide)
theorem t41_asOf (M : q_S) (f t : Int) : (asOfMF M f t).2 50 41 ≤ 2 := by
  unfold asOfMF
  split
  · exact (by show (1 : Int) ≤ _; decide)
  split
  · exact (by show (2 : Int) ≤ _; decide)
  exact (by show (0 : Int) ≤ _; decide)
theorem t41_lockOf (M : q_S) (f : Int) : (lockOfF M f).2 50 41 ≤ 1 := by
  unfold lockOfF
  split
  · exact (by show (1 : Int) ≤ _; decide)
  exact (by show (0 : Int) ≤ _; decide)
theorem t41_right (M : q_S) (d m : Int) : (rightMF M d m).2 50 41 ≤ 1 := by
  unfold rightMF
  split
  · exact (by show (1 : Int) ≤ _; decide)
  exact (by show (0 : Int) ≤ _; decide)
theorem t41_count (M : q_S) (w : Int) : (countF M w).2 50 41 ≤ 1 := by
  unfold countF
  split
  · exact (by show (1 : Int) ≤ _; decide)
  exact (by show (0 : Int) ≤ _; decide)
theorem t41_numberAt (M : q_S) (m f x : Int) : (numberAtF M m f x).2 50 41 ≤ 1 := by
  unfold numberAtF
  split
  · exact (by show (1 : Int) ≤ _; decide)
  exact (by show (0 : Int) ≤ _; decide)
theorem t41_damage (M : q_S) (p : Int) : (damageF M p).2 50 41 ≤ 1 := by
  unfold damageF
  split
  · exact (by show (1 : Int) ≤ _; decide)
  · have hh : ∀ n : Nat, (daF (thr M 0) p n).2 50 41 = 0 := by
      intro n
      induction n with
      | zero => rfl
      | succ n ih =>
        simp only [daF]
        split
        · exact ih
        · exact ih
    rw [hh]; decide
theorem t41_follow (M : q_S) (e : Int) : (followF M e).2 50 41 ≤ 1 := by
  unfold followF
  split
  · exact (by show (1 : Int) ≤ _; decide)
  · have hh : ∀ (r : Nat) (n : Int) (S : q_S), (foF e r n S).2 50 41 = S 50 41 := by
      intro r
      induction r with
      | zero => exact fun n S => rfl
      | succ r ih =>
        intro n S
        simp only [foF]
        split
        · rfl
        · exact (ih _ _).trans (foS_o (by decide))
    rw [hh]; exact (by show (0 : Int) ≤ _; decide)
theorem t41_pull (M : q_S) (m : Int) : (pullF M m).2 50 41 ≤ 1 := by
  unfold pullF
  split
  · exact (by show (1 : Int) ≤ _; decide)
  · have hh : ∀ n : Nat, (plF (thr M 0) m n).2 50 41 = 0 := by
      intro n
      induction n with
      | zero => rfl
      | succ n ih =>
        rw [pl_step]
        split
        · exact (cu_o (by omega)).trans ih
        · exact ih
    rw [hh]; decide
theorem t41_share (M : q_S) (d m r x : Int) : shareF M d m r x 50 41 ≤ 2 := by
  unfold shareF
  split
  · exact (by show (1 : Int) ≤ _; decide)
  · split
    · exact (by show (2 : Int) ≤ _; decide)
    · exact (by show (0 : Int) ≤ _; decide)
theorem t41_open (M : q_S) (m f : Int) : (openF M m f).2 50 41 ≤ 2 := by
  have e : ∀ S p, S 50 41 = 0 → (openE S p).2 50 41 ≤ 2 := fun S p h => by
    have : (openE S p).2 50 41 = 0 := h
    omega
  unfold openF
  split
  · exact (by show (1 : Int) ≤ _; decide)
  · split
    · exact (by show (2 : Int) ≤ _; decide)
    · split
      · unfold openK
        split
        · exact (by show (2 : Int) ≤ _; decide)
        · split
          · exact (by show (2 : Int) ≤ _; decide)
          · split
            · exact (by show (2 : Int) ≤ _; decide)
            · exact e _ _ us_eq
      · exact e _ _ us_eq
theorem bo_pin (M : q_S) (m f b : Int) : (pinF M m f b).1 = 0 ∨ (pinF M m f b).1 = 1 := by
  unfold pinF
  split
  · exact Or.inl rfl
  · exact bi_01
theorem bo_isChanged (M : q_S) (m f : Int) : (isChangedF M m f).1 = 0 ∨ (isChangedF M m f).1 = 1 := by
  unfold isChangedF
  split
  · exact bi_01
  · exact Or.inl rfl
