/-! the reference's functions, fourth part -/
theorem fnF_sp (M : q_S) (m : Int) : ∀ n : Nat, fnF M m n = -1 ∨ (16 * m ≤ fnF M m n ∧ fnF M m n < 16 * m + n ∧ 0 < M 8 (fnF M m n)) := by
  intro n
  induction n with
  | zero => exact Or.inl rfl
  | succ n ih =>
    simp only [fnF]
    split
    next h => exact Or.inr ⟨by omega, by omega, h.1⟩
    next h => omega
theorem ntF_congr {A B : q_S} (h : ∀ k, A 8 k = B 8 k) (m : Int) : ∀ n : Nat, ntF A m n = ntF B m n := by
  intro n
  induction n with
  | zero => rfl
  | succ n ih => simp only [ntF, ih, h]
theorem ntF_us {S : q_S} {m p : Int} (hp : 16 * m ≤ p) (h0 : 0 < S 8 p) : ∀ n : Nat, ntF (q_us S 8 p 0) m n = ntF S m n - (if p < 16 * m + n then 1 else 0) := by
  intro n
  induction n with
  | zero => simp only [ntF]; rw [if_neg (by omega)]; rfl
  | succ n ih =>
    simp only [ntF, ih, q_us_ap, true_and]
    by_cases e : 16 * m + n = p
    · rw [if_pos e, if_neg (by omega), if_neg (by omega), e, if_pos h0, if_pos (by omega)]; omega
    · rw [if_neg e]
      by_cases e2 : p < 16 * m + n
      · rw [if_pos e2, if_pos (show p < 16 * m + ((n + 1 : Nat) : Int) by omega)]; omega
      · rw [if_neg e2, if_neg (show ¬ p < 16 * m + ((n + 1 : Nat) : Int) by omega)]; omega
theorem seF_8 (S : q_S) (p c j : Int) : ∀ k, (seF S p c k).2 8 j = S 8 j := by
  intro k
  induction k with
  | zero => rfl
  | succ k ih =>
    simp only [seF]
    split
    · exact ih
    · split
      · exact ih
      · split
        · exact ih
        · simp only [comesF_ap, Int.reduceEq, false_and, if_false]; exact ih
theorem sendsF_8 (M : q_S) (c p j : Int) : (sendsF M c p).2 8 j = M 8 j := by
  unfold sendsF; rw [seF_8, cutS_o (by decide)]
theorem keepsF_8 (M : q_S) (p lat j : Int) : (keepsF M p lat).2 8 j = M 8 j := by
  unfold keepsF
  split
  · rfl
  · show becomesF _ _ _ 8 j = _
    rw [becomesF_50 (by decide)]; rfl
theorem look2_8 (S : q_S) (p lat j : Int) : (look2 S p lat).2 8 j = S 8 j := by
  unfold look2
  split
  · rfl
  · split
    · rfl
    · split
      · show becomesF _ _ _ 8 j = _
        rw [becomesF_50 (by decide)]; rfl
      · rw [keepsF_8]; rfl
theorem ntF_looks {S : q_S} {m p : Int} (hp : 16 * m ≤ p ∧ p < 16 * m + 16) (h0 : 0 < S 8 p) : ntF (looksF S p).2 m 16 = ntF S m 16 - 1 := by
  unfold looksF
  rw [ntF_congr (fun k => look2_8 _ _ _ k), ntF_us hp.1 h0, if_pos (by show p < 16 * m + 16; omega)]
theorem look2_1 (S : q_S) (p lat : Int) : (look2 S p lat).1 = 0 ∨ (look2 S p lat).1 = 1 := by
  unfold look2 keepsF
  split
  · exact Or.inl rfl
  · split
    · exact Or.inr rfl
    · split
      · exact Or.inl rfl
      · split
        · exact Or.inl rfl
        · exact Or.inr rfl
/-- pulling -/
def plF (M : q_S) (m : Int) : Nat → Int × q_S
  | 0 => (0, M)
  | k + 1 => if ¬ isOtherP (plF M m k).2 (16 * m + k) ∧ ¬ latestOf (plF M m k).2 k = -1 ∧ mayReadP (plF M m k).2 (16 * m + k) (latestOf (plF M m k).2 k) then
      ((plF M m k).1 + (if isAsP (plF M m k).2 (16 * m + k) (latestOf (plF M m k).2 k) then 0 else 1),
        if isInP (plF M m k).2 (latestOf (plF M m k).2 k) ∧ ¬ (plF M m k).2 2 (16 * m + k) = 0 ∧ (plF M m k).2 3 (16 * m + k) = (plF M m k).2 21 (latestOf (plF M m k).2 k) then
          q_us (q_us (plF M m k).2 5 (16 * m + k) (latestOf (plF M m k).2 k + 1)) 4 (16 * m + k) ((plF M m k).2 20 (latestOf (plF M m k).2 k))
        else becomesF (plF M m k).2 (16 * m + k) (latestOf (plF M m k).2 k)) else plF M m k
def pullF (M : q_S) (m : Int) : Int × q_S := if ¬ (0 ≤ m ∧ m ≤ 2) then (0, thr M 1) else plF (thr M 0) m 16
/-- room -/
def cgL (M : q_S) (m : Int) : Nat → Int
  | 0 => 0
  | n + 1 => cgL M m n + (if canGoP M (16 * m + n) then mlen (M 3 (16 * m + n)) else 0)
def cgN (M : q_S) (m : Int) : Nat → Int
  | 0 => 0
  | n + 1 => cgN M m n + (if canGoP M (16 * m + n) then 1 else 0)
def goF (M : q_S) (m : Int) : Nat → Int
  | 0 => -1
  | n + 1 => if canGoP M (16 * m + n) ∧ (goF M m n = -1 ∨ M 7 (16 * m + n) < M 7 (goF M m n)) then 16 * m + n else goF M m n
def mrF (m needs : Int) : Nat → q_S → q_S
  | 0, S => S
  | r + 1, S => if S 12 m - takF S m 16 < needs then mrF m needs r (q_us S 2 (goF S m 16) 1) else S
def makesRoomF (M : q_S) (m needs : Int) : Int × q_S := if M 12 m - takF M m 16 + cgL M m 16 < needs then (0, M) else (1, mrF m needs 17 M)
theorem cgL_rg (M : q_S) (m : Int) : ∀ n : Nat, 0 ≤ cgL M m n ∧ cgL M m n ≤ 19 * n := by
  intro n
  induction n with
  | zero => exact ⟨Int.le_refl _, Int.le_refl _⟩
  | succ n ih => simp only [cgL]; have := mlen_nn (M 3 (16 * m + n)); split <;> omega
theorem cgN_rg (M : q_S) (m : Int) : ∀ n : Nat, 0 ≤ cgN M m n ∧ cgN M m n ≤ n := by
  intro n
  induction n with
  | zero => exact ⟨Int.le_refl _, Int.le_refl _⟩
  | succ n ih => simp only [cgN]; split <;> omega
theorem goF_sp (M : q_S) (m : Int) : ∀ n : Nat, goF M m n = -1 ∧ cgL M m n = 0 ∨ (16 * m ≤ goF M m n ∧ goF M m n < 16 * m + n ∧ canGoP M (goF M m n)) := by
  intro n
  induction n with
  | zero => exact Or.inl ⟨rfl, rfl⟩
  | succ n ih =>
    simp only [goF, cgL]
    split
    next h => exact Or.inr ⟨by omega, by omega, h.1⟩
    next h =>
      rcases ih with ⟨h1, h2⟩ | ⟨h1, h2, h3⟩
      · refine Or.inl ⟨h1, ?_⟩
        rw [if_neg (fun g => h ⟨g, Or.inl h1⟩), h2]; rfl
      · exact Or.inr ⟨h1, by omega, h3⟩
theorem goes_o {S : q_S} {q p : Int} (h : p ≠ q) : canGoP (q_us S 2 q 1) p = canGoP S p := by
  unfold canGoP isOtherP isAsP
  simp only [q_us_ap, Int.reduceEq, false_and, true_and, if_false, if_neg h]
theorem goes_n {S : q_S} {q : Int} : ¬ canGoP (q_us S 2 q 1) q := by
  unfold canGoP
  simp only [q_us_ap, and_self, if_true]
  intro h; exact absurd h.1 (by decide)
theorem goes_nt {S : q_S} {q : Int} : ¬ (q_us S 2 q 1) 2 q = 2 := by
  simp only [q_us_ap, and_self, if_true]; decide
theorem goes_tak {S : q_S} {m q : Int} (hq : 16 * m ≤ q) (hg : canGoP S q) : ∀ n : Nat,
    takF (q_us S 2 q 1) m n = takF S m n - (if q < 16 * m + n then mlen (S 3 q) else 0) ∧ cgL (q_us S 2 q 1) m n = cgL S m n - (if q < 16 * m + n then mlen (S 3 q) else 0) ∧ cgN (q_us S 2 q 1) m n = cgN S m n - (if q < 16 * m + n then 1 else 0) := by
  intro n
  have e3 : ∀ k, (q_us S 2 q 1) 3 k = S 3 k := fun k => rfl
  induction n with
  | zero => simp only [takF, cgL, cgN]; rw [if_neg (by omega), if_neg (by omega)]; exact ⟨rfl, rfl, rfl⟩
  | succ n ih =>
    simp only [takF, cgL, cgN, ih.1, ih.2.1, ih.2.2, e3]
    by_cases e : 16 * m + n = q
    · rw [e, if_neg goes_nt, if_neg goes_n, if_neg goes_n, if_pos hg.1, if_pos hg, if_pos hg]
      rw [if_neg (show ¬ q < q by omega), if_neg (show ¬ q < q by omega), if_pos (show q < 16 * m + ((n + 1 : Nat) : Int) by omega), if_pos (show q < 16 * m + ((n + 1 : Nat) : Int) by omega)]
      omega
    · simp only [goes_o e]
      have e4 : (q_us S 2 q 1) 2 (16 * m + n) = S 2 (16 * m + n) := by simp only [q_us_ap, true_and, if_neg e]
      rw [e4]
      by_cases e2 : q < 16 * m + n
      · rw [if_pos e2, if_pos e2, if_pos (show q < 16 * m + ((n + 1 : Nat) : Int) by omega), if_pos (show q < 16 * m + ((n + 1 : Nat) : Int) by omega)]
        refine ⟨?_, ?_, ?_⟩ <;> omega
      · rw [if_neg e2, if_neg e2, if_neg (show ¬ q < 16 * m + ((n + 1 : Nat) : Int) by omega), if_neg (show ¬ q < 16 * m + ((n + 1 : Nat) : Int) by omega)]
        refine ⟨?_, ?_, ?_⟩ <;> omega
theorem mrF_ok {m needs : Int} : ∀ (r : Nat) {S : q_S}, WR S → WR (mrF m needs r S) := by
  intro r
  induction r with
  | zero => intro S h; exact h
  | succ r ih =>
    intro S h
    simp only [mrF]
    split
    · exact ih (WR.up h ⟨(show (0 : Int) ≤ 1 by decide), (show (1 : Int) ≤ 2 by decide)⟩)
    · exact h
theorem mrF_o {m needs t j : Int} (ht : t ≠ 2) : ∀ (r : Nat) (S : q_S), mrF m needs r S t j = S t j := by
  intro r
  induction r with
  | zero => intro S; rfl
  | succ r ih =>
    intro S
    simp only [mrF]
    split
    · rw [ih]; simp only [q_us_ap]; rw [if_neg (fun g => ht g.1)]
    · rfl
theorem wr_makesRoom {M : q_S} (h : WR M) (m needs : Int) : WR (makesRoomF M m needs).2 := by
  unfold makesRoomF; split
  · exact h
  · exact mrF_ok _ h
theorem makesRoomF_o {M : q_S} {m needs t j : Int} (ht : t ≠ 2) : (makesRoomF M m needs).2 t j = M t j := by
  unfold makesRoomF; split
  · rfl
  · exact mrF_o ht _ _
theorem makesRoomF_1 (M : q_S) (m needs : Int) : (makesRoomF M m needs).1 = 0 ∨ (makesRoomF M m needs).1 = 1 := by
  unfold makesRoomF; split
  · exact Or.inl rfl
  · exact Or.inr rfl
theorem whI_01 (M : q_S) (c : Int) : ∀ n : Nat, whI M c n = 0 ∨ whI M c n = 1 := by
  intro n
  cases n with
  | zero => exact Or.inr rfl
  | succ n => simp only [whI]; split <;> simp
def openE (S : q_S) (p : Int) : Int × q_S := (mlen (S 3 p), q_us (q_us (q_us S 2 p 2) 50 9 (S 50 9 + 1)) 7 p (S 50 9 + 1))
def openK (N : q_S) (m p : Int) : Int × q_S :=
  if ¬ (1 ≤ rightF N (N 4 p) m) then (0, thr N 2) else if (isWholeF N (N 3 p)).1 = 0 then (0, thr (isWholeF N (N 3 p)).2 2)
  else if (makesRoomF (isWholeF N (N 3 p)).2 m (mlen (N 3 p))).1 = 0 then (0, thr (makesRoomF (isWholeF N (N 3 p)).2 m (mlen (N 3 p))).2 2)
  else openE (thr (makesRoomF (isWholeF N (N 3 p)).2 m (mlen (N 3 p))).2 0) p
def openF (M : q_S) (m f : Int) : Int × q_S :=
  if ¬ inMF m f then (0, thr M 1) else if M 2 (16 * m + f) = 0 then (0, thr M 2) else
  if M 2 (16 * m + f) = 1 then openK (thr M 0) m (16 * m + f) else openE (thr M 0) (16 * m + f)
/-- thinning -/
theorem wr_mk {S : q_S} (h : WR S) (c : Int) : ∀ k, WR (mkF S c k) := by
  intro k
  induction k with
  | zero => exact h
  | succ k ih => simp only [mkF]; exact WR.up ih ⟨(show (0 : Int) ≤ 1 by decide), (show (1 : Int) ≤ 1 by decide)⟩
theorem mkF_o {S : q_S} {c t j : Int} (h : t ≠ 42) : ∀ k, mkF S c k t j = S t j := by
  intro k
  induction k with
  | zero => rfl
  | succ k ih => simp only [mkF, q_us_ap]; rw [if_neg (fun g => h g.1)]; exact ih
theorem wr_marks {M : q_S} (h : WR M) (c : Int) : WR (marksF M c) := wr_mk (wr_cutS h c) c _
theorem marksF_o {M : q_S} {c t j : Int} (h : t ≠ 42) (h2 : t ≠ 40) : marksF M c t j = M t j := by
  unfold marksF; rw [mkF_o h, cutS_o h2]
def d1F (M : q_S) : Nat → q_S
  | 0 => M
  | k + 1 => q_us (d1F M k) 42 k 0
def d2F (M : q_S) : Nat → q_S
  | 0 => M
  | k + 1 => if (d2F M k) 22 k = 0 then marksF (d2F M k) ((d2F M k) 21 k) else d2F M k
def d3F (M : q_S) : Nat → q_S
  | 0 => M
  | k + 1 => if 0 < (d3F M k) 8 k ∧ (d3F M k) 2 k = 2 then marksF (d3F M k) ((d3F M k) 3 k) else d3F M k
def d4S (S : q_S) (k : Int) : q_S :=
  if ¬ S 42 k = 0 then S else q_us (q_us (q_us (if 0 < S 31 k then q_us S 35 (S 31 k - 1) (S 35 (S 31 k - 1) - 1) else S) 31 k 0) 32 k 0) 33 k 0
def d4F (M : q_S) : Nat → q_S
  | 0 => M
  | k + 1 => d4S (d4F M k) k
def dropsF (M : q_S) : q_S := d4F (d3F (d2F (d1F M 20000) (M 50 16).toNat) 48) 20000
theorem d1F_o {M : q_S} {t j : Int} (h : t ≠ 42) : ∀ k, d1F M k t j = M t j := by
  intro k
  induction k with
  | zero => rfl
  | succ k ih => simp only [d1F, q_us_ap]; rw [if_neg (fun g => h g.1)]; exact ih
theorem d2F_o {M : q_S} {t j : Int} (h : t ≠ 42) (h2 : t ≠ 40) : ∀ k, d2F M k t j = M t j := by
  intro k
  induction k with
  | zero => rfl
  | succ k ih =>
    simp only [d2F]; split
    · rw [marksF_o h h2]; exact ih
    · exact ih
theorem d3F_o {M : q_S} {t j : Int} (h : t ≠ 42) (h2 : t ≠ 40) : ∀ k, d3F M k t j = M t j := by
  intro k
  induction k with
  | zero => rfl
  | succ k ih =>
    simp only [d3F]; split
    · rw [marksF_o h h2]; exact ih
    · exact ih
theorem wr_d1 {M : q_S} (h : WR M) : ∀ k, WR (d1F M k) := by
  intro k
  induction k with
  | zero => exact h
  | succ k ih => simp only [d1F]; exact WR.up ih ⟨(show (0 : Int) ≤ 0 by decide), (show (0 : Int) ≤ 1 by decide)⟩
theorem wr_d2 {M : q_S} (h : WR M) : ∀ k, WR (d2F M k) := by
  intro k
  induction k with
  | zero => exact h
  | succ k ih =>
    simp only [d2F]; split
    · exact wr_marks ih _
    · exact ih
theorem wr_d3 {M : q_S} (h : WR M) : ∀ k, WR (d3F M k) := by
  intro k
  induction k with
  | zero => exact h
  | succ k ih =>
    simp only [d3F]; split
    · exact wr_marks ih _
    · exact ih
theorem d4S_o {S : q_S} {k t j : Int} (h : t ≠ 35) (h2 : t ≠ 31) (h3 : t ≠ 32) (h4 : t ≠ 33) : d4S S k t j = S t j := by
  unfold d4S
  split
  · rfl
  · simp only [q_us_ap, if_neg (show ¬ (t = 31 ∧ j = k) from fun g => h2 g.1), if_neg (show ¬ (t = 32 ∧ j = k) from fun g => h3 g.1), if_neg (show ¬ (t = 33 ∧ j = k) from fun g => h4 g.1)]
    split
    · simp only [q_us_ap]; rw [if_neg (fun g => h g.1)]
    · rfl
theorem d4_ok {S : q_S} (hW : WR S) (hP : PMI S) {k : Int} (hk : 0 ≤ k ∧ k < 20000) : WR (d4S S k) ∧ PMI (d4S S k) ∧ (0 < S 31 k → 1 ≤ S 35 (S 31 k - 1)) := by
  have g1 : 0 ≤ S 31 k ∧ S 31 k ≤ 1500 := hW 31 k
  have g2 : 0 < S 31 k → 1 ≤ S 35 (S 31 k - 1) := by
    intro h
    rw [hP.1 _ (by omega)]
    exact cnt_pos (x := k) hk.1 (by omega) 20000 (by show k < 20000; omega)
  have g3 : 0 ≤ S 35 (S 31 k - 1) ∧ S 35 (S 31 k - 1) ≤ 5 := hW 35 _
  refine ⟨?_, ?_, g2⟩
  · unfold d4S
    split
    · exact hW
    · have h0 : WR (if 0 < S 31 k then q_us S 35 (S 31 k - 1) (S 35 (S 31 k - 1) - 1) else S) := by
        split
        next h => have := g2 h; exact WR.up hW ⟨(show (0 : Int) ≤ _ by omega), (show _ ≤ (5 : Int) by omega)⟩
        · exact hW
      exact WR.up (WR.up (WR.up h0 ⟨(show (0 : Int) ≤ 0 by decide), (show (0 : Int) ≤ 1500 by decide)⟩) ⟨(show (0 : Int) ≤ 0 by decide), (show (0 : Int) ≤ 1 by decide)⟩) ⟨(show (0 : Int) ≤ 0 by decide), (show (0 : Int) ≤ 1 by decide)⟩
  · by_cases e : S 42 k = 0
    · have a31 : ∀ j, d4S S k 31 j = if j = k then 0 else S 31 j := by
        intro j
        unfold d4S
        rw [if_neg (fun g => g e)]
        simp only [q_us_ap, Int.reduceEq, false_and, true_and, if_false]
        split
        · rfl
        · split
          · simp only [q_us_ap, Int.reduceEq, false_and, if_false]
          · rfl
      have a35 : ∀ j, d4S S k 35 j = if 0 < S 31 k ∧ j = S 31 k - 1 then S 35 (S 31 k - 1) - 1 else S 35 j := by
        intro j
        unfold d4S
        rw [if_neg (fun g => g e)]
        simp only [q_us_ap, Int.reduceEq, false_and, true_and, if_false]
        by_cases h : 0 < S 31 k
        · simp only [h, if_true, true_and, q_us_ap]
        · simp only [h, if_false, false_and]
      have a34 : d4S S k 50 34 = S 50 34 := d4S_o (by decide) (by decide) (by decide) (by decide)
      refine ⟨?_, ?_⟩
      · intro p hp
        have e0 := cnt_us (q := p + 1) (A := S) (x := k) (z := 0) a31 hk.1 20000
        rw [if_pos (show k < ((20000 : Nat) : Int) by omega), if_neg (show ¬ (0 : Int) = p + 1 by omega)] at e0
        rw [a35, e0]
        have := hP.1 p hp
        by_cases e2 : 0 < S 31 k ∧ p = S 31 k - 1
        · rw [if_pos e2, if_pos (by omega), ← e2.2]; omega
        · rw [if_neg e2, if_neg (by omega)]; omega
      · intro j h1 h2
        rw [a31, a34]
        have := hP.2 j h1 h2
        have g34 := rs_34 hW
        split <;> omega
    · have : d4S S k = S := by unfold d4S; rw [if_pos e]
      rw [this]; exact hP
theorem d4F_ok {M : q_S} (hW : WR M) (hP : PMI M) : ∀ k : Nat, k ≤ 20000 → WR (d4F M k) ∧ PMI (d4F M k) := by
  intro k
  induction k with
  | zero => intro _; exact ⟨hW, hP⟩
  | succ k ih =>
    intro h
    have i := ih (by omega)
    have := d4_ok i.1 i.2 (k := k) ⟨by omega, by omega⟩
    exact ⟨this.1, this.2.1⟩
theorem d4F_o {M : q_S} {t j : Int} (h : t ≠ 35) (h2 : t ≠ 31) (h3 : t ≠ 32) (h4 : t ≠ 33) : ∀ k, d4F M k t j = M t j := by
  intro k
  induction k with
  | zero => rfl
  | succ k ih => simp only [d4F]; rw [d4S_o h h2 h3 h4]; exact ih
theorem PMI.d3 {M : q_S} (h : PMI M) (n k : Nat) : PMI (d3F (d2F (d1F M 20000) n) k) :=
  h.of (fun j => by rw [d3F_o (by decide) (by decide), d2F_o (by decide) (by decide), d1F_o (by decide)]) (fun j => by rw [d3F_o (by decide) (by decide), d2F_o (by decide) (by decide), d1F_o (by decide)])
    (by rw [d3F_o (by decide) (by decide), d2F_o (by decide) (by decide), d1F_o (by decide)])
theorem wr_drops {M : q_S} (h : WR M) (hP : PMI M) : WR (dropsF M) ∧ PMI (dropsF M) := d4F_ok (wr_d3 (wr_d2 (wr_d1 h _) _) _) (hP.d3 _ _) 20000 (Nat.le_refl _)
theorem dropsF_o {M : q_S} {t j : Int} (h : t ≠ 35) (h2 : t ≠ 31) (h3 : t ≠ 32) (h4 : t ≠ 33) (h5 : t ≠ 42) (h6 : t ≠ 40) : dropsF M t j = M t j := by
  unfold dropsF; rw [d4F_o h h2 h3 h4, d3F_o h5 h6, d2F_o h5 h6, d1F_o h5]
abbrev oldP (S : q_S) (k : Int) : Prop := 24 ≤ S 50 1 - S 18 k ∧ ¬ follI S k (S 50 16 - k - 1).toNat = 0 ∨ 240 ≤ S 50 1 - S 18 k ∧ ¬ latestOf S (S 17 k) = k
def thF (M : q_S) : Nat → Int × q_S
  | 0 => (0, M)
  | k + 1 => if (thF M k).2 22 k = 0 ∧ heldI (thF M k).2 k ((thF M k).2 50 27).toNat = 0 ∧ oldP (thF M k).2 k then ((thF M k).1 + 1, q_us (thF M k).2 22 k 1) else thF M k
def thinF (M : q_S) : Int × q_S := ((thF (thr M 0) (M 50 16).toNat).1, dropsF (thF (thr M 0) (M 50 16).toNat).2)
theorem thF_ok {M : q_S} (h : WR M) : ∀ k, WR (thF M k).2 := by
  intro k
  induction k with
  | zero => exact h
  | succ k ih =>
    simp only [thF]
    split
    · exact WR.up ih ⟨(show (0 : Int) ≤ 1 by decide), (show (1 : Int) ≤ 1 by decide)⟩
    · exact ih
theorem thF_o {M : q_S} {t j : Int} (h : t ≠ 22) : ∀ k, (thF M k).2 t j = M t j := by
  intro k
  induction k with
  | zero => rfl
  | succ k ih =>
    simp only [thF]
    split
    · simp only [q_us_ap]; rw [if_neg (fun g => h g.1)]; exact ih
    · exact ih
theorem thF_1 (M : q_S) : ∀ k : Nat, 0 ≤ (thF M k).1 ∧ (thF M k).1 ≤ k := by
  intro k
  induction k with
  | zero => exact ⟨Int.le_refl _, Int.le_refl _⟩
  | succ k ih => simp only [thF]; split <;> first | omega | (simp only []; omega)
/-- restoring a folder -/
def rfF (M : q_S) (d t : Int) : Nat → Int × q_S
  | 0 => (0, M)
  | k + 1 => if (isInP (rfF M d t k).2 (asOfT (rfF M d t k).2 k t) ∧ (rfF M d t k).2 20 (asOfT (rfF M d t k).2 k t) = d) ∨ (isInP (rfF M d t k).2 (latestOf (rfF M d t k).2 k) ∧ (rfF M d t k).2 20 (latestOf (rfF M d t k).2 k) = d) then
      ((rfF M d t k).1 + (if (restoresF (rfF M d t k).2 k t).1 = -1 then 0 else 1), (restoresF (rfF M d t k).2 k t).2) else rfF M d t k
def restoreFolderF (M : q_S) (d t : Int) : Int × q_S :=
  if ¬ (0 ≤ d ∧ d ≤ 3) then (0, thr M 1) else if ¬ (0 ≤ t ∧ t ≤ M 50 1) then (0, thr M 2) else if 100 < M 50 16 then (0, thr M 3) else rfF (thr M 0) d t 16
/-- time -/
def evF (M : q_S) : Nat → q_S
  | 0 => M
  | k + 1 => if (evF M k) 15 k = (evF M k) 50 1 then q_us (notesF (evF M k) ((evF M k) 14 k)) 15 k 0 else evF M k
def psF (M : q_S) : Nat → q_S
  | 0 => M
  | k + 1 => evF (q_us (psF M k) 50 1 ((psF M k) 50 1 + 1)) (M 50 13).toNat
def passF (M : q_S) (h : Int) : Int × q_S :=
  if ¬ (1 ≤ h ∧ h ≤ 100) then (0, thr M 1) else if 2000 < M 50 1 + h then (0, thr M 2) else (M 50 1 + h, psF (thr M 0) h.toNat)
/-- the second house -/
def scn (S : q_S) (c : Int) : Nat → q_S
  | 0 => S
  | k + 1 => q_us (scn S c k) 33 (pce c k) (if 0 < (scn S c k) 31 (pce c k) ∧ (scn S c k) 32 (pce c k) = 0 then 1 else (scn S c k) 33 (pce c k))
def foS (S : q_S) : q_S := q_us (if S 22 (S 50 36) = 1 then S else scn (cutS S (S 21 (S 50 36))) (S 21 (S 50 36)) (ncut (S 21 (S 50 36))).toNat) 50 36 (S 50 36 + 1)
def foF (e : Int) : Nat → Int → q_S → Int × q_S
  | 0, n, S => (n, S)
  | r + 1, n, S => if e ≤ n ∨ S 50 16 ≤ S 50 36 then (n, S) else foF e r (n + (1 - S 22 (S 50 36))) (foS S)
def followF (M : q_S) (e : Int) : Int × q_S := if ¬ (1 ≤ e ∧ e ≤ 120) then (0, thr M 1) else foF e (M 50 16 - M 50 36 + 1).toNat 0 (thr M 0)
/-- counting -/
def smB (M : q_S) (t : Int) : Nat → Int
  | 0 => 0
  | k + 1 => smB M t k + (if 0 < M t k then 1 else 0)
def sm (M : q_S) (t : Int) : Nat → Int
  | 0 => 0
  | k + 1 => sm M t k + M t k
def dueF (M : q_S) : Nat → Int
  | 0 => 0
  | k + 1 => dueF M k + (1 - M 22 (M 50 36 + k))
def countF (M : q_S) (w : Int) : Int × q_S :=
  if ¬ (0 ≤ w ∧ w ≤ 7) then (0, thr M 1) else
  (if w = 0 then smB M 31 20000 else if w = 1 then M 50 34 else if w = 2 then sm M 32 20000 else if w = 3 then sm M 33 20000 else if w = 4 then dueF M (M 50 16 - M 50 36).toNat else if w = 5 then M 50 37 else if w = 6 then M 50 38 else M 50 39, thr M 0)
def lsI (S : q_S) (c : Int) : Nat → Int
  | 0 => 0
  | k + 1 => if ¬ lsI S c k = 0 ∨ (¬ (0 < S 31 (pce c k) ∧ S 32 (pce c k) = 0) ∧ S 33 (pce c k) = 0) then 1 else 0
def ltF (M : q_S) : Nat → Int × q_S
  | 0 => (0, M)
  | k + 1 => if (ltF M k).2 22 k = 1 then ltF M k else ((ltF M k).1 + (if lsI (ltF M k).2 ((ltF M k).2 21 k) (ncut ((ltF M k).2 21 k)).toNat = 0 then 0 else 1), cutS (ltF M k).2 ((ltF M k).2 21 k))
def lostF (M : q_S) : Int × q_S := ltF (thr M 0) (M 50 16).toNat
