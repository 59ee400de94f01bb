/-! the reference's functions, third part: what moves pieces, versions and copies -/
/-- so many pieces bear this pack's number -/
def cnt (S : q_S) (q : Int) : Nat → Int
  | 0 => 0
  | n + 1 => cnt S q n + (if S 31 n = q then 1 else 0)
theorem cnt_nn (S : q_S) (q : Int) : ∀ n : Nat, 0 ≤ cnt S q n ∧ cnt S q n ≤ n := by
  intro n
  induction n with
  | zero => exact ⟨Int.le_refl _, Int.le_refl _⟩
  | succ n ih => simp only [cnt]; split <;> omega
theorem cnt_pos {S : q_S} {q x : Int} (h0 : 0 ≤ x) (hq : S 31 x = q) : ∀ n : Nat, x < n → 1 ≤ cnt S q n := by
  intro n
  induction n with
  | zero => intro h; omega
  | succ n ih =>
    intro h
    simp only [cnt]
    have := cnt_nn S q n
    by_cases e : x = n
    · rw [← e, if_pos hq]; omega
    · have := ih (by omega)
      split <;> omega
theorem cnt_congr {A B : q_S} {q : Int} : ∀ n : Nat, (∀ k : Int, 0 ≤ k → k < n → A 31 k = B 31 k) → cnt A q n = cnt B q n := by
  intro n
  induction n with
  | zero => intro _; rfl
  | succ n ih => intro h; simp only [cnt]; rw [ih (fun k a b => h k a (by omega)), h n (by omega) (by omega)]
theorem cnt_zero {S : q_S} {q : Int} : ∀ n : Nat, (∀ k : Int, 0 ≤ k → k < n → S 31 k ≠ q) → cnt S q n = 0 := by
  intro n
  induction n with
  | zero => intro _; rfl
  | succ n ih => intro h; simp only [cnt]; rw [ih (fun k a b => h k a (by omega)), if_neg (h n (by omega) (by omega))]; rfl
theorem cnt_us {A B : q_S} {x z q : Int} (hB : ∀ k, B 31 k = if k = x then z else A 31 k) (h0 : 0 ≤ x) : ∀ n : Nat,
    cnt B q n = cnt A q n + (if x < n then (if z = q then 1 else 0) - (if A 31 x = q then 1 else 0) else 0) := by
  intro n
  induction n with
  | zero => simp only [cnt]; rw [if_neg (by omega)]; rfl
  | succ n ih =>
    simp only [cnt, ih, hB]
    by_cases e : (n : Int) = x
    · rw [if_pos e, if_neg (show ¬ x < (n : Int) by omega), if_pos (show x < ((n + 1 : Nat) : Int) by omega), e]; omega
    · rw [if_neg e]
      by_cases e2 : x < n
      · rw [if_pos e2, if_pos (show x < ((n + 1 : Nat) : Int) by omega)]; omega
      · rw [if_neg e2, if_neg (show ¬ x < ((n + 1 : Nat) : Int) by omega)]; omega
/-- the packs: how many pieces lie in each -/
def PMI (S : q_S) : Prop := (∀ p, 0 ≤ p → S 35 p = cnt S (p + 1) 20000) ∧ ∀ k, 0 ≤ k → k < 20000 → S 31 k ≤ S 50 34
theorem PMI.of {A B : q_S} (h : PMI A) (h1 : ∀ k, B 31 k = A 31 k) (h2 : ∀ k, B 35 k = A 35 k) (h3 : B 50 34 = A 50 34) : PMI B :=
  ⟨fun p hp => by rw [h2, h.1 p hp]; exact cnt_congr _ (fun k _ _ => (h1 k).symm), fun k a b => by rw [h1, h3]; exact h.2 k a b⟩
theorem comesF_ap (M : q_S) (x t j : Int) : comesF M x t j = if t = 50 ∧ j = 39 then M 50 39 + 1 else if t = 32 ∧ j = x then 0 else if t = 35 ∧ j = pkF M - 1 then M 35 (pkF M - 1) + 1 else if t = 31 ∧ j = x then pkF M else if t = 50 ∧ j = 34 then pkF M else M t j := by
  unfold comesF pkF
  split
  · simp only [q_us_ap, Int.reduceEq, false_and, and_false, and_true, if_false]
  · simp only [q_us_ap, Int.reduceEq, false_and, and_false, and_true, if_false]
    by_cases e : t = 50 ∧ j = 34
    · obtain ⟨rfl, rfl⟩ := e; simp
    · rw [if_neg e]
theorem pkF_ge (M : q_S) : M 50 34 ≤ pkF M ∧ pkF M ≤ M 50 34 + 1 := by unfold pkF; split <;> omega
theorem PMI.comes {S : q_S} (h : PMI S) (hW : WR S) {x : Int} (hx : 0 ≤ x ∧ x < 20000) (h0 : S 31 x = 0) : PMI (comesF S x) := by
  have g := rs_34 hW
  have hp := pkF_ge S
  have hp1 : 1 ≤ pkF S := by
    unfold pkF; split <;> omega
  refine ⟨?_, ?_⟩
  · intro p h1
    have e := cnt_us (A := S) (B := comesF S x) (x := x) (z := pkF S) (q := p + 1) (fun k => by rw [comesF_ap]; simp only [Int.reduceEq, false_and, true_and, if_false]) hx.1 20000
    rw [e, if_pos (by show x < 20000; omega), h0, if_neg (show ¬ (0 : Int) = p + 1 by omega), comesF_ap]
    simp only [Int.reduceEq, false_and, true_and, if_false]
    have := h.1 p h1
    by_cases e2 : p = pkF S - 1
    · rw [if_pos e2, if_pos (by omega), ← e2]; omega
    · rw [if_neg e2, if_neg (by omega)]; omega
  · intro k h1 h2
    rw [comesF_ap, comesF_ap]
    simp only [Int.reduceEq, false_and, true_and, and_false, and_true, if_false, if_true]
    have := h.2 k h1 h2
    split <;> omega
theorem PMI.fresh {S : q_S} (h : PMI S) (hW : WR S) : S 35 (S 50 34) = 0 := by
  have g := rs_34 hW
  rw [h.1 _ g.1]
  exact cnt_zero _ (fun k a b => by have := h.2 k a b; omega)
theorem WR.comes {M : q_S} (h : WR M) (hp : PMI M) {x : Int} (hx : 0 ≤ x ∧ x < 20000) (h1 : pkF M ≤ 1500) (h2 : M 50 39 ≤ 999999) : WR (comesF M x) := by
  intro t j
  rw [comesF_ap]
  have g := pkF_ge M
  have g1 := rs_34 h
  have g2 := rs_39 h
  have g3 := hp.fresh h
  have g4 : 0 ≤ M 35 (pkF M - 1) := (h 35 _).1
  have g5 : M 35 (pkF M - 1) ≤ 4 := by
    unfold pkF
    split
    next e => rw [show M 50 34 + 1 - 1 = M 50 34 by omega, g3]; decide
    next e => omega
  split
  next e => obtain ⟨rfl, rfl⟩ := e; exact ⟨(show (0 : Int) ≤ _ by omega), (show _ ≤ (1000000 : Int) by omega)⟩
  next =>
  split
  next e => obtain ⟨rfl, rfl⟩ := e; exact ⟨(show (0 : Int) ≤ 0 by omega), (show (0 : Int) ≤ 1 by omega)⟩
  next =>
  split
  next e => obtain ⟨rfl, rfl⟩ := e; exact ⟨(show (0 : Int) ≤ _ by omega), (show _ ≤ (5 : Int) by omega)⟩
  next =>
  split
  next e => obtain ⟨rfl, rfl⟩ := e; exact ⟨(show (0 : Int) ≤ _ by omega), (show _ ≤ (1500 : Int) by omega)⟩
  next =>
  split
  next e => obtain ⟨rfl, rfl⟩ := e; exact ⟨(show (0 : Int) ≤ _ by omega), (show _ ≤ (1500 : Int) by omega)⟩
  next => exact h t j
/-- sending -/
def seF (S : q_S) (p c : Int) : Nat → Int × q_S
  | 0 => (p, S)
  | k + 1 => if (seF S p c k).1 = -1 then seF S p c k else if ¬ (seF S p c k).2 31 (pce c k) = 0 then seF S p c k else if (seF S p c k).1 = 0 then (-1, (seF S p c k).2) else ((seF S p c k).1 - 1, comesF (seF S p c k).2 (pce c k))
def sendsF (M : q_S) (c p : Int) : Int × q_S := seF (cutS M c) p c (ncut c).toNat
theorem seF_stop {S : q_S} {p c : Int} {k : Nat} (h : (seF S p c k).1 = -1) : ∀ d : Nat, seF S p c (k + d) = seF S p c k := by
  intro d
  induction d with
  | zero => rfl
  | succ d ih => rw [← Nat.add_assoc]; simp only [seF]; rw [ih, if_pos h]
theorem seF_rg (S : q_S) {p : Int} (hp : 0 ≤ p ∧ p ≤ 100) (c : Int) : ∀ k, -1 ≤ (seF S p c k).1 ∧ (seF S p c k).1 ≤ 100 := by
  intro k
  induction k with
  | zero => simp only [seF]; omega
  | succ k ih =>
    simp only [seF]
    split
    · exact ih
    · split
      · exact ih
      · split
        · exact ⟨Int.le_refl _, (by decide : (-1 : Int) ≤ 100)⟩
        · simp only []; omega
theorem comesF_40 {M : q_S} {x j : Int} : comesF M x 40 j = M 40 j := by rw [comesF_ap]; simp only [Int.reduceEq, false_and, if_false]
theorem seF_40 (S : q_S) (p c j : Int) : ∀ k, (seF S p c k).2 40 j = S 40 j := by
  intro k
  induction k with
  | zero => rfl
  | succ k ih =>
    simp only [seF]
    split
    · exact ih
    · split
      · exact ih
      · split
        · exact ih
        · simp only [comesF_40]; exact ih
/-- the counters that only grow keep their bounds -/
def CT (S : q_S) : Prop := S 50 34 ≤ 1500 ∧ S 50 37 ≤ 1000000 ∧ S 50 38 ≤ 1000000 ∧ S 50 39 ≤ 1000000 ∧ S 50 16 ≤ 120
def LE (A B : q_S) : Prop := A 50 34 ≤ B 50 34 ∧ A 50 37 ≤ B 50 37 ∧ A 50 38 ≤ B 50 38 ∧ A 50 39 ≤ B 50 39 ∧ A 50 16 ≤ B 50 16
theorem LE.rfl {A : q_S} : LE A A := ⟨Int.le_refl _, Int.le_refl _, Int.le_refl _, Int.le_refl _, Int.le_refl _⟩
theorem LE.trans {A B D : q_S} (h : LE A B) (g : LE B D) : LE A D := ⟨Int.le_trans h.1 g.1, Int.le_trans h.2.1 g.2.1, Int.le_trans h.2.2.1 g.2.2.1, Int.le_trans h.2.2.2.1 g.2.2.2.1, Int.le_trans h.2.2.2.2 g.2.2.2.2⟩
theorem LE.ct {A B : q_S} (h : LE A B) (g : CT B) : CT A := ⟨Int.le_trans h.1 g.1, Int.le_trans h.2.1 g.2.1, Int.le_trans h.2.2.1 g.2.2.1, Int.le_trans h.2.2.2.1 g.2.2.2.1, Int.le_trans h.2.2.2.2 g.2.2.2.2⟩
theorem LE.comes (M : q_S) (x : Int) : LE M (comesF M x) ∧ M 50 39 + 1 ≤ comesF M x 50 39 ∧ comesF M x 50 34 = pkF M := by
  have := pkF_ge M
  unfold LE
  simp only [comesF_ap, Int.reduceEq, false_and, true_and, and_false, and_true, if_false, if_true]
  omega
theorem seF_le (S : q_S) (p c : Int) (k : Nat) : LE (seF S p c k).2 (seF S p c (k + 1)).2 := by
  simp only [seF]
  split
  · exact LE.rfl
  · split
    · exact LE.rfl
    · split
      · exact LE.rfl
      · exact (LE.comes _ _).1
theorem seF_le2 (S : q_S) (p c : Int) (k : Nat) : ∀ d, LE (seF S p c k).2 (seF S p c (k + d)).2 := by
  intro d
  induction d with
  | zero => exact LE.rfl
  | succ d ih => exact ih.trans (seF_le S p c (k + d))
theorem cutS_le (M : q_S) (c : Int) : LE M (cutS M c) := by
  unfold LE; simp only [cutS_o (M := M) (c := c) (t := 50) (by decide)]; exact LE.rfl
theorem sendsF_le (M : q_S) (c p : Int) : LE M (sendsF M c p).2 := by
  have := seF_le2 (cutS M c) p c 0 (ncut c).toNat
  rw [Nat.zero_add] at this
  exact (cutS_le M c).trans this
theorem PMI.cutS {M : q_S} (h : PMI M) (c : Int) : PMI (cutS M c) := h.of (fun _ => cutS_o (by decide)) (fun _ => cutS_o (by decide)) (cutS_o (by decide))
theorem wr_cutS {M : q_S} (h : WR M) (c : Int) : WR (cutS M c) := wr_cutSt h c _
theorem seF_ok {S : q_S} (hW : WR S) (hP : PMI S) (p c : Int) : ∀ k : Nat, CT (seF S p c k).2 → WR (seF S p c k).2 ∧ PMI (seF S p c k).2 := by
  intro k
  induction k with
  | zero => intro _; exact ⟨hW, hP⟩
  | succ k ih =>
    intro hc
    have i := ih ((seF_le S p c k).ct hc)
    have hx := pce_rg c k
    simp only [seF] at hc ⊢
    split
    · exact i
    · split
      · exact i
      next h1 h2 =>
        split
        · exact i
        next h3 =>
          rw [if_neg h1, if_neg h2, if_neg h3] at hc
          have g := LE.comes (seF S p c k).2 (pce c k)
          have h4 := Classical.not_not.mp h2
          exact ⟨i.1.comes i.2 (by omega) (by rw [← g.2.2]; exact hc.1) (by have := hc.2.2.2.1; have := g.2.1; simp only [] at *; omega), i.2.comes i.1 (by omega) h4⟩
theorem sendsF_ok {M : q_S} (hW : WR M) (hP : PMI M) {c p : Int} (hc : CT (sendsF M c p).2) : WR (sendsF M c p).2 ∧ PMI (sendsF M c p).2 := seF_ok (wr_cutS hW c) (hP.cutS c) p c _ hc
theorem sendsF_rg (M : q_S) {p : Int} (hp : 0 ≤ p ∧ p ≤ 100) (c : Int) : -1 ≤ (sendsF M c p).1 ∧ (sendsF M c p).1 ≤ 100 := seF_rg _ hp c _
/-- a free file -/
def frV (M : q_S) (f : Int) : Nat → Int
  | 0 => 1
  | n + 1 => if ¬ frV M f n = 0 ∧ (¬ M 17 n = f ∨ M 22 n = 1) then 1 else 0
def frM (M : q_S) (f b : Int) : Nat → Int
  | 0 => b
  | n + 1 => if ¬ frM M f b n = 0 ∧ M 2 (16 * n + f) = 0 then 1 else 0
def frI (M : q_S) (f : Int) : Int := frM M f (frV M f (M 50 16).toNat) 3
def frF (M : q_S) : Nat → Int → Int
  | 0, _ => -1
  | r + 1, f => if ¬ frI M f = 0 then f else frF M r (f + 1)
def freeF (M : q_S) : Int := frF M 16 0
theorem frF_rg (M : q_S) : ∀ (r : Nat) (f : Int), frF M r f = -1 ∨ (f ≤ frF M r f ∧ frF M r f < f + r) := by
  intro r
  induction r with
  | zero => intro f; exact Or.inl rfl
  | succ r ih => intro f; simp only [frF]; have := ih (f + 1); split <;> omega
theorem freeF_rg (M : q_S) : freeF M = -1 ∨ (0 ≤ freeF M ∧ freeF M ≤ 15) := by have := frF_rg M 16 0; unfold freeF; omega
def kpF (M : q_S) (p : Int) : Int := if rightF M (M 4 p) (p / 16) = 2 then freeF M else -1
def keepsF (M : q_S) (p lat : Int) : Int × q_S :=
  if kpF M p = -1 then (0, q_us M 50 38 (M 50 38 + 1)) else
  (1, becomesF (q_us (q_us (q_us (q_us (makesF M (kpF M p) (p / 16) (M 3 p) (M 4 p)) 5 (p / 16 * 16 + kpF M p) (M 50 16 + 1)) 2 (p / 16 * 16 + kpF M p) 2) 3 (p / 16 * 16 + kpF M p) (M 3 p)) 4 (p / 16 * 16 + kpF M p) (M 4 p)) p lat)
/-- a look at a noted file; S: the note is gone already -/
abbrev okP (S : q_S) (p lat : Int) : Prop := mayP S p lat ∧ lat = S 5 p - 1
def cflF (S : q_S) (p lat : Int) : q_S := q_us S 50 37 (S 50 37 + (if okP S p lat then 0 else 1))
def look2 (S : q_S) (p lat : Int) : Int × q_S :=
  if ¬ lat = -1 ∧ isAsP S p lat then (0, q_us S 5 p (lat + 1)) else
  if okP S p lat ∨ (¬ S 2 p = 0 ∧ (¬ lat = -1 ∧ S 21 lat = 0) ∧ mayP S p lat) then (1, q_us (makesF (cflF S p lat) (p % 16) (p / 16) (S 3 p) (S 4 p)) 5 p (S 50 16 + 1))
  else if S 2 p = 0 then (0, becomesF (cflF S p lat) p lat) else keepsF (cflF S p lat) p lat
def looksF (M : q_S) (p : Int) : Int × q_S := look2 (q_us M 8 p 0) p (latestOf M (p % 16))
theorem WR.makes {M : q_S} (h : WR M) {f m c d : Int} (hv : M 50 16 < 120) (hf : 0 ≤ f ∧ f ≤ 15) (hm : -1 ≤ m ∧ m ≤ 2) (hc : 0 ≤ c ∧ c ≤ 9999999999999) (hd : 0 ≤ d ∧ d ≤ 3) : WR (makesF M f m c d) := by
  have g := rs_16 h
  have g1 := rs_1 h
  unfold makesF
  exact WR.up (WR.up (WR.up (WR.up (WR.up (WR.up (WR.up h hf) g1) hm) hc) hd) ⟨(show (0 : Int) ≤ 0 by decide), (show (0 : Int) ≤ 1 by decide)⟩) ⟨(show (0 : Int) ≤ M 50 16 + 1 by omega), (show M 50 16 + 1 ≤ (120 : Int) by omega)⟩
theorem WR.becomes {M : q_S} (h : WR M) {p v : Int} (hv : -1 ≤ v ∧ v < 120) : WR (becomesF M p v) := by
  have h1 : WR (q_us M 5 p (v + 1)) := h.up ⟨(show (0 : Int) ≤ v + 1 by omega), (show v + 1 ≤ (120 : Int) by omega)⟩
  unfold becomesF
  split
  · have h2 : WR (q_us (q_us M 5 p (v + 1)) 2 p 1) := h1.up ⟨(show (0 : Int) ≤ 1 by decide), (show (1 : Int) ≤ 2 by decide)⟩
    have h3 : WR (q_us (q_us (q_us M 5 p (v + 1)) 2 p 1) 3 p (M 21 v)) := h2.up (h 21 v)
    exact h3.up (h 20 v)
  · exact h1.leaves p
theorem WR.cfl {S : q_S} (h : WR S) {p lat : Int} (hc : (cflF S p lat) 50 37 ≤ 1000000) : WR (cflF S p lat) := by
  have g := rs_37 h
  unfold cflF at hc ⊢
  refine WR.up h ⟨?_, ?_⟩
  · show (0 : Int) ≤ _; split <;> omega
  · exact hc
theorem becomesF_50 {M : q_S} {p v t j : Int} (ht : t ≠ 2 ∧ t ≠ 3 ∧ t ≠ 4 ∧ t ≠ 5) : becomesF M p v t j = M t j := by
  unfold becomesF leavesF
  split <;> simp [q_us, ht.1, ht.2.1, ht.2.2.1, ht.2.2.2]
theorem PMI.us {M : q_S} (h : PMI M) {t j z : Int} (h1 : t ≠ 31) (h2 : t ≠ 35) (h3 : t = 50 → j ≠ 34) : PMI (q_us M t j z) :=
  h.of (fun k => by simp only [q_us_ap]; rw [if_neg (fun g => h1 g.1.symm)]) (fun k => by simp only [q_us_ap]; rw [if_neg (fun g => h2 g.1.symm)]) (by simp only [q_us_ap]; rw [if_neg (fun g => h3 g.1.symm g.2.symm)])
theorem PMI.makes {M : q_S} (h : PMI M) (f m c d : Int) : PMI (makesF M f m c d) := h.of (fun _ => rfl) (fun _ => rfl) rfl
theorem PMI.becomes {M : q_S} (h : PMI M) (p v : Int) : PMI (becomesF M p v) := h.of (fun _ => becomesF_50 (by decide)) (fun _ => becomesF_50 (by decide)) (becomesF_50 (by decide))
theorem LE.makes (M : q_S) (f m c d : Int) : LE M (makesF M f m c d) := by
  unfold LE makesF; simp only [q_us_ap, Int.reduceEq, false_and, true_and, and_false, and_true, if_false, if_true]; omega
theorem LE.becomes (M : q_S) (p v : Int) : LE M (becomesF M p v) := by
  unfold LE; simp only [becomesF_50 (M := M) (p := p) (v := v) (t := 50) (by decide)]; exact LE.rfl
theorem LE.us {M : q_S} {t j z : Int} (h : t ≠ 50) : LE M (q_us M t j z) := by
  unfold LE; simp only [q_us_ap]
  refine ⟨?_, ?_, ?_, ?_, ?_⟩ <;> rw [if_neg (fun g => h g.1.symm)] <;> exact Int.le_refl _
theorem LE.cfl (S : q_S) (p lat : Int) : LE S (cflF S p lat) := by
  unfold LE cflF; simp only [q_us_ap, Int.reduceEq, false_and, true_and, and_false, and_true, if_false, if_true]
  refine ⟨Int.le_refl _, ?_, Int.le_refl _, Int.le_refl _, Int.le_refl _⟩
  split <;> omega
theorem LE.keeps (M : q_S) (p lat : Int) : LE M (keepsF M p lat).2 := by
  unfold keepsF
  split
  · unfold LE; simp only [q_us_ap, Int.reduceEq, false_and, true_and, and_false, and_true, if_false, if_true]; omega
  · exact (LE.makes M _ _ _ _).trans ((((LE.us (by decide)).trans (LE.us (by decide))).trans ((LE.us (by decide)).trans (LE.us (by decide)))).trans (LE.becomes _ _ _))
theorem le_look2 (S : q_S) (p lat : Int) : LE S (look2 S p lat).2 := by
  unfold look2
  split
  · exact LE.us (by decide)
  · split
    · exact (LE.cfl S p lat).trans ((LE.makes _ _ _ _ _).trans (LE.us (by decide)))
    · split
      · exact (LE.cfl S p lat).trans (LE.becomes _ _ _)
      · exact (LE.cfl S p lat).trans (LE.keeps _ _ _)
theorem LE.looks (M : q_S) (p : Int) : LE M (looksF M p).2 := (LE.us (by decide)).trans (le_look2 _ _ _)
theorem wr_keeps {M : q_S} (h : WR M) {p lat : Int} (hp : 0 ≤ p ∧ p < 48) (hl : -1 ≤ lat ∧ lat < 120) (hc : CT (keepsF M p lat).2) : WR (keepsF M p lat).2 := by
  have g := rs_38 h
  have g3 : 0 ≤ M 3 p ∧ M 3 p ≤ 9999999999999 := h 3 p
  have g4 : 0 ≤ M 4 p ∧ M 4 p ≤ 3 := h 4 p
  have g5 := rs_16 h
  unfold keepsF at hc ⊢
  split
  next e =>
    rw [if_pos e] at hc
    have := hc.2.2.1
    simp only [q_us_ap, and_self, if_true] at this
    exact WR.up h ⟨(show (0 : Int) ≤ _ by omega), (show _ ≤ (1000000 : Int) by omega)⟩
  next e =>
    rw [if_neg e] at hc
    have e1 := hc.2.2.2.2
    simp only [] at e1
    rw [becomesF_50 (t := 50) (by decide)] at e1
    simp only [makesF, q_us_ap, Int.reduceEq, false_and, true_and, and_false, and_true, and_self, if_false, if_true] at e1
    have e2 : 0 ≤ kpF M p ∧ kpF M p ≤ 15 := by
      have := freeF_rg M
      unfold kpF at e ⊢
      split at e <;> rename_i e3
      · rw [if_pos e3]; omega
      · exact absurd rfl e
    refine WR.becomes ?_ hl
    refine WR.up (WR.up (WR.up (WR.up (h.makes (by omega) e2 (by omega) g3 g4) ⟨(show (0 : Int) ≤ _ by omega), (show _ ≤ (120 : Int) by omega)⟩) ⟨(show (0 : Int) ≤ 2 by decide), (show (2 : Int) ≤ 2 by decide)⟩) g3) g4
theorem wr_look2 {S : q_S} (h : WR S) {p lat : Int} (hp : 0 ≤ p ∧ p < 48) (hl : -1 ≤ lat ∧ lat < 120) (hc : CT (look2 S p lat).2) : WR (look2 S p lat).2 := by
  have g3 : 0 ≤ S 3 p ∧ S 3 p ≤ 9999999999999 := h 3 p
  have g4 : 0 ≤ S 4 p ∧ S 4 p ≤ 3 := h 4 p
  have g5 := rs_16 h
  unfold look2 at hc ⊢
  split
  · exact WR.up h ⟨(show (0 : Int) ≤ _ by omega), (show _ ≤ (120 : Int) by omega)⟩
  next e0 =>
    rw [if_neg e0] at hc
    split
    next e =>
      rw [if_pos e] at hc
      have c1 := ((LE.makes (cflF S p lat) (p % 16) (p / 16) (S 3 p) (S 4 p)).trans (LE.us (t := 5) (j := p) (z := S 50 16 + 1) (by decide))).ct hc
      have e1 := hc.2.2.2.2
      have e2 : (cflF S p lat) 50 16 = S 50 16 := rfl
      simp only [makesF, q_us_ap, Int.reduceEq, false_and, true_and, and_false, and_true, and_self, if_false, if_true, e2] at e1
      exact WR.up ((h.cfl c1.2.1).makes (by rw [e2]; omega) (by omega) (by omega) g3 g4) ⟨(show (0 : Int) ≤ _ by omega), (show _ ≤ (120 : Int) by omega)⟩
    next e =>
      rw [if_neg e] at hc
      split
      next e3 =>
        rw [if_pos e3] at hc
        exact (h.cfl ((LE.becomes _ _ _).ct hc).2.1).becomes hl
      next e3 =>
        rw [if_neg e3] at hc
        exact wr_keeps (h.cfl ((LE.keeps _ _ _).ct hc).2.1) hp hl hc
theorem PMI.keeps {M : q_S} (h : PMI M) (p lat : Int) : PMI (keepsF M p lat).2 := by
  unfold keepsF
  split
  · exact h.us (by decide) (by decide) (by decide)
  · exact ((((( h.makes _ _ _ _).us (by decide) (by decide) (fun g => absurd g (by decide))).us (by decide) (by decide) (fun g => absurd g (by decide))).us (by decide) (by decide) (fun g => absurd g (by decide))).us (by decide) (by decide) (fun g => absurd g (by decide))).becomes _ _
theorem pmi_look2 {S : q_S} (h : PMI S) (p lat : Int) : PMI (look2 S p lat).2 := by
  have hc : PMI (cflF S p lat) := h.us (by decide) (by decide) (by decide)
  unfold look2
  split
  · exact h.us (by decide) (by decide) (fun g => absurd g (by decide))
  · split
    · exact (hc.makes _ _ _ _).us (by decide) (by decide) (fun g => absurd g (by decide))
    · split
      · exact hc.becomes _ _
      · exact hc.keeps _ _
/-- upload: n so far, l left -/
def upF (m : Int) : Nat → Int → Int → q_S → Int × q_S
  | 0, n, _, S => (n, S)
  | r + 1, n, l, S => if fnF S m 16 = -1 ∨ l = -1 then (n, S) else
    if ¬ isOtherP S (fnF S m 16) then upF m r n l (q_us S 8 (fnF S m 16) 0) else
    if S 2 (fnF S m 16) = 2 then
      (if (sendsF S (S 3 (fnF S m 16)) l).1 = -1 then (n, (sendsF S (S 3 (fnF S m 16)) l).2)
       else upF m r (n + (looksF (sendsF S (S 3 (fnF S m 16)) l).2 (fnF S m 16)).1) (sendsF S (S 3 (fnF S m 16)) l).1 (looksF (sendsF S (S 3 (fnF S m 16)) l).2 (fnF S m 16)).2)
    else upF m r (n + (looksF S (fnF S m 16)).1) l (looksF S (fnF S m 16)).2
def uploadF (M : q_S) (m p : Int) : Int × q_S :=
  if ¬ (0 ≤ m ∧ m ≤ 2) then (0, thr M 1) else if ¬ (0 ≤ p ∧ p ≤ 100) then (0, thr M 2) else if 100 < M 50 16 then (0, thr M 3) else upF m 17 0 p (thr M 0)
theorem upF_le (m : Int) : ∀ (r : Nat) (n l : Int) (S : q_S), LE S (upF m r n l S).2 := by
  intro r
  induction r with
  | zero => intro n l S; exact LE.rfl
  | succ r ih =>
    intro n l S
    simp only [upF]
    split
    · exact LE.rfl
    · split
      · exact (LE.us (by decide)).trans (ih _ _ _)
      · split
        · split
          · exact sendsF_le _ _ _
          · exact (sendsF_le _ _ _).trans ((LE.looks _ _).trans (ih _ _ _))
        · exact (LE.looks _ _).trans (ih _ _ _)
