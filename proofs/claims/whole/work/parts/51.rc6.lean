/-! the events -/
def shC (C : q_S) (pl n : Int) : q_S := fun t i => if (121 ≤ t ∧ t ≤ 123) ∧ pl < i ∧ i ≤ n then C t (i - 1) else C t i
theorem shC_ap {C : q_S} {pl n t i : Int} : shC C pl n t i = if (121 ≤ t ∧ t ≤ 123) ∧ pl < i ∧ i ≤ n then C t (i - 1) else C t i := rfl
def cpC (C : q_S) (to fr : Int) : q_S := q_us (q_us (q_us C 121 to (C 121 fr)) 122 to (C 122 fr)) 123 to (C 123 fr)
theorem cpC_ap {C : q_S} {to fr t i : Int} : cpC C to fr t i = if (121 ≤ t ∧ t ≤ 123) ∧ i = to then C t fr else C t i := by
  unfold cpC
  simp only [q_us_ap]
  by_cases e : i = to
  · subst e
    by_cases e3 : t = 123
    · subst e3; rw [if_pos ⟨rfl, rfl⟩, if_pos ⟨by decide, rfl⟩]
    · rw [if_neg (fun g => e3 g.1)]
      by_cases e2 : t = 122
      · subst e2; rw [if_pos ⟨rfl, rfl⟩, if_pos ⟨by decide, rfl⟩]
      · rw [if_neg (fun g => e2 g.1)]
        by_cases e1 : t = 121
        · subst e1; rw [if_pos ⟨rfl, rfl⟩, if_pos ⟨by decide, rfl⟩]
        · rw [if_neg (fun g => e1 g.1), if_neg (by omega)]
  · rw [if_neg (fun g => e g.2), if_neg (fun g => e g.2), if_neg (fun g => e g.2), if_neg (fun g => e g.2)]
theorem shC_n (C : q_S) (n : Int) : shC C n n = C := by
  funext t i
  rw [shC_ap, if_neg (by omega)]
theorem shC_s (C : q_S) {pl n : Int} (h : 0 < pl ∧ pl ≤ n) : cpC (shC C pl n) pl (pl - 1) = shC C (pl - 1) n := by
  funext t i
  rw [cpC_ap, shC_ap, shC_ap, shC_ap]
  by_cases et : 121 ≤ t ∧ t ≤ 123
  · by_cases e : i = pl
    · rw [if_pos ⟨et, e⟩, if_neg (by omega), if_pos ⟨et, by omega, by omega⟩, e]
    · rw [if_neg (fun g => e g.2)]
      by_cases e2 : pl < i ∧ i ≤ n
      · rw [if_pos ⟨et, e2⟩, if_pos ⟨et, by omega, e2.2⟩]
      · rw [if_neg (fun g => e2 g.2), if_neg (by omega)]
  · rw [if_neg (fun g => et g.1), if_neg (fun g => et g.1), if_neg (fun g => et g.1)]
def evJ (C : q_S) (d : Int) : Nat → Int
  | 0 => 0
  | n + 1 => if d < C 123 n then evJ C d n else (n : Int) + 1
theorem evJ_rg (C : q_S) (d : Int) : ∀ n : Nat, (0 ≤ evJ C d n ∧ evJ C d n ≤ n) ∧ (∀ i : Int, evJ C d n ≤ i → i < n → d < C 123 i) ∧ (0 < evJ C d n → C 123 (evJ C d n - 1) ≤ d) := by
  intro n
  induction n with
  | zero => exact ⟨⟨Int.le_refl _, Int.le_refl _⟩, fun i a b => by simp only [evJ] at a; omega, fun h => by simp only [evJ] at h; omega⟩
  | succ n ih =>
    simp only [evJ]
    split
    next h =>
      refine ⟨⟨ih.1.1, by omega⟩, fun i a b => ?_, ih.2.2⟩
      by_cases e : i = n
      · rw [e]; exact h
      · exact ih.2.1 i a (by omega)
    next h => exact ⟨⟨by omega, by omega⟩, fun i a b => by omega, fun _ => by rw [show (n : Int) + 1 - 1 = n by omega]; omega⟩
def adC (C : q_S) (j n m f d : Int) : q_S := q_us (q_us (q_us (q_us (shC C j n) 121 j m) 122 j f) 123 j d) 103 3 (n + 1)
theorem adC_ap {C : q_S} {j n m f d t i : Int} : adC C j n m f d t i = if t = 103 ∧ i = 3 then n + 1 else if t = 123 ∧ i = j then d else if t = 122 ∧ i = j then f else if t = 121 ∧ i = j then m else shC C j n t i := rfl
theorem adC_o {C : q_S} {j n m f d t i : Int} (h : t ≠ 103 ∨ i ≠ 3) (h2 : ¬ (121 ≤ t ∧ t ≤ 123)) : adC C j n m f d t i = C t i := by
  rw [adC_ap, if_neg (by omega), if_neg (by omega), if_neg (by omega), if_neg (by omega), shC_ap, if_neg (fun g => h2 g.1)]
/-- one event of M: what is written there -/
def evM (M : q_S) (p d : Int) : q_S := q_us (q_us (q_us M 14 (M 50 13) p) 15 (M 50 13) d) 50 13 (M 50 13 + 1)
theorem re_add {M C : q_S} (h : RE M C) {m f d : Int} (hm : 0 ≤ m ∧ m ≤ 2) (hf : 0 ≤ f ∧ f ≤ 15) (hd : 0 < d) : RE (evM M (16 * m + f) d) (adC C (evJ C d (C 103 3).toNat) (C 103 3) m f d) := by
  obtain ⟨hn, e, h1, h2, h3⟩ := h
  have hj := evJ_rg C d (C 103 3).toNat
  generalize ej : evJ C d (C 103 3).toNat = j at hj ⊢
  have hjn : 0 ≤ j ∧ j ≤ C 103 3 := ⟨hj.1.1, by have := hj.1.2; omega⟩
  have lo : ∀ i, 0 ≤ i → i < j → C 123 i ≤ d := by
    intro i a b
    have g := hj.2.2 (by omega)
    by_cases e9 : i = j - 1
    · rw [e9]; exact g
    · have := h2 i (j - 1) a (by omega) (by omega)
      omega
  have hi : ∀ i, j ≤ i → i < C 103 3 → d < C 123 i := fun i a b => hj.2.1 i a (by omega)
  have s3 : adC C j (C 103 3) m f d 103 3 = C 103 3 + 1 := by rw [adC_ap, if_pos ⟨rfl, rfl⟩]
  have m13 : evM M (16 * m + f) d 50 13 = M 50 13 + 1 := by unfold evM; simp only [q_us_ap, and_self, if_true]
  have m14 : ∀ k, evM M (16 * m + f) d 14 k = if k = M 50 13 then 16 * m + f else M 14 k := by
    intro k; unfold evM; simp only [q_us_ap, Int.reduceEq, false_and, true_and, if_false]
  have m15 : ∀ k, evM M (16 * m + f) d 15 k = if k = M 50 13 then d else M 15 k := by
    intro k; unfold evM; simp only [q_us_ap, Int.reduceEq, false_and, true_and, if_false]
  have ca : ∀ t i, 121 ≤ t → t ≤ 123 → adC C j (C 103 3) m f d t i = if i = j then (if t = 123 then d else if t = 122 then f else m) else if j < i ∧ i ≤ C 103 3 then C t (i - 1) else C t i := by
    intro t i a b
    rw [adC_ap, if_neg (by omega), shC_ap]
    by_cases e9 : i = j
    · rw [if_pos e9]
      by_cases e3 : t = 123
      · rw [if_pos ⟨e3, e9⟩, if_pos e3]
      · rw [if_neg (fun g => e3 g.1), if_neg e3]
        by_cases e2 : t = 122
        · rw [if_pos ⟨e2, e9⟩, if_pos e2]
        · rw [if_neg (fun g => e2 g.1), if_neg e2, if_pos ⟨by omega, e9⟩]
    · rw [if_neg (fun g => e9 g.2), if_neg (fun g => e9 g.2), if_neg (fun g => e9 g.2), if_neg e9]
      by_cases e2 : j < i ∧ i ≤ C 103 3
      · rw [if_pos ⟨⟨a, b⟩, e2⟩, if_pos e2]
      · rw [if_neg (fun g => e2 g.2), if_neg e2]
  have c1 := fun i => ca 121 i (by decide) (by decide)
  have c2 := fun i => ca 122 i (by decide) (by decide)
  have c3 := fun i => ca 123 i (by decide) (by decide)
  simp only [Int.reduceEq, if_true, if_false] at c1 c2 c3
  unfold RE
  rw [s3, m13]
  refine ⟨⟨by omega, by omega⟩, fun i => if i < j then e i else if i = j then M 50 13 else e (i - 1), fun i a b => ?_, fun i i2 a b g => ?_, fun k a b g => ?_⟩
  · simp only [c1, c2, c3, m14, m15]
    by_cases e1 : i < j
    · have g := h1 i a (by omega)
      rw [if_pos e1, if_neg (show ¬ i = j by omega), if_neg (show ¬ (j < i ∧ i ≤ C 103 3) by omega), if_neg (show ¬ i = j by omega), if_neg (show ¬ (j < i ∧ i ≤ C 103 3) by omega), if_neg (show ¬ i = j by omega), if_neg (show ¬ (j < i ∧ i ≤ C 103 3) by omega), if_neg (show ¬ e i = M 50 13 by omega), if_neg (show ¬ e i = M 50 13 by omega)]
      exact ⟨⟨by omega, by omega⟩, g.2⟩
    · by_cases e2 : i = j
      · rw [if_neg e1, if_pos e2, if_pos e2, if_pos e2, if_pos e2, if_pos rfl, if_pos rfl]
        exact ⟨⟨by omega, by omega⟩, rfl, hm, hf, rfl, hd⟩
      · have g := h1 (i - 1) (by omega) (by omega)
        rw [if_neg e1, if_neg e2, if_neg e2, if_pos (show j < i ∧ i ≤ C 103 3 by omega), if_neg e2, if_pos (show j < i ∧ i ≤ C 103 3 by omega), if_neg e2, if_pos (show j < i ∧ i ≤ C 103 3 by omega), if_neg (show ¬ e (i - 1) = M 50 13 by omega), if_neg (show ¬ e (i - 1) = M 50 13 by omega)]
        exact ⟨⟨by omega, by omega⟩, g.2⟩
  · simp only [c3]
    by_cases e1 : i2 < j
    · rw [if_neg (show ¬ i = j by omega), if_neg (show ¬ (j < i ∧ i ≤ C 103 3) by omega), if_neg (show ¬ i2 = j by omega), if_neg (show ¬ (j < i2 ∧ i2 ≤ C 103 3) by omega), if_pos e1, if_pos (show i < j by omega)]
      exact h2 i i2 a b (by omega)
    · by_cases e2 : i2 = j
      · rw [if_neg (show ¬ i = j by omega), if_neg (show ¬ (j < i ∧ i ≤ C 103 3) by omega), if_pos e2, if_pos (show i < j by omega), if_neg e1, if_pos e2]
        have g1 := lo i a (by omega)
        have g2 := h1 i a (by omega)
        omega
      · rw [if_neg (show ¬ i2 = j by omega), if_pos (show j < i2 ∧ i2 ≤ C 103 3 by omega), if_neg e1, if_neg e2]
        by_cases e3 : i < j
        · rw [if_neg (show ¬ i = j by omega), if_neg (show ¬ (j < i ∧ i ≤ C 103 3) by omega), if_pos e3]
          exact h2 i (i2 - 1) a (by omega) (by omega)
        · by_cases e4 : i = j
          · rw [if_pos e4]
            have := hi (i2 - 1) (by omega) (by omega)
            exact Or.inl this
          · rw [if_neg e4, if_pos (show j < i ∧ i ≤ C 103 3 by omega), if_neg e3, if_neg e4]
            exact h2 (i - 1) (i2 - 1) (by omega) (by omega) (by omega)
  · simp only [m15] at g
    by_cases ek : k = M 50 13
    · exact ⟨j, ⟨hjn.1, by omega⟩, by show (if j < j then e j else if j = j then M 50 13 else e (j - 1)) = k; rw [if_neg (by omega), if_pos rfl, ek]⟩
    · rw [if_neg ek] at g
      obtain ⟨i, hi2, hk⟩ := h3 k a (by omega) g
      by_cases e1 : i < j
      · exact ⟨i, ⟨hi2.1, by omega⟩, by show (if i < j then e i else if i = j then M 50 13 else e (i - 1)) = k; rw [if_pos e1]; exact hk⟩
      · exact ⟨i + 1, ⟨by omega, by omega⟩, by show (if i + 1 < j then e (i + 1) else if i + 1 = j then M 50 13 else e (i + 1 - 1)) = k; rw [if_neg (by omega), if_neg (by omega), show i + 1 - 1 = i by omega]; exact hk⟩
/-- the first ones are gone -/
def drC (C : q_S) (g pl : Int) : q_S := fun t i => if (121 ≤ t ∧ t ≤ 123) ∧ 0 ≤ i ∧ i < pl - g then C t (i + g) else C t i
theorem drC_ap {C : q_S} {g pl t i : Int} : drC C g pl t i = if (121 ≤ t ∧ t ≤ 123) ∧ 0 ≤ i ∧ i < pl - g then C t (i + g) else C t i := rfl
theorem drC_0 (C : q_S) (g : Int) : drC C g g = C := by
  funext t i
  rw [drC_ap, if_neg (by omega)]
theorem drC_s (C : q_S) {g pl : Int} (h : 0 ≤ g ∧ g ≤ pl) : cpC (drC C g pl) (pl - g) pl = drC C g (pl + 1) := by
  funext t i
  rw [cpC_ap, drC_ap, drC_ap, drC_ap]
  by_cases et : 121 ≤ t ∧ t ≤ 123
  · by_cases e : i = pl - g
    · rw [if_pos ⟨et, e⟩, if_neg (by omega), if_pos ⟨et, by omega, by omega⟩, e, show pl - g + g = pl by omega]
    · rw [if_neg (fun x => e x.2)]
      by_cases e2 : 0 ≤ i ∧ i < pl - g
      · rw [if_pos ⟨et, e2⟩, if_pos ⟨et, by omega, by omega⟩]
      · rw [if_neg (fun x => e2 x.2), if_neg (by omega)]
  · rw [if_neg (fun x => et x.1), if_neg (fun x => et x.1), if_neg (fun x => et x.1)]
def dfC (C : q_S) (g n : Int) : q_S := q_us (drC C g n) 103 3 (n - g)
/-- what has come by an hour -/
def cbF (C : q_S) (n h : Int) : Nat → Int → Int
  | 0, i => i
  | r + 1, i => if i < n ∧ C 123 i ≤ h then cbF C n h r (i + 1) else i
theorem cbF_sp (C : q_S) (n h : Int) : ∀ (r : Nat) (i : Int), 0 ≤ i → i ≤ n → n - i ≤ r → (∀ k, 0 ≤ k → k < i → C 123 k ≤ h) → (i ≤ cbF C n h r i ∧ cbF C n h r i ≤ n) ∧ (∀ k, 0 ≤ k → k < cbF C n h r i → C 123 k ≤ h) ∧ (cbF C n h r i = n ∨ h < C 123 (cbF C n h r i)) := by
  intro r
  induction r with
  | zero => intro i a b d f; exact ⟨⟨Int.le_refl _, b⟩, f, Or.inl (by show i = n; omega)⟩
  | succ r ih =>
    intro i a b d f
    simp only [cbF]
    split
    next g =>
      have := ih (i + 1) (by omega) (by omega) (by omega) (fun k x y => by
        by_cases e : k = i
        · rw [e]; exact g.2
        · exact f k x (by omega))
      exact ⟨⟨by omega, this.1.2⟩, this.2⟩
    next g => exact ⟨⟨Int.le_refl _, b⟩, f, by omega⟩
/-- all events of a machine are gone -/
def kpE (C : q_S) (m : Int) : Nat → Int × q_S
  | 0 => (0, C)
  | n + 1 => if ¬ C 121 n = m then ((kpE C m n).1 + 1, cpC (kpE C m n).2 (kpE C m n).1 n) else kpE C m n
def kpS (C : q_S) (m : Int) : Nat → Int → Int
  | 0 => fun i => i
  | n + 1 => if ¬ C 121 n = m then (fun i => if i = (kpE C m n).1 then (n : Int) else kpS C m n i) else kpS C m n
theorem kpE_sp (C : q_S) (m : Int) : ∀ n : Nat, (0 ≤ (kpE C m n).1 ∧ (kpE C m n).1 ≤ n) ∧ (∀ t i, (kpE C m n).1 ≤ i ∨ ¬ (121 ≤ t ∧ t ≤ 123) → (kpE C m n).2 t i = C t i) ∧
    (∀ i, 0 ≤ i → i < (kpE C m n).1 → (i ≤ kpS C m n i ∧ kpS C m n i < n) ∧ ¬ C 121 (kpS C m n i) = m ∧ ∀ t, 121 ≤ t → t ≤ 123 → (kpE C m n).2 t i = C t (kpS C m n i)) ∧
    (∀ i j, 0 ≤ i → i < j → j < (kpE C m n).1 → kpS C m n i < kpS C m n j) ∧ ∀ k : Int, 0 ≤ k → k < n → ¬ C 121 k = m → ∃ i, (0 ≤ i ∧ i < (kpE C m n).1) ∧ kpS C m n i = k := by
  intro n
  induction n with
  | zero => exact ⟨⟨Int.le_refl _, Int.le_refl _⟩, fun _ _ _ => rfl, fun i a b => by simp only [kpE] at b; omega, fun i j a b d => by simp only [kpE] at d; omega, fun k a b => by omega⟩
  | succ n ih =>
    obtain ⟨i1, i2, i3, i4, i5⟩ := ih
    by_cases e : ¬ C 121 n = m
    · have eE : kpE C m (n + 1) = ((kpE C m n).1 + 1, cpC (kpE C m n).2 (kpE C m n).1 n) := by simp only [kpE]; rw [if_pos e]
      have eS : kpS C m (n + 1) = fun i => if i = (kpE C m n).1 then (n : Int) else kpS C m n i := by simp only [kpS]; rw [if_pos e]
      rw [eE, eS]
      refine ⟨⟨by omega, by simp only []; omega⟩, fun t i g => ?_, fun i a b => ?_, fun i j a b d => ?_, fun k a b g => ?_⟩
      · simp only [] at g ⊢
        rw [cpC_ap, if_neg (by omega)]
        exact i2 t i (by omega)
      · simp only [] at b ⊢
        by_cases e9 : i = (kpE C m n).1
        · rw [if_pos e9]
          refine ⟨⟨by omega, by omega⟩, e, fun t x y => ?_⟩
          rw [cpC_ap, if_pos ⟨⟨x, y⟩, e9⟩]
          exact i2 t n (Or.inl i1.2)
        · rw [if_neg e9]
          have g := i3 i a (by omega)
          refine ⟨⟨g.1.1, by omega⟩, g.2.1, fun t x y => ?_⟩
          rw [cpC_ap, if_neg (fun z => e9 z.2)]
          exact g.2.2 t x y
      · simp only [] at d ⊢
        rw [if_neg (show ¬ i = (kpE C m n).1 by omega)]
        by_cases e9 : j = (kpE C m n).1
        · rw [if_pos e9]; have := (i3 i a (by omega)).1.2; omega
        · rw [if_neg e9]; exact i4 i j a b (by omega)
      · by_cases ek : k = n
        · exact ⟨(kpE C m n).1, ⟨i1.1, by simp only []; omega⟩, by show (if (kpE C m n).1 = (kpE C m n).1 then (n : Int) else kpS C m n (kpE C m n).1) = k; rw [if_pos rfl, ek]⟩
        · obtain ⟨i, hi, hk⟩ := i5 k a (by omega) g
          exact ⟨i, ⟨hi.1, by simp only []; omega⟩, by simp only []; rw [if_neg (by omega)]; exact hk⟩
    · have eE : kpE C m (n + 1) = kpE C m n := by simp only [kpE]; rw [if_neg e]
      have eS : kpS C m (n + 1) = kpS C m n := by simp only [kpS]; rw [if_neg e]
      rw [eE, eS]
      refine ⟨⟨i1.1, by omega⟩, i2, fun i a b => ?_, i4, fun k a b g => ?_⟩
      · have g := i3 i a b; exact ⟨⟨g.1.1, by omega⟩, g.2⟩
      · have ek : k ≠ n := fun e9 => e (by rw [← e9]; exact g)
        exact i5 k a (by omega) g
def doC (C : q_S) (m : Int) : q_S := q_us (kpE C m (C 103 3).toNat).2 103 3 (kpE C m (C 103 3).toNat).1
theorem loF_sp (M : q_S) (m : Int) : ∀ k : Nat, (∀ t j, (loF M m k).2 t j = if t = 15 ∧ (0 ≤ j ∧ j < k) ∧ M 14 j / 16 = m ∧ 0 < M 15 j then 0 else M t j) ∧ (loF M m k).1 = sumF (fun j => if M 14 j / 16 = m ∧ 0 < M 15 j then 1 else 0) k := by
  intro k
  induction k with
  | zero => exact ⟨fun t j => by rw [if_neg (by omega)]; rfl, rfl⟩
  | succ k ih =>
    have e14 : (loF M m k).2 14 k = M 14 k := by rw [ih.1, if_neg (by omega)]
    have e15 : (loF M m k).2 15 k = M 15 k := by rw [ih.1, if_neg (by omega)]
    simp only [loF, sumF, e14, e15]
    by_cases e : M 14 k / 16 = m ∧ 0 < M 15 k
    · rw [if_pos e, if_pos e]
      refine ⟨fun t j => ?_, by simp only []; rw [ih.2]⟩
      simp only [q_us_ap, ih.1]
      by_cases e2 : t = 15 ∧ j = k
      · rw [if_pos e2, if_pos ⟨e2.1, by omega, by rw [e2.2]; exact e⟩]
      · rw [if_neg e2]
        by_cases e3 : t = 15 ∧ (0 ≤ j ∧ j < k) ∧ M 14 j / 16 = m ∧ 0 < M 15 j
        · rw [if_pos e3, if_pos ⟨e3.1, by omega, e3.2.2⟩]
        · rw [if_neg e3, if_neg (fun g => e3 ⟨g.1, by have := g.2.1; omega, g.2.2⟩)]
    · rw [if_neg e, if_neg e]
      refine ⟨fun t j => ?_, by rw [ih.2, Int.add_zero]⟩
      rw [ih.1]
      by_cases e3 : t = 15 ∧ (0 ≤ j ∧ j < k) ∧ M 14 j / 16 = m ∧ 0 < M 15 j
      · rw [if_pos e3, if_pos ⟨e3.1, by omega, e3.2.2⟩]
      · rw [if_neg e3, if_neg (fun g => e3 ⟨g.1, by have := g.2.1; have h2 : j ≠ k := fun e9 => e (by rw [← e9]; exact g.2.2); omega, g.2.2⟩)]
theorem re_inj {M C : q_S} {e : Int → Int} (h1 : ∀ i, 0 ≤ i → i < C 103 3 → (0 ≤ e i ∧ e i < M 50 13) ∧ M 14 (e i) = 16 * C 121 i + C 122 i ∧ (0 ≤ C 121 i ∧ C 121 i ≤ 2) ∧ (0 ≤ C 122 i ∧ C 122 i ≤ 15) ∧ M 15 (e i) = C 123 i ∧ 0 < C 123 i)
    (h2 : ∀ i j, 0 ≤ i → i < j → j < C 103 3 → C 123 i < C 123 j ∨ C 123 i = C 123 j ∧ e i < e j) : ∀ i j, 0 ≤ i → i < j → j < C 103 3 → e i ≠ e j := by
  intro i j a b d g
  have hi := h1 i a (by omega)
  have hj := h1 j (by omega) d
  have := h2 i j a b d
  rw [g] at hi
  omega
theorem re_lose {M C : q_S} (h : RE M C) (m : Int) : RE (loF M m (M 50 13).toNat).2 (doC C m) ∧ (loF M m (M 50 13).toNat).1 = C 103 3 - (kpE C m (C 103 3).toNat).1 := by
  obtain ⟨hn, e, h1, h2, h3⟩ := h
  have sp := kpE_sp C m (C 103 3).toNat
  obtain ⟨s1, s2, s3, s4, s5⟩ := sp
  have lo := loF_sp M m (M 50 13).toNat
  have inj := re_inj h1 h2
  generalize eK : kpE C m (C 103 3).toNat = KE at *
  generalize eS : kpS C m (C 103 3).toNat = SG at *
  have c3 : doC C m 103 3 = KE.1 := by unfold doC; rw [eK]; simp only [q_us_ap, and_self, if_true]
  have cv : ∀ t i, 121 ≤ t → t ≤ 123 → 0 ≤ i → i < KE.1 → doC C m t i = C t (SG i) := by
    intro t i a b d f
    unfold doC; rw [eK]
    simp only [q_us_ap]; rw [if_neg (by omega)]
    exact (s3 i d f).2.2 t a b
  have m13 : (loF M m (M 50 13).toNat).2 50 13 = M 50 13 := by rw [lo.1, if_neg (by omega)]
  have m14 : ∀ k, (loF M m (M 50 13).toNat).2 14 k = M 14 k := fun k => by rw [lo.1, if_neg (by omega)]
  have m15 : ∀ k, (loF M m (M 50 13).toNat).2 15 k = if (0 ≤ k ∧ k < ((M 50 13).toNat : Int)) ∧ M 14 k / 16 = m ∧ 0 < M 15 k then 0 else M 15 k := by
    intro k; rw [lo.1]
    by_cases e9 : (0 ≤ k ∧ k < ((M 50 13).toNat : Int)) ∧ M 14 k / 16 = m ∧ 0 < M 15 k
    · rw [if_pos ⟨rfl, e9⟩, if_pos e9]
    · rw [if_neg (fun g => e9 g.2), if_neg e9]
  refine ⟨?_, ?_⟩
  · unfold RE
    rw [c3, m13]
    refine ⟨⟨s1.1, by omega⟩, fun i => e (SG i), fun i a b => ?_, fun i j a b d => ?_, fun k a b g => ?_⟩
    · have g := s3 i a b
      have g1 := h1 (SG i) (by omega) (by omega)
      dsimp only
      rw [cv 121 i (by decide) (by decide) a b, cv 122 i (by decide) (by decide) a b, cv 123 i (by decide) (by decide) a b, m14, m15, if_neg (fun x => g.2.1 (by have := g1.2.1; have := x.2.1; omega))]
      exact g1
    · have gi := s3 i a (by omega)
      have gj := s3 j (by omega) d
      rw [cv 123 i (by decide) (by decide) a (by omega), cv 123 j (by decide) (by decide) (by omega) d]
      exact h2 (SG i) (SG j) (by omega) (s4 i j a b d) (by omega)
    · rw [m15] at g
      by_cases e9 : (0 ≤ k ∧ k < ((M 50 13).toNat : Int)) ∧ M 14 k / 16 = m ∧ 0 < M 15 k
      · rw [if_pos e9] at g; omega
      · rw [if_neg e9] at g
        obtain ⟨i, hi, hk⟩ := h3 k a b g
        have g1 := h1 i hi.1 hi.2
        obtain ⟨i2, hi2, hk2⟩ := s5 i hi.1 (by omega) (fun x => e9 ⟨⟨a, by omega⟩, by rw [hk] at g1; omega, g⟩)
        exact ⟨i2, hi2, by show e (SG i2) = k; rw [hk2]; exact hk⟩
  · rw [lo.2]
    have sl := sum_list (P := e) (N := (M 50 13).toNat) (C 103 3).toNat (fun j => if M 14 j / 16 = m ∧ 0 < M 15 j then 1 else 0) (fun i a b => by have := h1 i a (by omega); omega) (fun i j a b d => inj i j a b (by omega)) (fun x a b g => by
      have g2 : M 14 x / 16 = m ∧ 0 < M 15 x := Classical.byContradiction (fun z => g (if_neg z))
      obtain ⟨i, hi, hk⟩ := h3 x a (by omega) g2.2
      exact ⟨i, ⟨hi.1, by omega⟩, hk⟩)
    rw [← sl]
    have cnt : ∀ n : Nat, (n : Int) ≤ C 103 3 → sumF (fun i => if M 14 (e i) / 16 = m ∧ 0 < M 15 (e i) then 1 else 0) n = n - (kpE C m n).1 := by
      intro n
      induction n with
      | zero => intro _; rfl
      | succ n ih =>
        intro hn2
        have g1 := h1 n (by omega) (by omega)
        simp only [sumF, kpE]
        rw [ih (by omega)]
        by_cases e9 : C 121 n = m
        · rw [if_pos ⟨by omega, by omega⟩, if_neg (fun g => g e9)]; omega
        · rw [if_neg (fun g => e9 (by have := g.1; omega)), if_pos e9]; simp only []; omega
    rw [cnt _ (by omega), eK]; omega
