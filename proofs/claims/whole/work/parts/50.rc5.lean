/-! lines of noted files -/
def noC (M C : q_S) (m f : Int) : q_S := if M 8 (16 * m + f) = 0 then q_us (q_us C (150 + m) (ntF M m 16) f) (110 + m) 2 (ntF M m 16 + 1) else C
theorem ntF_lt {M : q_S} {m f : Int} (hf : 0 ≤ f) (h : ¬ 0 < M 8 (16 * m + f)) : ∀ n : Nat, f < n → ntF M m n ≤ n - 1 := by
  intro n
  induction n with
  | zero => intro h; omega
  | succ n ih =>
    intro hn
    simp only [ntF]
    have := ntF_rg M m n
    by_cases e : f = n
    · rw [if_neg (by rw [← e]; exact h)]; omega
    · have := ih (by omega)
      split <;> omega
theorem ntF_up {S : q_S} {m p z : Int} (h0 : ¬ 0 < S 8 p) (hz : 0 < z) : ∀ n : Nat, ntF (q_us S 8 p z) m n = ntF S m n + (if 16 * m ≤ p ∧ p < 16 * m + n then 1 else 0) := by
  intro n
  induction n with
  | zero => simp only [ntF]; rw [if_neg (by omega)]; rfl
  | succ n ih =>
    simp only [ntF, ih, q_us_ap, true_and]
    by_cases e : 16 * m + n = p
    · rw [if_pos e, if_pos hz, if_neg (show ¬ (16 * m ≤ p ∧ p < 16 * m + (n : Int)) by omega), if_neg (by rw [e]; exact h0), if_pos (show 16 * m ≤ p ∧ p < 16 * m + ((n + 1 : Nat) : Int) by omega)] <;> omega
    · rw [if_neg e]
      by_cases e2 : 16 * m ≤ p ∧ p < 16 * m + (n : Int)
      · rw [if_pos e2, if_pos (show 16 * m ≤ p ∧ p < 16 * m + ((n + 1 : Nat) : Int) by omega)]; omega
      · rw [if_neg e2, if_neg (show ¬ (16 * m ≤ p ∧ p < 16 * m + ((n + 1 : Nat) : Int)) by omega)]; omega
theorem notesF_8 (M : q_S) (p j : Int) : notesF M p 8 j = if j = p ∧ M 8 p = 0 then M 50 10 + 1 else M 8 j := by
  unfold notesF
  by_cases e : M 8 p = 0
  · rw [if_pos e]
    simp only [q_us_ap, Int.reduceEq, false_and, true_and, if_false]
    by_cases e2 : j = p
    · rw [if_pos e2, if_pos ⟨e2, e⟩]
    · rw [if_neg e2, if_neg (fun g => e2 g.1)]
  · rw [if_neg e, if_neg (fun g => e g.2)]
theorem rl_note {M C : q_S} (h : RLn M C) (hW : WR M) (hI : ∀ p, 0 ≤ p → p < 48 → M 8 p ≤ M 50 10) {m f : Int} (hm : 0 ≤ m ∧ m ≤ 2) (hf : 0 ≤ f ∧ f ≤ 15) : RLn (notesF M (16 * m + f)) (noC M C m f) := by
  by_cases e0 : M 8 (16 * m + f) = 0
  · have h10 := rs_10 hW
    have en : notesF M (16 * m + f) = q_us (q_us M 50 10 (M 50 10 + 1)) 8 (16 * m + f) (M 50 10 + 1) := by unfold notesF; rw [if_pos e0]
    have ec : noC M C m f = q_us (q_us C (150 + m) (ntF M m 16) f) (110 + m) 2 (ntF M m 16 + 1) := by unfold noC; rw [if_pos e0]
    have e8 : ∀ j, notesF M (16 * m + f) 8 j = if j = 16 * m + f then M 50 10 + 1 else M 8 j := by
      intro j; rw [notesF_8]
      by_cases e : j = 16 * m + f
      · rw [if_pos ⟨e, e0⟩, if_pos e]
      · rw [if_neg (fun g => e g.1), if_neg e]
    have ent : ∀ m2, ntF (notesF M (16 * m + f)) m2 16 = ntF M m2 16 + (if 16 * m2 ≤ 16 * m + f ∧ 16 * m + f < 16 * m2 + ((16 : Nat) : Int) then 1 else 0) := by
      intro m2
      rw [en, ntF_up (S := q_us M 50 10 (M 50 10 + 1)) (by show ¬ 0 < M 8 (16 * m + f); omega) (by omega), ntF_congr (A := q_us M 50 10 (M 50 10 + 1)) (B := M) (fun _ => rfl)]
    intro m2 h1 h2
    have g := h m2 h1 h2
    have gw := ntF_rg M m2 16
    by_cases em : m2 = m
    · subst em
      rw [ent m2, if_pos ⟨by omega, by omega⟩, ec]
      have cl : ∀ i, q_us (q_us C (150 + m2) (ntF M m2 16) f) (110 + m2) 2 (ntF M m2 16 + 1) (150 + m2) i = if i = ntF M m2 16 then f else C (150 + m2) i := by
        intro i
        simp only [q_us_ap]
        rw [if_neg (by omega)]
        by_cases e : i = ntF M m2 16
        · rw [if_pos ⟨trivial, e⟩, if_pos e]
        · rw [if_neg (fun g => e g.2), if_neg e]
      refine ⟨by simp only [q_us_ap]; rw [if_pos ⟨trivial, trivial⟩], fun i a b => ?_, fun i j a b d => ?_, fun f2 a b d => ?_⟩
      · rw [cl]
        by_cases e : i = ntF M m2 16
        · rw [if_pos e, e8, if_pos rfl]; exact ⟨⟨hf.1, hf.2⟩, by omega⟩
        · rw [if_neg e]
          have gi := g.2.1 i a (by omega)
          refine ⟨gi.1, ?_⟩
          rw [e8, if_neg (fun e9 => by have := gi.2; rw [e9] at this; omega)]; exact gi.2
      · rw [cl, cl, if_neg (show ¬ i = ntF M m2 16 by omega)]
        have gi := g.2.1 i a (by omega)
        have hi := hI (16 * m2 + C (150 + m2) i) (by omega) (by omega)
        rw [e8, if_neg (fun e9 => by have := gi.2; rw [e9] at this; omega)]
        by_cases e : j = ntF M m2 16
        · rw [if_pos e, e8, if_pos rfl]; omega
        · rw [if_neg e]
          have gj := g.2.1 j (by omega) (by omega)
          rw [e8, if_neg (fun e9 => by have := gj.2; rw [e9] at this; omega)]
          exact g.2.2.1 i j a b (by omega)
      · by_cases ef : f2 = f
        · exact ⟨ntF M m2 16, ⟨by omega, by omega⟩, by rw [cl, if_pos rfl, ef]⟩
        · rw [e8, if_neg (by omega)] at d
          obtain ⟨i, hi, hj⟩ := g.2.2.2 f2 a b d
          exact ⟨i, ⟨hi.1, by omega⟩, by rw [cl, if_neg (by omega)]; exact hj⟩
    · rw [ent m2, if_neg (by omega), Int.add_zero, ec]
      have cl : ∀ j, q_us (q_us C (150 + m) (ntF M m 16) f) (110 + m) 2 (ntF M m 16 + 1) (150 + m2) j = C (150 + m2) j := by
        intro j; simp only [q_us_ap]; rw [if_neg (by omega), if_neg (by omega)]
      have cw : q_us (q_us C (150 + m) (ntF M m 16) f) (110 + m) 2 (ntF M m 16 + 1) (110 + m2) 2 = C (110 + m2) 2 := by
        simp only [q_us_ap]; rw [if_neg (by omega), if_neg (by omega)]
      have e9 : ∀ x, 0 ≤ x → x ≤ 15 → notesF M (16 * m + f) 8 (16 * m2 + x) = M 8 (16 * m2 + x) := fun x a b => by rw [e8, if_neg (by omega)]
      refine ⟨by rw [cw]; exact g.1, fun i a b => ?_, fun i j a b d => ?_, fun f2 a b d => ?_⟩
      · have gi := g.2.1 i a b
        rw [cl, e9 _ gi.1.1 gi.1.2]; exact gi
      · have gi := g.2.1 i a (by omega)
        have gj := g.2.1 j (by omega) d
        rw [cl, cl, e9 _ gi.1.1 gi.1.2, e9 _ gj.1.1 gj.1.2]; exact g.2.2.1 i j a b d
      · rw [e9 _ a b] at d
        obtain ⟨i, hi, hj⟩ := g.2.2.2 f2 a b d
        exact ⟨i, hi, by rw [cl]; exact hj⟩
  · have en : notesF M (16 * m + f) = M := by unfold notesF; rw [if_neg e0]
    have ec : noC M C m f = C := by unfold noC; rw [if_neg e0]
    rw [en, ec]; exact h
/-- the first one in the line -/
def dlC (C : q_S) (m w : Int) : q_S := q_us (q_cs C (150 + m) 1 (150 + m) 0 (w - 1)) (110 + m) 2 (w - 1)
theorem rl_drop {M C : q_S} (h : RLn M C) {m : Int} (hm : 0 ≤ m ∧ m ≤ 2) (hw : 0 < ntF M m 16) : RLn (q_us M 8 (16 * m + C (150 + m) 0) 0) (dlC C m (ntF M m 16)) := by
  have g0 := (h m hm.1 hm.2).2.1 0 (Int.le_refl _) hw
  have ent : ∀ m2, 0 ≤ m2 → m2 ≤ 2 → ntF (q_us M 8 (16 * m + C (150 + m) 0) 0) m2 16 = ntF M m2 16 - (if m2 = m then 1 else 0) := by
    intro m2 h1 h2
    by_cases em : m2 = m
    · subst em
      rw [ntF_us (by omega) g0.2, if_pos (by show _ < 16 * m2 + 16; omega), if_pos rfl]
    · rw [if_neg em, Int.sub_zero]
      have : ∀ n : Nat, n ≤ 16 → ntF (q_us M 8 (16 * m + C (150 + m) 0) 0) m2 n = ntF M m2 n := by
        intro n
        induction n with
        | zero => intro _; rfl
        | succ n ih =>
          intro hn
          simp only [ntF, ih (by omega), q_us_ap, true_and]
          rw [if_neg (show ¬ 16 * m2 + (n : Int) = 16 * m + C (150 + m) 0 by omega)]
      exact this 16 (Nat.le_refl _)
  intro m2 h1 h2
  have g := h m2 h1 h2
  rw [ent m2 h1 h2]
  by_cases em : m2 = m
  · subst em
    rw [if_pos rfl]
    have cl : ∀ i, 0 ≤ i → i < ntF M m2 16 - 1 → dlC C m2 (ntF M m2 16) (150 + m2) i = C (150 + m2) (i + 1) := by
      intro i a b
      unfold dlC
      simp only [q_us_ap, q_cs_ap]
      rw [if_neg (by omega), if_pos ⟨trivial, by omega, by omega⟩, show 1 + (i - 0) = i + 1 by omega]
    have ne : ∀ i, 0 ≤ i → i < ntF M m2 16 - 1 → ¬ 16 * m2 + C (150 + m2) (i + 1) = 16 * m2 + C (150 + m2) 0 := by
      intro i a b e
      have := g.2.2.1 0 (i + 1) (Int.le_refl _) (by omega) (by omega)
      rw [e] at this; omega
    refine ⟨by unfold dlC; simp only [q_us_ap]; rw [if_pos ⟨trivial, trivial⟩], fun i a b => ?_, fun i j a b d => ?_, fun f2 a b d => ?_⟩
    · rw [cl i a b]
      simp only [q_us_ap, true_and]
      rw [if_neg (ne i a b)]
      exact g.2.1 (i + 1) (by omega) (by omega)
    · rw [cl i a (by omega), cl j (by omega) d]
      simp only [q_us_ap, true_and]
      rw [if_neg (ne i a (by omega)), if_neg (ne j (by omega) d)]
      exact g.2.2.1 (i + 1) (j + 1) (by omega) (by omega) (by omega)
    · simp only [q_us_ap, true_and] at d
      by_cases e : 16 * m2 + f2 = 16 * m2 + C (150 + m2) 0
      · rw [if_pos e] at d; omega
      · rw [if_neg e] at d
        obtain ⟨i, hi, hj⟩ := g.2.2.2 f2 a b d
        have i0 : i ≠ 0 := fun e2 => e (by rw [← hj, e2])
        exact ⟨i - 1, ⟨by omega, by omega⟩, by rw [cl (i - 1) (by omega) (by omega), show i - 1 + 1 = i by omega]; exact hj⟩
  · rw [if_neg em, Int.sub_zero]
    have cl : ∀ j, dlC C m (ntF M m 16) (150 + m2) j = C (150 + m2) j := by
      intro j; unfold dlC; simp only [q_us_ap, q_cs_ap]; rw [if_neg (by omega), if_neg (by omega)]
    have cw : dlC C m (ntF M m 16) (110 + m2) 2 = C (110 + m2) 2 := by
      unfold dlC; simp only [q_us_ap, q_cs_ap]; rw [if_neg (by omega), if_neg (by omega)]
    have e9 : ∀ x, 0 ≤ x → x ≤ 15 → q_us M 8 (16 * m + C (150 + m) 0) 0 8 (16 * m2 + x) = M 8 (16 * m2 + x) := fun x a b => by simp only [q_us_ap, true_and]; rw [if_neg (by omega)]
    refine ⟨by rw [cw]; exact g.1, fun i a b => ?_, fun i j a b d => ?_, fun f2 a b d => ?_⟩
    · have gi := g.2.1 i a b
      rw [cl, e9 _ gi.1.1 gi.1.2]; exact gi
    · have gi := g.2.1 i a (by omega)
      have gj := g.2.1 j (by omega) d
      rw [cl, cl, e9 _ gi.1.1 gi.1.2, e9 _ gj.1.1 gj.1.2]; exact g.2.2.1 i j a b d
    · rw [e9 _ a b] at d
      obtain ⟨i, hi, hj⟩ := g.2.2.2 f2 a b d
      exact ⟨i, hi, by rw [cl]; exact hj⟩
theorem fnF_min (M : q_S) {m : Int} (hm : 0 ≤ m) : ∀ n : Nat, ∀ x : Int, 0 ≤ x → x < n → 0 < M 8 (16 * m + x) → ¬ fnF M m n = -1 ∧ M 8 (fnF M m n) ≤ M 8 (16 * m + x) := by
  intro n
  induction n with
  | zero => intro x a b; omega
  | succ n ih =>
    intro x a b d
    have hr := fnF_rg M m n
    simp only [fnF]
    by_cases e : x = n
    · subst e
      by_cases e2 : fnF M m n = -1 ∨ M 8 (16 * m + n) < M 8 (fnF M m n)
      · rw [if_pos ⟨d, e2⟩]
        exact ⟨by omega, Int.le_refl _⟩
      · rw [if_neg (fun g => e2 g.2)]; exact ⟨fun g => e2 (Or.inl g), by omega⟩
    · have i := ih x a (by omega) d
      split
      next h => exact ⟨by omega, by have := h.2; omega⟩
      next h => exact i
theorem fn_line {M C : q_S} (h : RLn M C) {m : Int} (hm : 0 ≤ m ∧ m ≤ 2) : (ntF M m 16 = 0 → fnF M m 16 = -1) ∧ (0 < ntF M m 16 → fnF M m 16 = 16 * m + C (150 + m) 0) := by
  have g := h m hm.1 hm.2
  have sp := fnF_sp M m 16
  constructor
  · intro e
    rcases sp with sp | sp
    · exact sp
    · obtain ⟨i, hi, _⟩ := g.2.2.2 (fnF M m 16 - 16 * m) (by omega) (by have := sp.2.1; omega) (by rw [show 16 * m + (fnF M m 16 - 16 * m) = fnF M m 16 by omega]; exact sp.2.2)
      omega
  · intro e
    have g0 := g.2.1 0 (Int.le_refl _) e
    have mn := fnF_min M hm.1 16 (C (150 + m) 0) g0.1.1 (by show C (150 + m) 0 < 16; omega) g0.2
    rcases sp with sp | sp
    · exact absurd sp mn.1
    · obtain ⟨i, hi, hj⟩ := g.2.2.2 (fnF M m 16 - 16 * m) (by omega) (by have := sp.2.1; omega) (by rw [show 16 * m + (fnF M m 16 - 16 * m) = fnF M m 16 by omega]; exact sp.2.2)
      have ej : fnF M m 16 = 16 * m + C (150 + m) i := by omega
      by_cases e0 : i = 0
      · rw [ej, e0]
      · have := g.2.2.1 0 i (Int.le_refl _) (by omega) hi.2
        rw [← ej] at this; omega
