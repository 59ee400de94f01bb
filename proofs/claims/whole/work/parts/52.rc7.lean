/-! time: events come -/
def nsP (M C : q_S) : Nat → q_S × q_S
  | 0 => (M, C)
  | k + 1 => (notesF (nsP M C k).1 (16 * C 121 k + C 122 k), noC (nsP M C k).1 (nsP M C k).2 (C 121 k) (C 122 k))
theorem notesF_n (M : q_S) (p : Int) : notesF M p 50 10 = if M 8 p = 0 then M 50 10 + 1 else M 50 10 := by
  unfold notesF
  by_cases e : M 8 p = 0
  · rw [if_pos e, if_pos e]; simp only [q_us_ap, Int.reduceEq, false_and, and_self, if_false, if_true]
  · rw [if_neg e, if_neg e]
theorem notesF_x (M : q_S) (p t j : Int) (h : t ≠ 8) (h2 : ¬ (t = 50 ∧ j = 10)) : notesF M p t j = M t j := by
  unfold notesF
  split
  · simp only [q_us_ap]; rw [if_neg (fun g => h g.1), if_neg h2]
  · rfl
theorem noC_o {M C : q_S} {m f t j : Int} (h : ¬ (t = 150 + m)) (h2 : ¬ (t = 110 + m ∧ j = 2)) : noC M C m f t j = C t j := by
  unfold noC
  split
  · simp only [q_us_ap]; rw [if_neg h2, if_neg (fun g => h g.1)]
  · rfl
/-- events have machines and files -/
abbrev evP (C : q_S) : Prop := ∀ i, 0 ≤ i → i < C 103 3 → (0 ≤ C 121 i ∧ C 121 i ≤ 2) ∧ 0 ≤ C 122 i ∧ C 122 i ≤ 15
theorem ns_ok {M C : q_S} (hL : RLn M C) (hW : WR M) (hI : ∀ p, 0 ≤ p → p < 48 → M 8 p ≤ M 50 10) (hE : evP C) (h10 : M 50 10 ≤ 900000) : ∀ k : Nat, (k : Int) ≤ C 103 3 → k ≤ 600 →
    RLn (nsP M C k).1 (nsP M C k).2 ∧ WR (nsP M C k).1 ∧ (∀ p, 0 ≤ p → p < 48 → (nsP M C k).1 8 p ≤ (nsP M C k).1 50 10) ∧ ((nsP M C k).1 50 10 ≤ M 50 10 + k) ∧ (∀ t j, t ≠ 8 → ¬ (t = 50 ∧ j = 10) → (nsP M C k).1 t j = M t j) ∧ (∀ t j, ¬ (150 ≤ t ∧ t ≤ 152) → ¬ ((110 ≤ t ∧ t ≤ 112) ∧ j = 2) → (nsP M C k).2 t j = C t j) := by
  intro k
  induction k with
  | zero => intro _ _; exact ⟨hL, hW, hI, by show M 50 10 ≤ M 50 10 + ((0 : Nat) : Int); omega, fun _ _ _ _ => rfl, fun _ _ _ _ => rfl⟩
  | succ k ih =>
    intro hk hk2
    obtain ⟨i1, i2, i3, i4, i5, i6⟩ := ih (by omega) (by omega)
    have g := hE k (by omega) (by omega)
    simp only [nsP]
    refine ⟨rl_note i1 i2 i3 g.1 g.2, i2.notes (by omega), fun p a b => ?_, ?_, fun t j a b => ?_, fun t j a b => ?_⟩
    · rw [notesF_8, notesF_n]
      have := i3 p a b
      by_cases e : p = 16 * C 121 k + C 122 k ∧ (nsP M C k).1 8 (16 * C 121 k + C 122 k) = 0
      · rw [if_pos e, if_pos e.2]; exact Int.le_refl _
      · rw [if_neg e]; split <;> omega
    · have := notesF_10 (nsP M C k).1 (16 * C 121 k + C 122 k)
      omega
    · rw [notesF_x _ _ _ _ a b]; exact i5 t j a b
    · rw [noC_o (by omega) (by omega)]; exact i6 t j a b
def psI (M C : q_S) (e : Int → Int) (S : q_S) (tm k : Int) (q : Nat) : Prop :=
  (∀ j, S 14 j = M 14 j) ∧ S 50 13 = M 50 13 ∧ (∀ p, S 8 p = (nsP M C q).1 8 p) ∧ S 50 10 = (nsP M C q).1 50 10 ∧ (q : Int) ≤ C 103 3 ∧
  (∀ i : Int, 0 ≤ i → i < q → S 15 (e i) = 0 ∧ (C 123 i < tm ∨ C 123 i = tm ∧ e i < k)) ∧ (∀ i, (q : Int) ≤ i → i < C 103 3 → tm < C 123 i ∨ C 123 i = tm ∧ k ≤ e i) ∧
  (∀ j, (∀ i : Int, 0 ≤ i → i < q → e i ≠ j) → S 15 j = M 15 j) ∧ S 50 1 = tm
section PS
variable {M C : q_S} {e : Int → Int}
theorem ps_in (h1 : ∀ i, 0 ≤ i → i < C 103 3 → (0 ≤ e i ∧ e i < M 50 13) ∧ M 14 (e i) = 16 * C 121 i + C 122 i ∧ (0 ≤ C 121 i ∧ C 121 i ≤ 2) ∧ (0 ≤ C 122 i ∧ C 122 i ≤ 15) ∧ M 15 (e i) = C 123 i ∧ 0 < C 123 i)
    (h2 : ∀ i j, 0 ≤ i → i < j → j < C 103 3 → C 123 i < C 123 j ∨ C 123 i = C 123 j ∧ e i < e j) (h3 : ∀ k, 0 ≤ k → k < M 50 13 → 0 < M 15 k → ∃ i, (0 ≤ i ∧ i < C 103 3) ∧ e i = k)
    {S : q_S} {tm k : Int} {q : Nat} (ht : 0 < tm) (hk : 0 ≤ k ∧ k < M 50 13) (h : psI M C e S tm k q) : ∃ q2, psI M C e (if S 15 k = S 50 1 then q_us (notesF S (S 14 k)) 15 k 0 else S) tm (k + 1) q2 := by
  obtain ⟨a14, a13, a8, a10, aq, al, ah, a15, a1⟩ := h
  have inj := re_inj h1 h2
  by_cases ek : S 15 k = S 50 1
  · rw [if_pos ek]
    have hnot : ∀ i : Int, 0 ≤ i → i < q → e i ≠ k := fun i a b g => by have := (al i a b).1; rw [g] at this; omega
    have hM : M 15 k = tm := by rw [← a15 k hnot, ek, a1]
    obtain ⟨i, hi, hik⟩ := h3 k hk.1 hk.2 (by omega)
    have gi := h1 i hi.1 hi.2
    have hd : C 123 i = tm := by rw [hik] at gi; omega
    have iq : (q : Int) ≤ i := by
      refine Classical.byContradiction (fun g => ?_)
      exact hnot i hi.1 (by omega) hik
    have iq2 : i = q := by
      refine Classical.byContradiction (fun g => ?_)
      have g2 := h2 q i (by omega) (by omega) hi.2
      have g3 := ah q (Int.le_refl _) (by omega)
      omega
    subst iq2
    have p14 : S 14 k = 16 * C 121 q + C 122 q := by rw [a14, ← hik]; exact gi.2.1
    refine ⟨q + 1, fun j => ?_, ?_, fun p => ?_, ?_, by omega, fun i a b => ?_, fun i a b => ?_, fun j hj => ?_, ?_⟩
    · simp only [q_us_ap]; rw [if_neg (by omega), notesF_x _ _ _ _ (by decide) (fun g => by omega)]; exact a14 j
    · simp only [q_us_ap]; rw [if_neg (by omega), notesF_x _ _ _ _ (by decide) (fun g => by omega)]; exact a13
    · simp only [q_us_ap, nsP]; rw [if_neg (by omega), notesF_8, notesF_8, p14, a8, a8, a10]
    · simp only [q_us_ap, nsP]; rw [if_neg (by omega), notesF_n, notesF_n, p14, a8, a10]
    · simp only [q_us_ap, true_and]
      by_cases e9 : i = q
      · rw [e9, if_pos hik]
        exact ⟨rfl, Or.inr ⟨hd, by rw [hik]; omega⟩⟩
      · have g := al i a (by omega)
        refine ⟨?_, by have := g.2; omega⟩
        split
        · rfl
        · rw [notesF_x _ _ _ _ (by decide) (fun g => by omega)]; exact g.1
    · have g := ah i (by omega) b
      have g2 : e i ≠ k := by rw [← hik]; exact fun g3 => inj q i (by omega) (by omega) b g3.symm
      omega
    · have hj2 : k ≠ j := by rw [← hik]; exact hj q (by omega) (by omega)
      simp only [q_us_ap, true_and]
      rw [if_neg (fun g => hj2 g.symm), notesF_x _ _ _ _ (by decide) (fun g => by omega)]
      exact a15 j (fun i a b => hj i a (by omega))
    · simp only [q_us_ap]; rw [if_neg (by omega), notesF_x _ _ _ _ (by decide) (fun g => by omega)]; exact a1
  · rw [if_neg ek]
    refine ⟨q, a14, a13, a8, a10, aq, fun i a b => ⟨(al i a b).1, by have := (al i a b).2; omega⟩, fun i a b => ?_, a15, a1⟩
    have g := ah i a b
    have gi := h1 i (by omega) b
    have g2 : C 123 i = tm → e i ≠ k := by
      intro g3 g4
      refine ek ?_
      rw [a15 k (fun i2 x y z => inj i2 i x (by omega) b (by rw [z, g4])), a1, ← g4]
      omega
    omega
theorem ps_ev (h1 : ∀ i, 0 ≤ i → i < C 103 3 → (0 ≤ e i ∧ e i < M 50 13) ∧ M 14 (e i) = 16 * C 121 i + C 122 i ∧ (0 ≤ C 121 i ∧ C 121 i ≤ 2) ∧ (0 ≤ C 122 i ∧ C 122 i ≤ 15) ∧ M 15 (e i) = C 123 i ∧ 0 < C 123 i)
    (h2 : ∀ i j, 0 ≤ i → i < j → j < C 103 3 → C 123 i < C 123 j ∨ C 123 i = C 123 j ∧ e i < e j) (h3 : ∀ k, 0 ≤ k → k < M 50 13 → 0 < M 15 k → ∃ i, (0 ≤ i ∧ i < C 103 3) ∧ e i = k)
    {S : q_S} {tm : Int} {q : Nat} (ht : 0 < tm) (h : psI M C e S tm 0 q) : ∀ k : Nat, (k : Int) ≤ M 50 13 → ∃ q2, psI M C e (evF S k) tm k q2 := by
  intro k
  induction k with
  | zero => intro _; exact ⟨q, h⟩
  | succ k ih =>
    intro hk
    obtain ⟨q2, g⟩ := ih (by omega)
    have := ps_in h1 h2 h3 ht (k := k) ⟨by omega, by omega⟩ g
    simp only [evF]
    exact this
theorem ps_all (h1 : ∀ i, 0 ≤ i → i < C 103 3 → (0 ≤ e i ∧ e i < M 50 13) ∧ M 14 (e i) = 16 * C 121 i + C 122 i ∧ (0 ≤ C 121 i ∧ C 121 i ≤ 2) ∧ (0 ≤ C 122 i ∧ C 122 i ≤ 15) ∧ M 15 (e i) = C 123 i ∧ 0 < C 123 i)
    (h2 : ∀ i j, 0 ≤ i → i < j → j < C 103 3 → C 123 i < C 123 j ∨ C 123 i = C 123 j ∧ e i < e j) (h3 : ∀ k, 0 ≤ k → k < M 50 13 → 0 < M 15 k → ∃ i, (0 ≤ i ∧ i < C 103 3) ∧ e i = k)
    (hF : ∀ k, 0 ≤ k → k < M 50 13 → M 15 k = 0 ∨ M 50 1 < M 15 k) (hT : 0 ≤ M 50 1) (h13 : 0 ≤ M 50 13) (hn : 0 ≤ C 103 3) : ∀ h : Nat, ∃ q, psI M C e (psF (thr M 0) h) (M 50 1 + h) (M 50 13) q := by
  intro h
  induction h with
  | zero =>
    refine ⟨0, fun _ => rfl, rfl, fun _ => rfl, rfl, hn, fun i a b => by omega, fun i a b => ?_, fun _ _ => rfl, by show M 50 1 = M 50 1 + ((0 : Nat) : Int); omega⟩
    have gi := h1 i a b
    have := hF (e i) gi.1.1 gi.1.2
    omega
  | succ h ih =>
    obtain ⟨q, g⟩ := ih
    have gs : psI M C e (q_us (psF (thr M 0) h) 50 1 (psF (thr M 0) h 50 1 + 1)) (M 50 1 + ((h + 1 : Nat) : Int)) 0 q := by
      obtain ⟨a14, a13, a8, a10, aq, al, ah, a15, a1⟩ := g
      refine ⟨a14, a13, a8, a10, aq, fun i a b => ⟨(al i a b).1, by have := (al i a b).2; omega⟩, fun i a b => ?_, a15, ?_⟩
      · have g1 := ah i a b
        have g2 := h1 i (by omega) b
        omega
      · show psF (thr M 0) h 50 1 + 1 = _
        omega
    have := ps_ev h1 h2 h3 (by omega) gs (M 50 13).toNat (by omega)
    simp only [psF]
    rw [show ((M 50 13).toNat : Int) = M 50 13 by omega] at this
    exact this
end PS
/-- what is left of the events -/
theorem re_pass {M C : q_S} (h : RE M C) (hF : ∀ k, 0 ≤ k → k < M 50 13 → M 15 k = 0 ∨ M 50 1 < M 15 k) (hT : 0 ≤ M 50 1) (hh : Nat) : ∃ q : Nat, ((q : Int) ≤ C 103 3 ∧ (∀ i : Int, 0 ≤ i → i < q → C 123 i ≤ M 50 1 + hh) ∧ (∀ i, (q : Int) ≤ i → i < C 103 3 → M 50 1 + hh < C 123 i)) ∧
    (∀ p, psF (thr M 0) hh 8 p = (nsP M C q).1 8 p) ∧ psF (thr M 0) hh 50 10 = (nsP M C q).1 50 10 ∧ psF (thr M 0) hh 50 1 = M 50 1 + hh ∧
    (∀ k, 0 ≤ k → k < M 50 13 → psF (thr M 0) hh 15 k = 0 ∨ M 50 1 + hh < psF (thr M 0) hh 15 k) ∧
    ∀ C2 : q_S, (∀ t i, 121 ≤ t → t ≤ 123 → 0 ≤ i → i < C 103 3 - q → C2 t i = C t (i + q)) → C2 103 3 = C 103 3 - q → RE (psF (thr M 0) hh) C2 := by
  obtain ⟨hn, e, h1, h2, h3⟩ := h
  obtain ⟨q, a14, a13, a8, a10, aq, al, ah, a15, a1⟩ := ps_all h1 h2 h3 hF hT (by omega) hn.1 hh
  have inj := re_inj h1 h2
  have hhi : ∀ i, (q : Int) ≤ i → i < C 103 3 → M 50 1 + hh < C 123 i := by
    intro i a b
    have := ah i a b
    have gi := h1 i (by omega) b
    omega
  have live : ∀ i, (q : Int) ≤ i → i < C 103 3 → psF (thr M 0) hh 15 (e i) = C 123 i := by
    intro i a b
    rw [a15 (e i) (fun i2 x y z => inj i2 i x (by omega) b z)]
    exact (h1 i (by omega) b).2.2.2.2.1
  have dead : ∀ k, 0 ≤ k → k < M 50 13 → psF (thr M 0) hh 15 k = 0 ∨ ∃ i, ((q : Int) ≤ i ∧ i < C 103 3) ∧ e i = k := by
    intro k x y
    by_cases g : ∃ i, (0 ≤ i ∧ i < (q : Int)) ∧ e i = k
    · obtain ⟨i, hi, hk⟩ := g
      rw [← hk]; exact Or.inl (al i hi.1 hi.2).1
    · have e9 := a15 k (fun i a b z => g ⟨i, ⟨a, b⟩, z⟩)
      by_cases e0 : M 15 k = 0
      · exact Or.inl (by rw [e9]; exact e0)
      · have := hF k x y
        obtain ⟨i, hi, hk⟩ := h3 k x y (by omega)
        refine Or.inr ⟨i, ⟨?_, hi.2⟩, hk⟩
        refine Classical.byContradiction (fun z => g ⟨i, ⟨hi.1, by omega⟩, hk⟩)
  refine ⟨q, ⟨aq, fun i a b => by have := (al i a b).2; omega, hhi⟩, a8, a10, a1, fun k x y => ?_, fun C2 hc hc3 => ?_⟩
  · rcases dead k x y with g | ⟨i, hi, hk⟩
    · exact Or.inl g
    · rw [← hk, live i hi.1 hi.2]; exact Or.inr (hhi i hi.1 hi.2)
  · unfold RE
    rw [hc3, a13]
    refine ⟨⟨by omega, by omega⟩, fun i => e (i + q), fun i a b => ?_, fun i j a b d => ?_, fun k a b g => ?_⟩
    · have gi := h1 (i + q) (by omega) (by omega)
      dsimp only
      rw [hc 121 i (by decide) (by decide) a b, hc 122 i (by decide) (by decide) a b, hc 123 i (by decide) (by decide) a b, a14, live (i + q) (by omega) (by omega)]
      exact ⟨gi.1, gi.2.1, gi.2.2.1, gi.2.2.2.1, rfl, gi.2.2.2.2.2⟩
    · rw [hc 123 i (by decide) (by decide) a (by omega), hc 123 j (by decide) (by decide) (by omega) d]
      exact h2 (i + q) (j + q) (by omega) (by omega) (by omega)
    · rcases dead k a b with g2 | ⟨i, hi, hk⟩
      · omega
      · exact ⟨i - q, ⟨by omega, by omega⟩, by show e (i - q + q) = k; rw [show i - (q : Int) + q = i by omega]; exact hk⟩
