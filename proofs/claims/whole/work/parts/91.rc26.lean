/-! the class is made -/
theorem nz_mono {K K2 : q_K} {x : Nat} {P P2 : Int → Prop} (h : q_nz K K2 x P) (g : ∀ t, P t → P2 t) : q_nz K K2 x P2 := ⟨h.1, fun a e y => (h.2 a e y).elim Or.inl (fun z => Or.inr (g _ z))⟩
theorem kof_m {m : Int} (hm : 0 ≤ m ∧ m ≤ 2) : kof (110 + m) = (7, 0, 110 + m) := by
  have := kl_m (g := 0) hm
  exact this
theorem cf_o {C : q_S} {c t j : Int} (h : t ≠ 300) (h2 : t ≠ 301) (h3 : t ≠ 900) : cfC C c t j = C t j := by
  unfold cfC
  rw [us_ne h3, us_ne h3, ciC_ap, if_neg h, if_neg h2, ciB_o h h2 h3]
def q_ini (C : q_S) : Prop := (C 100 8 = 0 ∧ C 100 9 = 0 ∧ C 100 10 = 0 ∧ C 100 11 = 0 ∧ C 100 12 = 0 ∧ C 100 13 = 0) ∧ C 103 3 = 0 ∧ C 104 0 = 0 ∧ (C 105 0 = 0 ∧ C 105 1 = 0 ∧ C 105 2 = 0) ∧ C 108 0 = 0 ∧ (∀ f, C 131 f = 0 ∧ C 132 f = 0) ∧ (∀ k : Int, 0 ≤ k → k < 12 → C 133 k = 2 ∧ C 134 k = 2001) ∧ (∀ f : Int, 0 ≤ f → f < 16 → C 124 f = -1) ∧
  (C 999 0 = -1 ∧ C 999 1 = 0 ∧ C 999 2 = -1 ∧ C 999 3 = -1 ∧ C 999 4 = 1000000 ∧ C 999 5 = 1) ∧ (∀ m : Int, 0 ≤ m → m ≤ 2 → C (110 + m) 2 = 0 ∧ C (110 + m) 3 = 0 ∧ C (110 + m) 4 = 100) ∧ (∀ p : Int, 0 ≤ p → p < 48 → C (200 + p) 0 = 0 ∧ C (200 + p) 1 = -1 ∧ C (200 + p) 2 = 1000000 ∧ C (200 + p) 3 = -1 ∧ C (200 + p) 4 = 0 ∧ C (200 + p) 5 = 0) ∧ CC C
theorem m0_z {t j : Int} (h : t ≠ 50 ∧ t ≠ 25 ∧ t ≠ 26 ∧ t ≠ 12) : m0 t j = 0 := by
  unfold m0 m00
  rw [if_neg h.1, if_neg (fun g => h.2.1 g.1), if_neg (fun g => h.2.2.1 g.1), if_neg (fun g => h.2.2.2 g.1)]
theorem m0_s {j : Int} : m0 50 j = refI j := if_pos rfl
theorem ntF_0 (m : Int) : ∀ n, ntF m0 m n = 0 := by
  intro n
  induction n with
  | zero => rfl
  | succ n ih => simp only [ntF]; rw [ih, m0_z (by decide), if_neg (by decide)]; rfl
theorem lat_0 (f : Int) : latestOf m0 f = -1 := rfl
theorem rc_ini {C : q_S} (h : q_ini C) : RC m0 C := by
  obtain ⟨h1, h2, h3, h4, h5, h6, h7, h8, h9, h10, h11, h12⟩ := h
  refine ⟨?_, ?_, ?_, ?_, ?_, ?_, ?_, ?_, ?_, ?_, ?_, h12⟩
  · unfold RS
    rw [h1.2.1, h1.2.2.1, h1.2.2.2.1, h1.2.2.2.2.1, h1.2.2.2.2.2, h3, h5, h4.2.1, h4.2.2]
    exact ⟨rfl, rfl, rfl, rfl, rfl, rfl, rfl, rfl, rfl⟩
  · refine ⟨h1.1.trans mlen_0.symm, fun i a b => ?_⟩
    have : mlen (m0 50 0) = 0 := mlen_0
    omega
  · intro p a b
    have g := h11 p a b
    have c2 : m0 2 p = 0 := m0_z (by decide)
    have c3 : m0 3 p = 0 := m0_z (by decide)
    have c5 : m0 5 p = 0 := m0_z (by decide)
    have c6 : m0 6 p = 0 := m0_z (by decide)
    have c7 : m0 7 p = 0 := m0_z (by decide)
    have cf : cfo m0 p = -1 := by unfold cfo; rw [if_pos c2]
    rw [c2, c3, c5, c6, c7, cf]
    exact g
  · intro m a b
    have g := h10 m a b
    have c1 : m0 11 m = 0 := m0_z (by decide)
    have c2 : m0 12 m = 100 := by
      unfold m0 m00
      rw [if_neg (by decide), if_neg (by omega), if_neg (by omega), if_pos ⟨rfl, a, by omega⟩]
    rw [c1, c2]
    exact g.2
  · intro m a b
    have g := h10 m a b
    have e := ntF_0 m 16
    rw [e]
    refine ⟨g.1, fun i x y => by omega, fun i j x y z => by omega, fun f x y z => ?_⟩
    rw [m0_z (by decide)] at z
    omega
  · refine ⟨fun v a b => ?_, h9, fun f a b => ?_⟩
    · have : m0 50 16 = 0 := rfl
      omega
    · rw [h8 f a (by omega)]; rfl
  · intro f a b
    have g := h6 f
    rw [g.1, g.2, m0_z (t := 23) (by decide), m0_z (t := 24) (by decide)]
    refine ⟨⟨by decide, by decide⟩, fun t ht => ?_⟩
    have : m0 50 1 = 0 := rfl
    rw [if_neg (by omega), if_neg (fun g => absurd g.1 (by decide))]
  · intro k a b
    have g := h7 k a b
    have c1 : m0 25 k = 2 := by unfold m0 m00; rw [if_neg (by decide), if_pos ⟨rfl, a, by omega⟩]
    have c2 : m0 26 k = 2001 := by unfold m0 m00; rw [if_neg (by decide), if_neg (by omega), if_pos ⟨rfl, a, by omega⟩]
    rw [c1, c2]; exact g
  · intro i a b
    have : m0 50 27 = 0 := rfl
    omega
  · refine ⟨by omega, fun i a b => by omega, fun i j a b d => by omega, fun x a b d => absurd (m0_z (by decide)) d, fun x a b _ => ⟨m0_z (by decide), m0_z (by decide)⟩⟩
  · have e : m0 50 13 = 0 := rfl
    refine ⟨by omega, fun i => i, fun i a b => by omega, fun i j a b d => by omega, fun k a b => by omega⟩
theorem or_ite {c : Prop} [Decidable c] {x : Int} (h : x = 0 ∨ x = 1) : (if c then 1 else x) = 0 ∨ (if c then 1 else x) = 1 := by
  split
  · exact Or.inr rfl
  · exact h
theorem nn_ite {c : Prop} [Decidable c] {x y z : Int} (h : z ≤ x) (g : z ≤ y) : z ≤ if c then x else y := by
  split
  · exact h
  · exact g
theorem refI_01 (j : Int) : refI j = 0 ∨ refI j = 1 := by
  unfold refI
  repeat' (refine or_ite ?_)
  exact Or.inl rfl
theorem wr_ini : WR m0 := by
  intro t i
  by_cases e : t = 50
  · subst e
    rw [m0_s]
    have h := refI_01 i
    have hw : wlo 50 = 0 := rfl
    have hh : 1 ≤ whi 50 i := by
      show 1 ≤ whs i
      unfold whs
      repeat' (first | decide | refine nn_ite ?_ ?_)
    rw [hw]
    constructor <;> omega
  · by_cases e1 : t = 25
    · subst e1
      have : m0 25 i = 0 ∨ m0 25 i = 2 := by
        unfold m0 m00
        rw [if_neg e]
        by_cases g : (25 : Int) = 25 ∧ 0 ≤ i ∧ i < ((12 : Nat) : Int)
        · rw [if_pos g]; exact Or.inr rfl
        · rw [if_neg g, if_neg (by omega), if_neg (by omega)]; exact Or.inl rfl
      show (0 : Int) ≤ _ ∧ _ ≤ (2 : Int)
      omega
    · by_cases e2 : t = 26
      · subst e2
        have : m0 26 i = 0 ∨ m0 26 i = 2001 := by
          unfold m0 m00
          rw [if_neg e, if_neg (by omega)]
          by_cases g : (26 : Int) = 26 ∧ 0 ≤ i ∧ i < ((12 : Nat) : Int)
          · rw [if_pos g]; exact Or.inr rfl
          · rw [if_neg g, if_neg (by omega)]; exact Or.inl rfl
        show (0 : Int) ≤ _ ∧ _ ≤ (4100 : Int)
        omega
      · by_cases e3 : t = 12
        · subst e3
          have : m0 12 i = 0 ∨ m0 12 i = 100 := by
            unfold m0 m00
            rw [if_neg e, if_neg (by omega), if_neg (by omega)]
            by_cases g : (12 : Int) = 12 ∧ 0 ≤ i ∧ i < ((3 : Nat) : Int)
            · rw [if_pos g]; exact Or.inr rfl
            · rw [if_neg g]; exact Or.inl rfl
          show (0 : Int) ≤ _ ∧ _ ≤ (200 : Int)
          omega
        · rw [m0_z ⟨e, e1, e2, e3⟩]
          have hl : wlo t ≤ 0 := by unfold wlo; split <;> decide
          have hh : 0 ≤ whi t i := by
            unfold whi
            rw [if_neg e]
            repeat' (first | decide | refine nn_ite ?_ ?_)
          exact ⟨hl, hh⟩
theorem cnt_0 (q : Int) (hq : q ≠ 0) : ∀ n, cnt m0 q n = 0 := by
  intro n
  exact cnt_zero n (fun k a b => by rw [m0_z (by decide)]; exact fun e => hq e.symm)
theorem pmi_ini : PMI m0 := by
  refine ⟨fun p hp => ?_, fun k a b => ?_⟩
  · rw [m0_z (by decide), cnt_0 _ (by omega)]
  · rw [m0_z (by decide)]; decide
theorem mi_ini : MI m0 := by
  refine ⟨vcode_0, fun p a b => ?_, fun v a b => ?_, fun k a b => ?_⟩
  · have c2 : m0 2 p = 0 := m0_z (by decide)
    have c3 : m0 3 p = 0 := m0_z (by decide)
    have c5 : m0 5 p = 0 := m0_z (by decide)
    have c8 : m0 8 p = 0 := m0_z (by decide)
    rw [c2, c3, c5, c8]
    exact ⟨vcode_0, ⟨fun _ => rfl, fun _ => rfl⟩, by decide, fun g => absurd g (by decide), by decide⟩
  · have : m0 50 16 = 0 := rfl
    omega
  · have : m0 50 13 = 0 := rfl
    omega
theorem ki_ini : KI m0 := fun p a b c => by rw [m0_z (by decide)] at c; exact absurd c (by decide)
theorem sz_ini : szF m0 = 0 := sumF_zero _ (fun k a b => if_pos (m0_z (by decide)))
