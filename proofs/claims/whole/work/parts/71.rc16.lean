/-! dropping pieces, as the class does it -/
def nnC (M C : q_S) (m : Int) : Nat → q_S
  | 0 => C
  | k + 1 => if M 2 (16 * m + C (150 + m) k) = 2 then ndC (nnC M C m k) (M 3 (16 * m + C (150 + m) k)) (ncut (M 3 (16 * m + C (150 + m) k))).toNat else nnC M C m k
theorem nnC_o {M C : q_S} {m t i : Int} (h : t ≠ 130) : ∀ k, nnC M C m k t i = C t i := by
  intro k
  induction k with
  | zero => rfl
  | succ k ih =>
    simp only [nnC]; split
    · rw [ndC_o h]; exact ih
    · exact ih
theorem RT_130 {M C C' : q_S} (h : RT M C) (e : ∀ t i, t ≠ 130 → C' t i = C t i) : RT M C' :=
  RT_fr h (fun _ => rfl) (fun _ => rfl) (fun _ => rfl) (e _ _ (by decide)) (fun _ => e _ _ (by decide)) (fun _ => e _ _ (by decide)) (fun _ => e _ _ (by decide)) (fun _ => e _ _ (by decide))
theorem nnC_z {M C : q_S} (h : RT M C) {m i : Int} (hi : 0 ≤ i ∧ i < C 105 0) : ∀ k : Nat, (nnC M C m k 130 i = 0 ↔ C 130 i = 0 ∧ ∀ j, 0 ≤ j → j < (k : Int) → M 2 (16 * m + C (150 + m) j) = 2 → ¬ isPc (M 3 (16 * m + C (150 + m) j)) (C 126 i)) := by
  intro k
  induction k with
  | zero => exact ⟨fun g => ⟨g, fun j a b => by omega⟩, fun g => g.1⟩
  | succ k ih =>
    simp only [nnC]
    by_cases e : M 2 (16 * m + C (150 + m) k) = 2
    · rw [if_pos e, nd_z (RT_130 h (fun t i g => nnC_o g k)) (by rw [nnC_o (by decide)]; exact hi), ih, nnC_o (by decide)]
      constructor
      · intro g
        refine ⟨g.1.1, fun v a b y => ?_⟩
        by_cases ej : v = k
        · rw [ej]; exact g.2
        · exact g.1.2 v a (by omega) y
      · intro g; exact ⟨⟨g.1, fun j a b => g.2 j a (by omega)⟩, g.2 k (by omega) (by omega) e⟩
    · rw [if_neg e, ih]
      constructor
      · intro g
        refine ⟨g.1, fun v a b y => ?_⟩
        by_cases ej : v = k
        · rw [ej] at y; exact absurd y e
        · exact g.2 v a (by omega) y
      · intro g; exact ⟨g.1, fun j a b => g.2 j a (by omega)⟩
def nvC (M C : q_S) : Nat → q_S
  | 0 => C
  | k + 1 => if M 22 k = 0 then ndC (nvC M C k) (M 21 k) (ncut (M 21 k)).toNat else nvC M C k
theorem nvC_o {M C : q_S} {t i : Int} (h : t ≠ 130) : ∀ k, nvC M C k t i = C t i := by
  intro k
  induction k with
  | zero => rfl
  | succ k ih =>
    simp only [nvC]; split
    · rw [ndC_o h]; exact ih
    · exact ih
theorem nvC_z {M C : q_S} (h : RT M C) {i : Int} (hi : 0 ≤ i ∧ i < C 105 0) : ∀ k : Nat, (nvC M C k 130 i = 0 ↔ C 130 i = 0 ∧ ∀ v, 0 ≤ v → v < (k : Int) → M 22 v = 0 → ¬ isPc (M 21 v) (C 126 i)) := by
  intro k
  induction k with
  | zero => exact ⟨fun g => ⟨g, fun j a b => by omega⟩, fun g => g.1⟩
  | succ k ih =>
    simp only [nvC]
    by_cases e : M 22 k = 0
    · rw [if_pos e, nd_z (RT_130 h (fun t i g => nvC_o g k)) (by rw [nvC_o (by decide)]; exact hi), ih, nvC_o (by decide)]
      constructor
      · intro g
        refine ⟨g.1.1, fun v a b y => ?_⟩
        by_cases ej : v = k
        · rw [ej]; exact g.2
        · exact g.1.2 v a (by omega) y
      · intro g; exact ⟨⟨g.1, fun j a b => g.2 j a (by omega)⟩, g.2 k (by omega) (by omega) e⟩
    · rw [if_neg e, ih]
      constructor
      · intro g
        refine ⟨g.1, fun v a b y => ?_⟩
        by_cases ej : v = k
        · rw [ej] at y; exact absurd y e
        · exact g.2 v a (by omega) y
      · intro g; exact ⟨g.1, fun j a b => g.2 j a (by omega)⟩
def nmC (M C : q_S) : Nat → q_S
  | 0 => C
  | k + 1 => nnC M (nmC M C k) k (ntF M k 16).toNat
theorem nmC_o {M C : q_S} {t i : Int} (h : t ≠ 130) : ∀ k, nmC M C k t i = C t i := by
  intro k
  induction k with
  | zero => rfl
  | succ k ih => simp only [nmC]; rw [nnC_o h]; exact ih
theorem nmC_z {M C : q_S} (h : RT M C) {i : Int} (hi : 0 ≤ i ∧ i < C 105 0) : ∀ k : Nat, k ≤ 3 → (nmC M C k 130 i = 0 ↔ C 130 i = 0 ∧ ∀ m, 0 ≤ m → m < (k : Int) → ∀ j, 0 ≤ j → j < ntF M m 16 → M 2 (16 * m + C (150 + m) j) = 2 → ¬ isPc (M 3 (16 * m + C (150 + m) j)) (C 126 i)) := by
  intro k
  induction k with
  | zero => intro _; exact ⟨fun g => ⟨g, fun j a b => by omega⟩, fun g => g.1⟩
  | succ k ih =>
    intro hk
    have ih := ih (by omega)
    have hnt := ntF_rg M k 16
    simp only [nmC]
    rw [nnC_z (RT_130 h (fun t i g => nmC_o g k)) (by rw [nmC_o (by decide)]; exact hi), ih]
    have el : ∀ j, nmC M C k (150 + (k : Int)) j = C (150 + (k : Int)) j := fun j => nmC_o (by omega) k
    simp only [el]
    rw [nmC_o (t := 126) (by decide)]
    constructor
    · intro g
      refine ⟨g.1.1, fun m a b => ?_⟩
      by_cases ej : m = k
      · rw [ej]; exact fun j x y => g.2 j x (by omega)
      · exact g.1.2 m a (by omega)
    · intro g; exact ⟨⟨g.1, fun j a b => g.2 j a (by omega)⟩, fun j x y => g.2 k (by omega) (by omega) j x (by omega)⟩
def dpC (M C : q_S) : q_S := duC (nmC M (nvC M (pwC C 130 0 (fun _ => 1) (C 105 0).toNat) (M 50 16).toNat) 3)
theorem rc_drops {M C : q_S} (h : RC M C) (hW : WR M) : RC (dropsF M) (dpC M C) := by
  have h16 := rs_16 hW
  have hT := rc_T h
  have hn := rt_n hT
  have f0 : ∀ t i, t ≠ 130 → pwC C 130 0 (fun _ => 1) (C 105 0).toNat t i = C t i := fun t i g => pw_o (Or.inl g)
  have f1 : ∀ t i, t ≠ 130 → nvC M (pwC C 130 0 (fun _ => 1) (C 105 0).toNat) (M 50 16).toNat t i = C t i := fun t i g => by rw [nvC_o g]; exact f0 t i g
  have f2 : ∀ t i, t ≠ 130 → nmC M (nvC M (pwC C 130 0 (fun _ => 1) (C 105 0).toNat) (M 50 16).toNat) 3 t i = C t i := fun t i g => by rw [nmC_o g]; exact f1 t i g
  have hT0 : RT M (pwC C 130 0 (fun _ => 1) (C 105 0).toNat) := RT_130 hT f0
  have hT1 : RT M (nvC M (pwC C 130 0 (fun _ => 1) (C 105 0).toNat) (M 50 16).toNat) := RT_130 hT f1
  have hT2 := RT_130 hT f2
  have f3 : ∀ t i, ¬ (t = 105 ∧ i = 0 ∨ 126 ≤ t ∧ t ≤ 130) → dpC M C t i = C t i := fun t i g => by
    unfold dpC duC
    rw [q_us_ap, if_neg (by omega), (kuE_sp _ _).2.1 t i (Or.inr (by omega))]
    exact f2 t i (by omega)
  refine rc_fr_T h h16.1 (fun t j g => dropsF_o (by omega) (by omega) (by omega) (by omega) (by omega) (by omega)) (fun t j g => f3 t j (by omega)) ?_ ?_
  · have g := h.1
    unfold RS at g ⊢
    have e50 : ∀ j, dropsF M 50 j = M 50 j := fun j => dropsF_o (by decide) (by decide) (by decide) (by decide) (by decide) (by decide)
    have a1 : ∀ j, dpC M C 100 j = C 100 j := fun j => f3 100 j (by omega)
    have a2 : ∀ j, dpC M C 104 j = C 104 j := fun j => f3 104 j (by omega)
    have a3 : ∀ j, dpC M C 108 j = C 108 j := fun j => f3 108 j (by omega)
    simp only [e50, a1, a2, a3, f3 105 1 (by omega), f3 105 2 (by omega)]
    exact g
  · refine rt_drop (D := d3F (d2F (d1F M 20000) (M 50 16).toNat) 48) hT2 (fun i a b => ?_) (fun t j a b x y => ?_)
    · rw [f2 105 0 (by decide)] at b
      rw [nmC_z hT1 (by rw [f1 105 0 (by decide)]; exact ⟨a, b⟩) 3 (Nat.le_refl _), nvC_z hT0 (by rw [f0 105 0 (by decide)]; exact ⟨a, b⟩), f2 126 i (by decide), f1 126 i (by decide), f0 126 i (by decide), d3F_42, d2F_42]
      have k := rt_i hT ⟨a, b⟩
      have el : ∀ m j, 0 ≤ m → nvC M (pwC C 130 0 (fun _ => 1) (C 105 0).toNat) (M 50 16).toNat (150 + m) j = C (150 + m) j := fun m j g => f1 _ _ (by omega)
      have p0 : pwC C 130 0 (fun _ => 1) (C 105 0).toNat 130 i = 0 := if_pos ⟨rfl, by omega, show ¬ (1 : Int) = 0 by decide⟩
      have q0 := d1F_42 (M := M) (x := C 126 i) 20000 k.1.1 (by have := k.1.2; omega)
      have e1 : ∀ t j, t ≠ 42 → t ≠ 40 → d2F (d1F M 20000) (M 50 16).toNat t j = M t j := fun t j g g2 => by rw [d2F_o g g2, d1F_o g]
      simp only [e1 8 _ (by decide) (by decide), e1 2 _ (by decide) (by decide), e1 3 _ (by decide) (by decide)]
      simp only [d1F_o (M := M) (t := 22) (by decide), d1F_o (M := M) (t := 21) (by decide)]
      constructor
      · intro g
        refine ⟨⟨q0, g.1.2⟩, fun p x y w => ?_⟩
        have hm : 0 ≤ p / 16 ∧ p / 16 ≤ 2 := by omega
        have rl := rc_L h (p / 16) hm.1 hm.2
        have ep : 16 * (p / 16) + p % 16 = p := by omega
        obtain ⟨j, hj, hf⟩ := rl.2.2.2 (p % 16) (by omega) (by omega) (by rw [ep]; exact w.1)
        have g9 := g.2 (p / 16) hm.1 (by omega) j hj.1 hj.2
        rw [el _ _ hm.1, hf, ep] at g9
        exact g9 w.2
      · intro g
        refine ⟨⟨p0, g.1.2⟩, fun m x y j u v w => ?_⟩
        rw [el _ _ x] at w ⊢
        have rl := rc_L h m x (by omega)
        have r2 := rl.2.1 j u v
        exact g.2 _ (by omega) (by omega) ⟨r2.2, w⟩
    · unfold dropsF
      rw [d4F_sp ⟨a, b⟩]
      have e1 : d3F (d2F (d1F M 20000) (M 50 16).toNat) 48 t j = M t j := by rw [d3F_o (by omega) (by omega), d2F_o (by omega) (by omega), d1F_o (by omega)]
      rw [e1]
      by_cases q : d3F (d2F (d1F M 20000) (M 50 16).toNat) 48 42 j = 0
      · rw [if_pos ⟨by omega, q⟩, if_pos q]
      · rw [if_neg (fun g => q g.2), if_neg q]
