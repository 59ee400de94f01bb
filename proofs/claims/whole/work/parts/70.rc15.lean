/-! what is needed, and what goes; what comes -/
theorem fiF_congr {A C : q_S} {x : Int} : ∀ n : Nat, (∀ i : Int, 0 ≤ i → i < n → A 126 i = C 126 i) → fiF A x n = fiF C x n := by
  intro n
  induction n with
  | zero => intro _; rfl
  | succ n ih => intro h; simp only [fiF]; rw [ih (fun i a b => h i a (by omega)), h n (by omega) (by omega)]
theorem fi_eq {A C : q_S} {x : Int} (h0 : A 105 0 = C 105 0) (h : ∀ i : Int, A 126 i = C 126 i) : fi A x = fi C x := by
  show fiF A x (A 105 0).toNat = fiF C x (C 105 0).toNat
  rw [h0]; exact fiF_congr _ (fun i _ _ => h i)
def isPc (c x : Int) : Prop := ∃ j, (0 ≤ j ∧ j < ncut c) ∧ pce c j = x
def ndC (C : q_S) (c : Int) : Nat → q_S
  | 0 => C
  | k + 1 => if fi C (pce c k) = -1 then ndC C c k else q_us (ndC C c k) 130 (fi C (pce c k)) 1
theorem ndC_o {C : q_S} {c t i : Int} (h : t ≠ 130) : ∀ k, ndC C c k t i = C t i := by
  intro k
  induction k with
  | zero => rfl
  | succ k ih =>
    simp only [ndC]; split
    · exact ih
    · simp only [q_us_ap]; rw [if_neg (fun g => h g.1)]; exact ih
theorem fi_nd {C : q_S} {c x : Int} (k : Nat) : fi (ndC C c k) x = fi C x := fi_eq (ndC_o (by decide) k) (fun _ => ndC_o (by decide) k)
/-- the place of a piece that is there -/
theorem fi_at {M C : q_S} (h : RT M C) {i : Int} (hi : 0 ≤ i ∧ i < C 105 0) : fi C (C 126 i) = i := by
  have k := rt_i h hi
  have v : ¬ fi C (C 126 i) = -1 := fun e => by
    have := (fi_z h k.1).mp e
    omega
  have g := fi_v h v
  rcases Int.lt_trichotomy i (fi C (C 126 i)) with q | q | q
  · exact absurd g.2.1.symm (h.2.2.1 i _ hi.1 q g.1.2)
  · exact q.symm
  · exact absurd g.2.1 (h.2.2.1 _ i g.1.1 q hi.2)
theorem ndC_z {M C : q_S} (h : RT M C) {c i : Int} (hi : 0 ≤ i ∧ i < C 105 0) : ∀ k : Nat, (k : Int) ≤ ncut c → (ndC C c k 130 i = 0 ↔ C 130 i = 0 ∧ ∀ j, 0 ≤ j → j < (k : Int) → pce c j ≠ C 126 i) := by
  intro k
  induction k with
  | zero => intro _; exact ⟨fun g => ⟨g, fun j a b => by omega⟩, fun g => g.1⟩
  | succ k ih =>
    intro hk
    have ih := ih (by omega)
    simp only [ndC]
    by_cases e : fi C (pce c k) = -1
    · rw [if_pos e, ih]
      constructor
      · intro g
        refine ⟨g.1, fun j a b x => ?_⟩
        by_cases ej : j = k
        · rw [ej] at x; rw [x, fi_at h hi] at e; omega
        · exact g.2 j a (by omega) x
      · intro g; exact ⟨g.1, fun j a b => g.2 j a (by omega)⟩
    · rw [if_neg e]
      simp only [q_us_ap, true_and]
      by_cases ei : i = fi C (pce c k)
      · rw [if_pos ei]
        constructor
        · intro g; omega
        · intro g
          have v := fi_v h e
          rw [← ei] at v
          exact absurd v.2.1.symm (g.2 k (by omega) (by omega))
      · rw [if_neg ei, ih]
        constructor
        · intro g
          refine ⟨g.1, fun j a b x => ?_⟩
          by_cases ej : j = k
          · rw [ej] at x; exact ei (by rw [x, fi_at h hi])
          · exact g.2 j a (by omega) x
        · intro g; exact ⟨g.1, fun j a b => g.2 j a (by omega)⟩
theorem nd_z {M C : q_S} (h : RT M C) {c i : Int} (hi : 0 ≤ i ∧ i < C 105 0) : ndC C c (ncut c).toNat 130 i = 0 ↔ C 130 i = 0 ∧ ¬ isPc c (C 126 i) := by
  have hnc := ncut_rg c
  rw [ndC_z h hi _ (by omega)]
  constructor
  · intro g; exact ⟨g.1, fun ⟨j, a, b⟩ => g.2 j a.1 (by omega) b⟩
  · intro g; exact ⟨g.1, fun j a b x => g.2 ⟨j, ⟨a, by omega⟩, x⟩⟩
/-- the relation does not look at what is needed -/
theorem rc_130 {M C C' : q_S} (h : RC M C) (h16 : 0 ≤ M 50 16) (e : ∀ t i, t ≠ 130 → C' t i = C t i) : RC M C' :=
  rc_fr_T h h16 (fun _ _ _ => rfl) (fun t j g => e t j (by omega)) (by have g := h.1; unfold RS at g ⊢; simp only [e 100 _ (by decide), e 104 _ (by decide), e 108 _ (by decide), e 105 _ (by decide)]; exact g)
    (RT_fr (rc_T h) (fun _ => rfl) (fun _ => rfl) (fun _ => rfl) (e _ _ (by decide)) (fun _ => e _ _ (by decide)) (fun _ => e _ _ (by decide)) (fun _ => e _ _ (by decide)) (fun _ => e _ _ (by decide)))
/-- the reference marks -/
theorem mkF_42 {S : q_S} {c x : Int} : ∀ k : Nat, (mkF S c k 42 x = 0 ↔ S 42 x = 0 ∧ ∀ j, 0 ≤ j → j < (k : Int) → pce c j ≠ x) := by
  intro k
  induction k with
  | zero => exact ⟨fun g => ⟨g, fun j a b => by omega⟩, fun g => g.1⟩
  | succ k ih =>
    simp only [mkF, q_us_ap, true_and]
    by_cases e : x = pce c k
    · rw [if_pos e]
      exact ⟨fun g => by omega, fun g => absurd e.symm (g.2 k (by omega) (by omega))⟩
    · rw [if_neg e, ih]
      constructor
      · intro g
        refine ⟨g.1, fun j a b y => ?_⟩
        by_cases ej : j = k
        · rw [ej] at y; exact e y.symm
        · exact g.2 j a (by omega) y
      · intro g; exact ⟨g.1, fun j a b => g.2 j a (by omega)⟩
theorem marks_42 {S : q_S} {c x : Int} : marksF S c 42 x = 0 ↔ S 42 x = 0 ∧ ¬ isPc c x := by
  have hnc := ncut_rg c
  unfold marksF
  rw [mkF_42, cutS_o (by decide)]
  constructor
  · intro g; exact ⟨g.1, fun ⟨j, a, b⟩ => g.2 j a.1 (by omega) b⟩
  · intro g; exact ⟨g.1, fun j a b y => g.2 ⟨j, ⟨a, by omega⟩, y⟩⟩
theorem d1F_42 {M : q_S} {x : Int} : ∀ k : Nat, 0 ≤ x → x < k → d1F M k 42 x = 0 := by
  intro k
  induction k with
  | zero => intro a b; omega
  | succ k ih =>
    intro a b
    simp only [d1F, q_us_ap, true_and]
    by_cases e : x = k
    · rw [if_pos e]
    · rw [if_neg e]; exact ih a (by omega)
theorem d2F_42 {M : q_S} {x : Int} : ∀ k : Nat, (d2F M k 42 x = 0 ↔ M 42 x = 0 ∧ ∀ v, 0 ≤ v → v < (k : Int) → M 22 v = 0 → ¬ isPc (M 21 v) x) := by
  intro k
  induction k with
  | zero => exact ⟨fun g => ⟨g, fun j a b => by omega⟩, fun g => g.1⟩
  | succ k ih =>
    simp only [d2F]
    rw [d2F_o (t := 22) (by decide) (by decide), d2F_o (t := 21) (by decide) (by decide)]
    by_cases e : M 22 k = 0
    · rw [if_pos e, marks_42, ih]
      constructor
      · intro g
        refine ⟨g.1.1, fun v a b y => ?_⟩
        by_cases ej : v = k
        · rw [ej]; exact g.2
        · exact g.1.2 v a (by omega) y
      · intro g; exact ⟨⟨g.1, fun j a b => g.2 j a (by omega)⟩, g.2 k (by omega) (by omega) e⟩
    · rw [if_neg e, ih]
      constructor
      · intro g
        refine ⟨g.1, fun v a b y => ?_⟩
        by_cases ej : v = k
        · rw [ej] at y; exact absurd y e
        · exact g.2 v a (by omega) y
      · intro g; exact ⟨g.1, fun j a b => g.2 j a (by omega)⟩
theorem d3F_42 {M : q_S} {x : Int} : ∀ k : Nat, (d3F M k 42 x = 0 ↔ M 42 x = 0 ∧ ∀ p, 0 ≤ p → p < (k : Int) → 0 < M 8 p ∧ M 2 p = 2 → ¬ isPc (M 3 p) x) := by
  intro k
  induction k with
  | zero => exact ⟨fun g => ⟨g, fun j a b => by omega⟩, fun g => g.1⟩
  | succ k ih =>
    simp only [d3F]
    rw [d3F_o (t := 8) (by decide) (by decide), d3F_o (t := 2) (by decide) (by decide), d3F_o (t := 3) (by decide) (by decide)]
    by_cases e : 0 < M 8 k ∧ M 2 k = 2
    · rw [if_pos e, marks_42, ih]
      constructor
      · intro g
        refine ⟨g.1.1, fun v a b y => ?_⟩
        by_cases ej : v = k
        · rw [ej]; exact g.2
        · exact g.1.2 v a (by omega) y
      · intro g; exact ⟨⟨g.1, fun j a b => g.2 j a (by omega)⟩, g.2 k (by omega) (by omega) e⟩
    · rw [if_neg e, ih]
      constructor
      · intro g
        refine ⟨g.1, fun v a b y => ?_⟩
        by_cases ej : v = k
        · rw [ej] at y; exact absurd y e
        · exact g.2 v a (by omega) y
      · intro g; exact ⟨g.1, fun j a b => g.2 j a (by omega)⟩
theorem d4F_sp {M : q_S} {t j : Int} (ht : 31 ≤ t ∧ t ≤ 33) : ∀ k : Nat, d4F M k t j = if (0 ≤ j ∧ j < k) ∧ M 42 j = 0 then 0 else M t j := by
  intro k
  induction k with
  | zero => rw [if_neg (by omega)]; rfl
  | succ k ih =>
    have e42 : d4F M k 42 k = M 42 k := d4F_o (by decide) (by decide) (by decide) (by decide) k
    simp only [d4F, d4S]
    rw [e42]
    by_cases e : M 42 k = 0
    · rw [if_neg (fun g => g e)]
      have eS : ∀ (X Y : q_S), (q_us (q_us (q_us X 31 k 0) 32 k 0) 33 k 0) t j = if j = k then 0 else X t j := fun X _ => by
        simp only [q_us_ap]
        by_cases ej : j = k
        · rw [if_pos ej]
          by_cases t1 : t = 33
          · rw [if_pos ⟨t1, ej⟩]
          · rw [if_neg (fun g => t1 g.1)]
            by_cases t2 : t = 32
            · rw [if_pos ⟨t2, ej⟩]
            · rw [if_neg (fun g => t2 g.1), if_pos ⟨by omega, ej⟩]
        · rw [if_neg (fun g => ej g.2), if_neg (fun g => ej g.2), if_neg (fun g => ej g.2), if_neg ej]
      rw [eS _ M]
      by_cases ej : j = k
      · rw [if_pos ej, if_pos ⟨by omega, by rw [ej]; exact e⟩]
      · rw [if_neg ej]
        have e35 : (if 0 < d4F M k 31 k then q_us (d4F M k) 35 (d4F M k 31 k - 1) (d4F M k 35 (d4F M k 31 k - 1) - 1) else d4F M k) t j = d4F M k t j := by
          split
          · simp only [q_us_ap]; rw [if_neg (by omega)]
          · rfl
        rw [e35, ih]
        by_cases e2 : (0 ≤ j ∧ j < k) ∧ M 42 j = 0
        · rw [if_pos e2, if_pos ⟨by omega, e2.2⟩]
        · rw [if_neg e2, if_neg (fun g => e2 ⟨by have := g.1; omega, g.2⟩)]
    · rw [if_pos e, ih]
      by_cases e2 : (0 ≤ j ∧ j < k) ∧ M 42 j = 0
      · rw [if_pos e2, if_pos ⟨by omega, e2.2⟩]
      · rw [if_neg e2, if_neg (fun g => e2 ⟨by have := g.1; have h9 : j ≠ k := fun y => e (by rw [← y]; exact g.2); omega, g.2⟩)]
/-- the class moves what stays together -/
def c4C (C : q_S) (to fr : Int) : q_S := q_us (q_us (q_us (q_us C 126 to (C 126 fr)) 127 to (C 127 fr)) 128 to (C 128 fr)) 129 to (C 129 fr)
theorem c4C_ap {C : q_S} {to fr t i : Int} : c4C C to fr t i = if (126 ≤ t ∧ t ≤ 129) ∧ i = to then C t fr else C t i := by
  unfold c4C
  simp only [q_us_ap]
  by_cases h : (126 ≤ t ∧ t ≤ 129) ∧ i = to
  · refine Eq.trans ?_ (if_pos h).symm
    by_cases t1 : t = 129
    · rw [if_pos ⟨t1, h.2⟩, t1]
    · rw [if_neg (fun g => t1 g.1)]
      by_cases t2 : t = 128
      · rw [if_pos ⟨t2, h.2⟩, t2]
      · rw [if_neg (fun g => t2 g.1)]
        by_cases t3 : t = 127
        · rw [if_pos ⟨t3, h.2⟩, t3]
        · rw [if_neg (fun g => t3 g.1), if_pos ⟨by omega, h.2⟩, show t = 126 by omega]
  · refine Eq.trans ?_ (if_neg h).symm
    rw [if_neg (by omega), if_neg (by omega), if_neg (by omega), if_neg (by omega)]
def kuE (C : q_S) : Nat → Int × q_S
  | 0 => (0, C)
  | n + 1 => if ¬ C 130 n = 0 then ((kuE C n).1 + 1, c4C (kuE C n).2 (kuE C n).1 n) else kuE C n
def kuS (C : q_S) : Nat → Int → Int
  | 0 => fun i => i
  | n + 1 => if ¬ C 130 n = 0 then (fun i => if i = (kuE C n).1 then (n : Int) else kuS C n i) else kuS C n
theorem kuE_sp (C : q_S) : ∀ n : Nat, (0 ≤ (kuE C n).1 ∧ (kuE C n).1 ≤ n) ∧ (∀ t i, (kuE C n).1 ≤ i ∨ ¬ (126 ≤ t ∧ t ≤ 129) → (kuE C n).2 t i = C t i) ∧
    (∀ i, 0 ≤ i → i < (kuE C n).1 → (i ≤ kuS C n i ∧ kuS C n i < n) ∧ ¬ C 130 (kuS C n i) = 0 ∧ ∀ t, 126 ≤ t → t ≤ 129 → (kuE C n).2 t i = C t (kuS C n i)) ∧
    (∀ i j, 0 ≤ i → i < j → j < (kuE C n).1 → kuS C n i < kuS C n j) ∧ ∀ k : Int, 0 ≤ k → k < n → ¬ C 130 k = 0 → ∃ i, (0 ≤ i ∧ i < (kuE C n).1) ∧ kuS C n i = k := by
  intro n
  induction n with
  | zero => exact ⟨⟨Int.le_refl _, Int.le_refl _⟩, fun _ _ _ => rfl, fun i a b => by simp only [kuE] at b; omega, fun i j a b d => by simp only [kuE] at d; omega, fun k a b => by omega⟩
  | succ n ih =>
    obtain ⟨i1, i2, i3, i4, i5⟩ := ih
    by_cases e : ¬ C 130 n = 0
    · have eE : kuE C (n + 1) = ((kuE C n).1 + 1, c4C (kuE C n).2 (kuE C n).1 n) := by simp only [kuE]; rw [if_pos e]
      have eS : kuS C (n + 1) = fun i => if i = (kuE C n).1 then (n : Int) else kuS C n i := by simp only [kuS]; rw [if_pos e]
      rw [eE, eS]
      refine ⟨⟨by omega, by simp only []; omega⟩, fun t i g => ?_, fun i a b => ?_, fun i j a b d => ?_, fun k a b g => ?_⟩
      · simp only [] at g ⊢
        rw [c4C_ap, if_neg (by omega)]
        exact i2 t i (by omega)
      · simp only [] at b ⊢
        by_cases e9 : i = (kuE C n).1
        · rw [if_pos e9]
          refine ⟨⟨by omega, by omega⟩, e, fun t x y => ?_⟩
          rw [c4C_ap, if_pos ⟨⟨x, y⟩, e9⟩]
          exact i2 t n (Or.inl i1.2)
        · rw [if_neg e9]
          have g := i3 i a (by omega)
          refine ⟨⟨g.1.1, by omega⟩, g.2.1, fun t x y => ?_⟩
          rw [c4C_ap, if_neg (fun z => e9 z.2)]
          exact g.2.2 t x y
      · simp only [] at d ⊢
        rw [if_neg (show ¬ i = (kuE C n).1 by omega)]
        by_cases e9 : j = (kuE C n).1
        · rw [if_pos e9]; have := (i3 i a (by omega)).1.2; omega
        · rw [if_neg e9]; exact i4 i j a b (by omega)
      · by_cases ek : k = n
        · exact ⟨(kuE C n).1, ⟨i1.1, by simp only []; omega⟩, by show (if (kuE C n).1 = (kuE C n).1 then (n : Int) else kuS C n (kuE C n).1) = k; rw [if_pos rfl, ek]⟩
        · obtain ⟨i, hi, hk⟩ := i5 k a (by omega) g
          exact ⟨i, ⟨hi.1, by simp only []; omega⟩, by simp only []; rw [if_neg (by omega)]; exact hk⟩
    · have eE : kuE C (n + 1) = kuE C n := by simp only [kuE]; rw [if_neg e]
      have eS : kuS C (n + 1) = kuS C n := by simp only [kuS]; rw [if_neg e]
      rw [eE, eS]
      refine ⟨⟨i1.1, by omega⟩, i2, fun i a b => ?_, i4, fun k a b g => ?_⟩
      · have g := i3 i a b; exact ⟨⟨g.1.1, by omega⟩, g.2⟩
      · have ek : k ≠ n := fun e9 => e (by rw [← e9]; exact g)
        exact i5 k a (by omega) g
def duC (C : q_S) : q_S := q_us (kuE C (C 105 0).toNat).2 105 0 (kuE C (C 105 0).toNat).1
/-- what is not needed goes -/
theorem rt_drop {M M' C D : q_S} (h : RT M C) (z : ∀ i, 0 ≤ i → i < C 105 0 → (C 130 i = 0 ↔ D 42 (C 126 i) = 0))
    (e : ∀ t j : Int, 31 ≤ t → t ≤ 33 → 0 ≤ j → j < 20000 → M' t j = if D 42 j = 0 then 0 else M t j) : RT M' (duC C) := by
  have hn := rt_n h
  have sp := kuE_sp C (C 105 0).toNat
  obtain ⟨s1, s2, s3, s4, s5⟩ := sp
  have e0 : duC C 105 0 = (kuE C (C 105 0).toNat).1 := by unfold duC; rw [q_us_ap, if_pos ⟨rfl, rfl⟩]
  have eT : ∀ t i, 126 ≤ t → duC C t i = (kuE C (C 105 0).toNat).2 t i := fun t i g => by unfold duC; rw [q_us_ap, if_neg (fun x => by have := x.1; omega)]
  refine ⟨by rw [e0]; omega, fun i a b => ?_, fun i j a b d => ?_, fun x a b w => ?_, fun x a b w => ?_⟩
  · rw [e0] at b
    have g := s3 i a b
    have hk : 0 ≤ kuS C (C 105 0).toNat i ∧ kuS C (C 105 0).toNat i < C 105 0 := ⟨by omega, by omega⟩
    have k := rt_i h hk
    have zz : ¬ D 42 (C 126 (kuS C (C 105 0).toNat i)) = 0 := fun q => g.2.1 ((z _ hk.1 hk.2).mpr q)
    rw [eT 126 _ (by decide), eT 127 _ (by decide), eT 128 _ (by decide), eT 129 _ (by decide), g.2.2 126 (by decide) (by decide), g.2.2 127 (by decide) (by decide), g.2.2 128 (by decide) (by decide), g.2.2 129 (by decide) (by decide),
      e 31 _ (by decide) (by decide) k.1.1 k.1.2, e 32 _ (by decide) (by decide) k.1.1 k.1.2, e 33 _ (by decide) (by decide) k.1.1 k.1.2, if_neg zz, if_neg zz, if_neg zz]
    exact k
  · rw [e0] at d
    have gi := s3 i a (by omega)
    have gj := s3 j (by omega) d
    rw [eT 126 _ (by decide), eT 126 _ (by decide), gi.2.2 126 (by decide) (by decide), gj.2.2 126 (by decide) (by decide)]
    exact h.2.2.1 _ _ (by omega) (s4 i j a b d) (by have := gj.1.2; omega)
  · rw [e 31 x (by decide) (by decide) a b] at w
    by_cases q : D 42 x = 0
    · rw [if_pos q] at w; exact absurd rfl w
    · rw [if_neg q] at w
      obtain ⟨k, hk, hx⟩ := h.2.2.2.1 x a b w
      obtain ⟨i, hi, hs⟩ := s5 k hk.1 (by have := hk.2; omega) (fun y => q (by rw [← hx]; exact (z k hk.1 hk.2).mp y))
      refine ⟨i, by rw [e0]; exact hi, ?_⟩
      rw [eT 126 _ (by decide), (s3 i hi.1 hi.2).2.2 126 (by decide) (by decide), hs]
      exact hx
  · rw [e 31 x (by decide) (by decide) a b] at w
    rw [e 32 x (by decide) (by decide) a b, e 33 x (by decide) (by decide) a b]
    by_cases q : D 42 x = 0
    · rw [if_pos q, if_pos q]; exact ⟨rfl, rfl⟩
    · rw [if_neg q] at w ⊢; rw [if_neg q]; exact h.2.2.2.2 x a b w
