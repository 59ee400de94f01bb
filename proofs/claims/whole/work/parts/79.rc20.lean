/-! uploading: pure -/
theorem pk_cg {A B : q_S} (h : ∀ t j : Int, t ≠ 40 → A t j = B t j) : pkF A = pkF B := by
  unfold pkF
  rw [h 50 34 (by decide), h 35 _ (by decide)]
theorem comes_cg {A B : q_S} (h : ∀ t j : Int, t ≠ 40 → A t j = B t j) (x t j : Int) (ht : t ≠ 40) : comesF A x t j = comesF B x t j := by
  rw [comesF_ap, comesF_ap, pk_cg h, h 50 39 (by decide), h 35 _ (by decide), h t j ht]
theorem seF_cg {A B : q_S} (h : ∀ t j : Int, t ≠ 40 → A t j = B t j) (p c : Int) : ∀ k, (seF A p c k).1 = (seF B p c k).1 ∧ ∀ t j : Int, t ≠ 40 → (seF A p c k).2 t j = (seF B p c k).2 t j := by
  intro k
  induction k with
  | zero => exact ⟨rfl, h⟩
  | succ k ih =>
    simp only [seF]
    rw [ih.1, ih.2 31 _ (by decide)]
    split
    · exact ih
    · split
      · exact ih
      · split
        · exact ⟨rfl, ih.2⟩
        · exact ⟨rfl, fun t j ht => comes_cg ih.2 _ t j ht⟩
theorem seF_39 {S : q_S} {p : Int} (hp : 0 ≤ p) (c : Int) : ∀ k, ((seF S p c k).2 50 39 = S 50 39 + (p - (if (seF S p c k).1 = -1 then 0 else (seF S p c k).1))) ∧ -1 ≤ (seF S p c k).1 ∧ (seF S p c k).1 ≤ p := by
  intro k
  induction k with
  | zero => exact ⟨by show S 50 39 = S 50 39 + (p - (if p = -1 then 0 else p)); rw [if_neg (by omega)]; omega, by show -1 ≤ p; omega, Int.le_refl _⟩
  | succ k ih =>
    by_cases h1 : (seF S p c k).1 = -1
    · have st : seF S p c (k + 1) = seF S p c k := by simp only [seF]; rw [if_pos h1]
      rw [st]; exact ih
    · by_cases h2 : ¬ (seF S p c k).2 31 (pce c k) = 0
      · have st : seF S p c (k + 1) = seF S p c k := by simp only [seF]; rw [if_neg h1, if_pos h2]
        rw [st]; exact ih
      · by_cases h3 : (seF S p c k).1 = 0
        · have st : seF S p c (k + 1) = (-1, (seF S p c k).2) := by simp only [seF]; rw [if_neg h1, if_neg h2, if_pos h3]
          rw [st]
          refine ⟨?_, (by decide : (-1 : Int) ≤ -1), (show (-1 : Int) ≤ p by omega)⟩
          show (seF S p c k).2 50 39 = S 50 39 + (p - (if (-1 : Int) = -1 then 0 else -1))
          rw [if_pos rfl, ih.1, if_neg h1, h3]
        · have st : seF S p c (k + 1) = ((seF S p c k).1 - 1, comesF (seF S p c k).2 (pce c k)) := by simp only [seF]; rw [if_neg h1, if_neg h2, if_neg h3]
          rw [st]
          have i1 := ih.1
          rw [if_neg h1] at i1
          refine ⟨?_, (show -1 ≤ (seF S p c k).1 - 1 by omega), (show (seF S p c k).1 - 1 ≤ p by omega)⟩
          show comesF (seF S p c k).2 (pce c k) 50 39 = S 50 39 + (p - (if (seF S p c k).1 - 1 = -1 then 0 else (seF S p c k).1 - 1))
          rw [if_neg (by omega), comesF_ap, if_pos ⟨rfl, rfl⟩, i1]; omega
theorem haI_mono {A B : q_S} {c : Int} (h : ∀ x, ¬ A 31 x = 0 → ¬ B 31 x = 0) : ∀ n, ¬ haI A c n = 0 → ¬ haI B c n = 0 := by
  intro n
  induction n with
  | zero => intro g; exact g
  | succ n ih =>
    intro g
    simp only [haI] at g ⊢
    by_cases e : ¬ haI A c n = 0 ∧ ¬ A 31 (pce c n) = 0
    · rw [if_pos ⟨ih e.1, h _ e.2⟩]; decide
    · rw [if_neg e] at g; exact absurd rfl g
theorem comes_31 {S : q_S} (h34 : 0 ≤ S 50 34) (x y : Int) (h : ¬ S 31 y = 0) : ¬ comesF S x 31 y = 0 := by
  have hp : 1 ≤ pkF S := by unfold pkF; split <;> omega
  rw [comesF_ap]
  simp only [Int.reduceEq, false_and, true_and, if_false]
  split
  · omega
  · exact h
theorem seF_all {S : q_S} (h34 : 0 ≤ S 50 34) (p c : Int) : ∀ k, (¬ (seF S p c k).1 = -1 → ¬ haI (seF S p c k).2 c k = 0) ∧ ((seF S p c k).1 = -1 → ¬ p = -1 → haI (seF S p c k).2 c k = 0) := by
  intro k
  induction k with
  | zero => exact ⟨fun _ => by show ¬ (1 : Int) = 0; decide, fun h g => absurd h g⟩
  | succ k ih =>
    have hk34 : 0 ≤ (seF S p c k).2 50 34 := by have := (seF_le2 S p c 0 k).1; rw [Nat.zero_add] at this; exact Int.le_trans h34 this
    simp only [seF]
    by_cases e1 : (seF S p c k).1 = -1
    · rw [if_pos e1]
      exact ⟨fun g => absurd e1 g, fun _ g => haI_stop (ih.2 e1 g) 1⟩
    · rw [if_neg e1]
      by_cases e2 : ¬ (seF S p c k).2 31 (pce c k) = 0
      · rw [if_pos e2]
        refine ⟨fun _ => ?_, fun g => absurd g e1⟩
        simp only [haI]; rw [if_pos ⟨ih.1 e1, e2⟩]; decide
      · rw [if_neg e2]
        by_cases e3 : (seF S p c k).1 = 0
        · rw [if_pos e3]
          refine ⟨fun g => absurd rfl g, fun _ _ => ?_⟩
          simp only [haI]; rw [if_neg (fun g => e2 g.2)]
        · rw [if_neg e3]
          refine ⟨fun _ => ?_, fun g => absurd (show (seF S p c k).1 - 1 = -1 from g) (by omega)⟩
          simp only [haI]
          rw [if_pos]
          · decide
          · refine ⟨haI_mono (fun x g => comes_31 hk34 _ x g) k (ih.1 e1), ?_⟩
            have hp : 1 ≤ pkF (seF S p c k).2 := by unfold pkF; split <;> omega
            rw [comesF_ap]
            simp only [Int.reduceEq, false_and, true_and, and_self, if_false, if_true]
            omega
theorem seF_zero {S : q_S} {p c : Int} {k : Nat} (h : (seF S p c k).1 = 0) : ∀ d : Nat, ((seF S p c (k + d)).1 = 0 ∨ (seF S p c (k + d)).1 = -1) ∧ (seF S p c (k + d)).2 = (seF S p c k).2 := by
  intro d
  induction d with
  | zero => exact ⟨Or.inl h, rfl⟩
  | succ d ih =>
    rw [← Nat.add_assoc]
    simp only [seF]
    split
    · exact ih
    · split
      · exact ih
      · split
        · exact ⟨Or.inr rfl, ih.2⟩
        next h1 h2 h3 => exact absurd (ih.1.resolve_right h1) h3
theorem seF_o {S : q_S} {p c t j : Int} (h : t ≠ 31 ∧ t ≠ 32 ∧ t ≠ 35) (h2 : ¬ (t = 50 ∧ (j = 34 ∨ j = 39))) : ∀ k, (seF S p c k).2 t j = S t j := by
  intro k
  induction k with
  | zero => rfl
  | succ k ih =>
    simp only [seF]
    split
    · exact ih
    · split
      · exact ih
      · split
        · exact ih
        · show comesF _ _ t j = _
          rw [comesF_ap, if_neg (by omega), if_neg (by omega), if_neg (by omega), if_neg (by omega), if_neg (by omega)]; exact ih
theorem sends_o {S : q_S} {p c t j : Int} (h : t ≠ 31 ∧ t ≠ 32 ∧ t ≠ 35 ∧ t ≠ 40) (h2 : ¬ (t = 50 ∧ (j = 34 ∨ j = 39))) : (sendsF S c p).2 t j = S t j := by
  unfold sendsF
  rw [seF_o ⟨h.1, h.2.1, h.2.2.1⟩ h2, cutS_o h.2.2.2]
theorem mi_sends {S : q_S} (hI : MI S) (c p : Int) : MI (sendsF S c p).2 := mi_o hI (fun t j g => sends_o (by omega) (by omega))
/-- a file that is known is as the version that was seen -/
def KI (M : q_S) : Prop := ∀ p, 0 ≤ p → p < 48 → M 2 p = 1 → isAsP M p (M 5 p - 1)
theorem ki_o {M M' : q_S} (h : KI M) (hM : ∀ t j : Int, (t = 2 ∨ t = 3 ∨ t = 4 ∨ t = 5 ∨ t = 20 ∨ t = 21) → M' t j = M t j) : KI M' := by
  intro p a b c
  rw [hM 2 p (by omega)] at c
  have g := h p a b c
  unfold isAsP at g ⊢
  rw [hM 2 p (by omega), hM 3 p (by omega), hM 4 p (by omega), hM 5 p (by omega), hM 20 _ (by omega), hM 21 _ (by omega)]
  exact g
/-- one copy changes -/
theorem ki_copy {M M' : q_S} (h : KI M) {p : Int} (hM : ∀ t j : Int, (t = 2 ∨ t = 3 ∨ t = 4 ∨ t = 5) → j ≠ p → M' t j = M t j) (hV : ∀ t j : Int, (t = 20 ∨ t = 21) → M' t j = M t j) (hp : M' 2 p = 1 → isAsP M' p (M' 5 p - 1)) : KI M' := by
  intro q a b c
  by_cases e : q = p
  · rw [e] at c ⊢; exact hp c
  · rw [hM 2 q (by omega) e] at c
    have g := h q a b c
    unfold isAsP at g ⊢
    rw [hM 2 q (by omega) e, hM 3 q (by omega) e, hM 4 q (by omega) e, hM 5 q (by omega) e, hV 20 _ (by omega), hV 21 _ (by omega)]
    exact g
theorem ki_becomes {M : q_S} (hK : KI M) (p v : Int) : KI (becomesF M p v) := by
  refine ki_copy hK (p := p) (fun t j h g => bec_o (by omega)) (fun t j h => bec_o (by omega)) (fun g => ?_)
  by_cases e : isInP M v
  · have b2 : becomesF M p v = q_us (q_us (q_us (q_us M 5 p (v + 1)) 2 p 1) 3 p (M 21 v)) 4 p (M 20 v) := by unfold becomesF; rw [if_pos e]
    have e5 : becomesF M p v 5 p = v + 1 := by rw [b2]; simp only [q_us_ap, Int.reduceEq, false_and, and_self, if_false, if_true]
    have e21 : becomesF M p v 21 v = M 21 v := bec_o (by omega)
    have e20 : becomesF M p v 20 v = M 20 v := bec_o (by omega)
    have e3 : becomesF M p v 3 p = M 21 v := by rw [b2]; simp only [q_us_ap, Int.reduceEq, false_and, and_self, if_false, if_true]
    have e4 : becomesF M p v 4 p = M 20 v := by rw [b2]; simp only [q_us_ap, and_self, if_true]
    rw [e5, show v + 1 - 1 = v by omega]
    unfold isAsP
    rw [e21, e20, e3, e4, g]
    have h1 := e.1
    have h2 := e.2
    exact Or.inr ⟨fun x => x.elim h1 (fun y => by omega), by decide, rfl, rfl⟩
  · have b2 : becomesF M p v = leavesF (q_us M 5 p (v + 1)) p := by unfold becomesF; rw [if_neg e]
    rw [b2] at g
    unfold leavesF at g
    simp only [q_us_ap, Int.reduceEq, false_and, and_self, if_false, if_true] at g
theorem ki_makes {M : q_S} (hK : KI M) (hI : MI M) (f m c d : Int) : KI (makesF M f m c d) := by
  intro p a b e
  have e2 : M 2 p = 1 := e
  have g := hK p a b e2
  have g5 := (hI.2.1 p a b).2.2.1
  have ev : ∀ t, (t = 20 ∨ t = 21) → makesF M f m c d t (M 5 p - 1) = M t (M 5 p - 1) := fun t ht => by
    unfold makesF
    simp only [q_us_ap]
    rw [if_neg (by omega), if_neg (by omega), if_neg (by omega), if_neg (by omega), if_neg (by omega), if_neg (by omega), if_neg (by omega)]
  have e5 : makesF M f m c d 5 p = M 5 p := rfl
  have e3 : makesF M f m c d 3 p = M 3 p := rfl
  have e4 : makesF M f m c d 4 p = M 4 p := rfl
  have e22 : makesF M f m c d 2 p = M 2 p := rfl
  unfold isAsP at g ⊢
  rw [e5, ev 20 (by omega), ev 21 (by omega), e3, e4, e22]
  exact g
theorem ki_ack {M : q_S} (hK : KI M) (hI : MI M) (h16 : 0 ≤ M 50 16) {m f : Int} (hm : 0 ≤ m ∧ m ≤ 2) (hf : 0 ≤ f ∧ f ≤ 15) : KI (ackF M m f) := by
  have gi := hI.2.1 (16 * m + f) (by omega) (by omega)
  refine ki_copy (ki_makes hK hI f m (M 3 (16 * m + f)) (M 4 (16 * m + f))) (p := 16 * m + f) (fun t j h g => if_neg (fun y => g y.2)) (fun t j h => if_neg (by omega)) (fun g => ?_)
  have g2 : M 2 (16 * m + f) = 1 := g
  have e5 : ackF M m f 5 (16 * m + f) = M 50 16 + 1 := if_pos ⟨rfl, rfl⟩
  have e21 : ackF M m f 21 (M 50 16) = M 3 (16 * m + f) := by simp only [makesF, q_us_ap, Int.reduceEq, false_and, and_self, if_false, if_true]
  have e20 : ackF M m f 20 (M 50 16) = M 4 (16 * m + f) := by simp only [makesF, q_us_ap, Int.reduceEq, false_and, and_self, if_false, if_true]
  have e2 : ackF M m f 2 (16 * m + f) = 1 := g2
  have e3 : ackF M m f 3 (16 * m + f) = M 3 (16 * m + f) := rfl
  have e4 : ackF M m f 4 (16 * m + f) = M 4 (16 * m + f) := rfl
  have n3 : ¬ M 3 (16 * m + f) = 0 := fun x => by have := gi.2.1.mpr x; omega
  rw [e5, show M 50 16 + 1 - 1 = M 50 16 by omega]
  unfold isAsP
  rw [e21, e20, e2, e3, e4]
  exact Or.inr ⟨fun x => x.elim (fun y => by omega) n3, by decide, rfl, rfl⟩
theorem seen_lat {S : q_S} (hI : MI S) {p : Int} (hp : 0 ≤ p ∧ p < 48) (h : latestOf S (p % 16) = -1) (h5 : 0 ≤ S 5 p) : S 5 p = 0 := by
  have g := hI.2.1 p hp.1 hp.2
  refine Classical.byContradiction (fun e => ?_)
  have g2 := hI.2.2.1 (S 5 p - 1) (by omega) (by have := g.2.2.1; omega)
  rw [g.2.2.2.1 (by omega), h] at g2
  omega
theorem look2_16 (S : q_S) (p lat : Int) : (look2 S p lat).2 50 16 = S 50 16 + (look2 S p lat).1 := by
  unfold look2
  split
  · show S 50 16 = S 50 16 + 0; omega
  · split
    · show makesF (cflF S p lat) (p % 16) (p / 16) (S 3 p) (S 4 p) 50 16 = S 50 16 + 1
      unfold makesF
      simp only [q_us_ap, and_self, if_true]; rfl
    · split
      · show becomesF (cflF S p lat) p lat 50 16 = S 50 16 + 0
        rw [becomesF_50 (by decide), Int.add_zero]; rfl
      · unfold keepsF
        split
        · show S 50 16 = S 50 16 + 0; omega
        · show becomesF _ p lat 50 16 = S 50 16 + 1
          rw [becomesF_50 (by decide)]
          simp only [makesF, q_us_ap, Int.reduceEq, false_and, and_self, if_false, if_true]; rfl
/-- a look, as the class does it -/
theorem look2_lk {S : q_S} (hI : MI S) (hW : WR S) {m f : Int} (hm : 0 ≤ m ∧ m ≤ 2) (hf : 0 ≤ f ∧ f ≤ 15) (ho : isOtherP S (16 * m + f)) : (look2 S (16 * m + f) (latestOf S f)).2 = lkF S m f := by
  have hp : 0 ≤ 16 * m + f ∧ 16 * m + f < 48 := by omega
  have em : (16 * m + f) / 16 = m := by omega
  have ef : (16 * m + f) % 16 = f := by omega
  have h5 : 0 ≤ S 5 (16 * m + f) := (hW 5 _).1
  have hsl := seen_lat hI hp
  rw [ef] at hsl
  unfold look2 lkF
  by_cases e1 : okP S (16 * m + f) (latestOf S f)
  · have ec : cflF S (16 * m + f) (latestOf S f) = S := by
      unfold cflF
      rw [if_pos e1, Int.add_zero]
      exact us_same S 50 37
    rw [if_neg (fun g => ho (by rw [← e1.2]; exact g.2)), if_pos (Or.inl e1), if_pos e1, em, ef, ec]
  · have n1 : ¬ latestOf S f = -1 ∨ ¬ mayP S (16 * m + f) (latestOf S f) := by
      by_cases e : latestOf S f = -1
      · exact Or.inr (fun g => e1 ⟨g, by have := hsl e h5; omega⟩)
      · exact Or.inl e
    rw [if_neg (show ¬ (mayP S (16 * m + f) (latestOf S f) ∧ latestOf S f = S 5 (16 * m + f) - 1) from e1)]
    by_cases e2 : isAsP S (16 * m + f) (latestOf S f)
    · rw [if_pos e2, if_pos]
      refine ⟨fun e => ho ?_, e2⟩
      have := hsl e h5
      rw [this, show (0 : Int) - 1 = -1 by decide, ← e]; exact e2
    · have ec : cflF S (16 * m + f) (latestOf S f) = q_us S 50 37 (S 50 37 + 1) := by
        unfold cflF; rw [if_neg e1]
      have el : latestOf (q_us S 50 37 (S 50 37 + 1)) f = latestOf S f := lat_eq (M' := q_us S 50 37 (S 50 37 + 1)) (M := S) (fun _ => rfl) (fun _ => rfl) rfl f
      rw [if_neg e2, if_neg (fun g => e2 g.2), ec]
      unfold stF
      rw [el]
      have x2 : q_us S 50 37 (S 50 37 + 1) 2 (16 * m + f) = S 2 (16 * m + f) := rfl
      have x21 : vfo (q_us S 50 37 (S 50 37 + 1)) (latestOf S f) = vfo S (latestOf S f) := rfl
      have xm : mayP (q_us S 50 37 (S 50 37 + 1)) (16 * m + f) (latestOf S f) = mayP S (16 * m + f) (latestOf S f) := rfl
      have g20 : 0 ≤ S 20 (latestOf S f) := (hW 20 _).1
      have evf : vfo S (latestOf S f) = -1 ↔ latestOf S f = -1 ∨ S 21 (latestOf S f) = 0 := by
        unfold vfo
        by_cases e : latestOf S f = -1 ∨ S 21 (latestOf S f) = 0
        · rw [if_pos e]; exact ⟨fun _ => e, fun _ => rfl⟩
        · rw [if_neg e]; exact ⟨fun g => by omega, fun g => absurd g e⟩
      by_cases e3 : S 2 (16 * m + f) = 0
      · rw [if_neg (fun g => g.elim e1 (fun g => g.1 e3)), if_pos e3, if_pos (show (q_us S 50 37 (S 50 37 + 1)) 2 (16 * m + f) = 0 from e3)]
      · rw [if_neg e3, if_neg (show ¬ (q_us S 50 37 (S 50 37 + 1)) 2 (16 * m + f) = 0 from e3)]
        by_cases e4 : mayP S (16 * m + f) (latestOf S f) ∧ vfo S (latestOf S f) = -1
        · have nl : ¬ latestOf S f = -1 := n1.resolve_right (fun g => g e4.1)
          rw [if_pos (Or.inr ⟨e3, ⟨nl, (evf.mp e4.2).resolve_left nl⟩, e4.1⟩), if_pos (show mayP (q_us S 50 37 (S 50 37 + 1)) (16 * m + f) (latestOf S f) ∧ vfo (q_us S 50 37 (S 50 37 + 1)) (latestOf S f) = -1 from e4), em, ef]; rfl
        · rw [if_neg (fun g => g.elim e1 (fun g => e4 ⟨g.2.2, evf.mpr (Or.inr g.2.1.2)⟩)), if_neg (show ¬ (mayP (q_us S 50 37 (S 50 37 + 1)) (16 * m + f) (latestOf S f) ∧ vfo (q_us S 50 37 (S 50 37 + 1)) (latestOf S f) = -1) from e4)]
theorem us_comm {S : q_S} {t1 j1 z1 t2 j2 z2 : Int} (h : t1 ≠ t2) : q_us (q_us S t1 j1 z1) t2 j2 z2 = q_us (q_us S t2 j2 z2) t1 j1 z1 := by
  funext t j
  simp only [q_us_ap]
  by_cases e : t = t2 ∧ j = j2
  · rw [if_pos e, if_neg (fun g => h (by rw [← g.1, e.1])), if_pos e]
  · rw [if_neg e]
    by_cases e2 : t = t1 ∧ j = j1
    · rw [if_pos e2, if_pos e2]
    · rw [if_neg e2, if_neg e2, if_neg e]
theorem free_8 (S : q_S) (p z : Int) : freeF (q_us S 8 p z) = freeF S := by
  have a : ∀ f n, frV (q_us S 8 p z) f n = frV S f n := by
    intro f n
    induction n with
    | zero => rfl
    | succ n ih => simp only [frV]; rw [ih]; rfl
  have b : ∀ f x n, frM (q_us S 8 p z) f x n = frM S f x n := by
    intro f x n
    induction n with
    | zero => rfl
    | succ n ih => simp only [frM]; rw [ih]; rfl
  have c : ∀ f, frI (q_us S 8 p z) f = frI S f := by
    intro f
    unfold frI
    rw [b, a]; rfl
  have d : ∀ r f, frF (q_us S 8 p z) r f = frF S r f := by
    intro r
    induction r with
    | zero => intro f; rfl
    | succ r ih => intro f; simp only [frF]; rw [c, ih]
  exact d 16 0
theorem makes_8 (S : q_S) (p z f m c d : Int) : makesF (q_us S 8 p z) f m c d = q_us (makesF S f m c d) 8 p z := by
  show q_us (q_us (q_us (q_us (q_us (q_us (q_us (q_us S 8 p z) 17 (S 50 16) f) 18 (S 50 16) (S 50 1)) 19 (S 50 16) m) 21 (S 50 16) c) 20 (S 50 16) d) 22 (S 50 16) 0) 50 16 (S 50 16 + 1) = _
  rw [us_comm (t1 := 8) (t2 := 17) (by decide), us_comm (t1 := 8) (t2 := 18) (by decide), us_comm (t1 := 8) (t2 := 19) (by decide), us_comm (t1 := 8) (t2 := 21) (by decide), us_comm (t1 := 8) (t2 := 20) (by decide), us_comm (t1 := 8) (t2 := 22) (by decide), us_comm (t1 := 8) (t2 := 50) (by decide)]
  rfl
theorem becomes_8 (S : q_S) (p z q v : Int) : becomesF (q_us S 8 p z) q v = q_us (becomesF S q v) 8 p z := by
  have e21 : q_us S 8 p z 21 v = S 21 v := rfl
  have e20 : q_us S 8 p z 20 v = S 20 v := rfl
  unfold becomesF leavesF isInP
  rw [e21, e20, us_comm (t1 := 8) (t2 := 5) (by decide), us_comm (t1 := 8) (t2 := 2) (by decide), us_comm (t1 := 8) (t2 := 3) (by decide), us_comm (t1 := 8) (t2 := 4) (by decide), us_comm (t1 := 8) (t2 := 2) (by decide), us_comm (t1 := 8) (t2 := 3) (by decide), us_comm (t1 := 8) (t2 := 4) (by decide)]
  by_cases e : v ≠ -1 ∧ 0 < S 21 v
  · rw [if_pos e, if_pos e]
  · rw [if_neg e, if_neg e]
theorem keeps_8 (S : q_S) (p q lat : Int) : keepsF (q_us S 8 p 0) q lat = ((keepsF S q lat).1, q_us (keepsF S q lat).2 8 p 0) := by
  have ek : kpF (q_us S 8 p 0) q = kpF S q := by
    show (if rightF S (S 4 q) (q / 16) = 2 then freeF (q_us S 8 p 0) else -1) = if rightF S (S 4 q) (q / 16) = 2 then freeF S else -1
    rw [free_8]
  have e3 : q_us S 8 p 0 3 q = S 3 q := rfl
  have e4 : q_us S 8 p 0 4 q = S 4 q := rfl
  have e16 : q_us S 8 p 0 50 16 = S 50 16 := rfl
  have e38 : q_us S 8 p 0 50 38 = S 50 38 := rfl
  unfold keepsF
  rw [ek]
  by_cases e : kpF S q = -1
  · rw [if_pos e, if_pos e, e38, us_comm (t1 := 8) (t2 := 50) (by decide)]
  · rw [if_neg e, if_neg e, e3, e4, e16, makes_8, us_comm (t1 := 8) (t2 := 5) (by decide), us_comm (t1 := 8) (t2 := 2) (by decide), us_comm (t1 := 8) (t2 := 3) (by decide), us_comm (t1 := 8) (t2 := 4) (by decide), becomes_8]
theorem cfl_8 (S : q_S) (p q lat : Int) : cflF (q_us S 8 p 0) q lat = q_us (cflF S q lat) 8 p 0 := by
  show q_us (q_us S 8 p 0) 50 37 (S 50 37 + (if okP S q lat then 0 else 1)) = q_us (q_us S 50 37 (S 50 37 + (if okP S q lat then 0 else 1))) 8 p 0
  rw [us_comm (t1 := 8) (t2 := 50) (by decide)]
theorem look2_8c (S : q_S) (p q lat : Int) : look2 (q_us S 8 p 0) q lat = ((look2 S q lat).1, q_us (look2 S q lat).2 8 p 0) := by
  have c1 : isAsP (q_us S 8 p 0) q lat = isAsP S q lat := rfl
  have c2 : okP (q_us S 8 p 0) q lat = okP S q lat := rfl
  have c3 : mayP (q_us S 8 p 0) q lat = mayP S q lat := rfl
  have e2 : q_us S 8 p 0 2 q = S 2 q := rfl
  have e3 : q_us S 8 p 0 3 q = S 3 q := rfl
  have e4 : q_us S 8 p 0 4 q = S 4 q := rfl
  have e21 : q_us S 8 p 0 21 lat = S 21 lat := rfl
  have e16 : q_us S 8 p 0 50 16 = S 50 16 := rfl
  unfold look2
  by_cases h1 : ¬ lat = -1 ∧ isAsP S q lat
  · rw [if_pos h1, if_pos (by rw [c1]; exact h1), us_comm (t1 := 8) (t2 := 5) (by decide)]
  · rw [if_neg h1, if_neg (by rw [c1]; exact h1)]
    by_cases h2 : okP S q lat ∨ (¬ S 2 q = 0 ∧ (¬ lat = -1 ∧ S 21 lat = 0) ∧ mayP S q lat)
    · rw [if_pos h2, if_pos (by rw [c2, c3, e2, e21]; exact h2), cfl_8, e3, e4, e16, makes_8, us_comm (t1 := 8) (t2 := 5) (by decide)]
    · rw [if_neg h2, if_neg (by rw [c2, c3, e2, e21]; exact h2), e2, cfl_8]
      by_cases h3 : S 2 q = 0
      · rw [if_pos h3, if_pos h3, becomes_8]
      · rw [if_neg h3, if_neg h3, keeps_8]
theorem looks_lk {S : q_S} (hI : MI S) (hW : WR S) {m f : Int} (hm : 0 ≤ m ∧ m ≤ 2) (hf : 0 ≤ f ∧ f ≤ 15) (ho : isOtherP S (16 * m + f)) : (looksF S (16 * m + f)).2 = q_us (lkF S m f) 8 (16 * m + f) 0 ∧ (looksF S (16 * m + f)).1 = (lkF S m f) 50 16 - S 50 16 := by
  have h := look2_lk hI hW hm hf ho
  have h1 := look2_16 S (16 * m + f) (latestOf S f)
  rw [h] at h1
  unfold looksF
  rw [show (16 * m + f) % 16 = f by omega, look2_8c, h]
  exact ⟨rfl, by show (look2 S (16 * m + f) (latestOf S f)).1 = _; omega⟩
/-! what the reference keeps through a look -/
theorem lk_16 {M : q_S} (hI : MI M) (hW : WR M) {m f : Int} (hm : 0 ≤ m ∧ m ≤ 2) (hf : 0 ≤ f ∧ f ≤ 15) (ho : isOtherP M (16 * m + f)) : lkF M m f 50 16 = M 50 16 + (looksF M (16 * m + f)).1 := by
  have := (looks_lk hI hW hm hf ho).2
  omega
theorem mi_keeps {M : q_S} (hI : MI M) (hW : WR M) {m f : Int} (hm : 0 ≤ m ∧ m ≤ 2) (hf : 0 ≤ f ∧ f ≤ 15) (h2 : ¬ M 2 (16 * m + f) = 0) (hCT : CT (keepsF M (16 * m + f) (latestOf M f)).2) (hK : KI M) : MI (keepsF M (16 * m + f) (latestOf M f)).2 ∧ KI (keepsF M (16 * m + f) (latestOf M f)).2 := by
  have h16 := rs_16 hW
  have hp : 0 ≤ 16 * m + f ∧ 16 * m + f < 48 := by omega
  have em : (16 * m + f) / 16 = m := by omega
  have hl := latestOf_rg hW f
  by_cases hk : kpF M (16 * m + f) = -1
  · have ek : keepsF M (16 * m + f) (latestOf M f) = (0, q_us M 50 38 (M 50 38 + 1)) := by unfold keepsF; rw [if_pos hk]
    rw [ek]
    exact ⟨mi_50 hI (Or.inr (Or.inl rfl)), ki_o hK (fun t j g => if_neg (by omega))⟩
  · have hfr : 0 ≤ kpF M (16 * m + f) ∧ kpF M (16 * m + f) ≤ 15 := by
      have := freeF_rg M
      unfold kpF at hk ⊢
      split at hk <;> rename_i e3
      · rw [if_pos e3]; omega
      · exact absurd rfl hk
    have hn : M 50 16 < 120 := by
      have ek := hCT
      unfold keepsF at ek
      rw [if_neg hk] at ek
      have ev := ek.2.2.2.2
      simp only [] at ev
      rw [becomesF_50 (t := 50) (by decide)] at ev
      simp only [makesF, q_us_ap, Int.reduceEq, false_and, true_and, and_false, and_true, and_self, if_false, if_true] at ev
      omega
    have ke := keeps_eq (M := M) (p := 16 * m + f) (fr := kpF M (16 * m + f)) hp h16.1
    have e1 : keepsF M (16 * m + f) (latestOf M f) = (1, becomesF (q_us (q_us (q_us (q_us (makesF M (kpF M (16 * m + f)) ((16 * m + f) / 16) (M 3 (16 * m + f)) (M 4 (16 * m + f))) 5 ((16 * m + f) / 16 * 16 + kpF M (16 * m + f)) (M 50 16 + 1)) 2 ((16 * m + f) / 16 * 16 + kpF M (16 * m + f)) 2) 3 ((16 * m + f) / 16 * 16 + kpF M (16 * m + f)) (M 3 (16 * m + f))) 4 ((16 * m + f) / 16 * 16 + kpF M (16 * m + f)) (M 4 (16 * m + f))) (16 * m + f) (latestOf M f)) := by
      unfold keepsF; rw [if_neg hk]
    rw [e1, ke, em]
    generalize hq : kpF M (16 * m + f) = fr at hfr
    have hq9 : 0 ≤ 16 * m + fr ∧ 16 * m + fr < 48 := by omega
    have gi := hI.2.1 (16 * m + fr) hq9.1 hq9.2
    have gp := hI.2.1 (16 * m + f) hp.1 hp.2
    have n3 : ¬ M 3 (16 * m + f) = 0 := fun e => h2 (gp.2.1.mpr e)
    have g4 : 0 ≤ M 4 (16 * m + f) ∧ M 4 (16 * m + f) ≤ 3 := hW 4 _
    have g3 : 0 ≤ M 3 (16 * m + f) ∧ M 3 (16 * m + f) ≤ 9999999999999 := hW 3 _
    generalize hX : q_us (q_us (q_us M 4 (16 * m + fr) (M 4 (16 * m + f))) 2 (16 * m + fr) 2) 3 (16 * m + fr) (M 3 (16 * m + f)) = XA
    have x2 : XA 2 (16 * m + fr) = 2 := by rw [← hX]; simp only [q_us_ap, Int.reduceEq, false_and, and_self, if_false, if_true]
    have x3 : XA 3 (16 * m + fr) = M 3 (16 * m + f) := by rw [← hX]; simp only [q_us_ap, and_self, if_true]
    have fM : ∀ t j : Int, ¬ ((2 ≤ t ∧ t ≤ 7) ∧ j = 16 * m + fr ∨ t = 50 ∧ j = 41 ∨ t = 40 ∨ t = 42) → XA t j = M t j := fun t j x => by
      rw [← hX]; simp only [q_us_ap]; rw [if_neg (by omega), if_neg (by omega), if_neg (by omega)]
    have x5 : XA 5 (16 * m + fr) = M 5 (16 * m + fr) := by rw [← hX]; rfl
    have hIX : MI XA := mi_copy hI hq9 fM (by rw [x3]; exact gp.1) (by rw [x2, x3]; constructor <;> intro x <;> omega) (by rw [x5]; exact gi.2.2.1) (by rw [x5]; exact gi.2.2.2.1)
    have hWX : WR XA := by rw [← hX]; exact WR.up (WR.up (WR.up hW g4) ⟨(show (0 : Int) ≤ 2 by decide), (show (2 : Int) ≤ 2 by decide)⟩) g3
    have hKX : KI XA := by
      refine ki_copy hK (p := 16 * m + fr) (fun t j h g => ?_) (fun t j h => fM t j (by omega)) (fun g => by rw [x2] at g; exact absurd g (by decide))
      rw [← hX]; simp only [q_us_ap]
      rw [if_neg (fun y => g y.2), if_neg (fun y => g y.2), if_neg (fun y => g y.2)]
    have x16 : XA 50 16 = M 50 16 := by rw [← hX]; rfl
    have hIA := mi_ack hWX hIX hm (f := fr) hfr
    have hKA := ki_ack hKX hIX (by rw [x16]; exact h16.1) hm (f := fr) hfr
    have hWA : WR (ackF XA m fr) := WR.up (hWX.makes (by rw [x16]; exact hn) hfr ⟨by omega, by omega⟩ (hWX 3 _) (hWX 4 _)) ⟨(show (0 : Int) ≤ XA 50 16 + 1 by rw [x16]; omega), (show XA 50 16 + 1 ≤ (120 : Int) by rw [x16]; omega)⟩
    have e16 : ackF XA m fr 50 16 = M 50 16 + 1 := by
      show makesF XA fr m (XA 3 (16 * m + fr)) (XA 4 (16 * m + fr)) 50 16 = _
      unfold makesF; simp only [q_us_ap, and_self, if_true]; rw [x16]
    have e17 : 0 ≤ latestOf M f → ackF XA m fr 17 (latestOf M f) = (16 * m + f) % 16 := fun g => by
      have w := lat_17 M f (M 50 16).toNat (by unfold latestOf at g; omega)
      have v : ackF XA m fr 17 (latestOf M f) = M 17 (latestOf M f) := by
        have y : makesF XA fr m (XA 3 (16 * m + fr)) (XA 4 (16 * m + fr)) 17 (latestOf M f) = XA 17 (latestOf M f) := by
          unfold makesF
          simp only [q_us_ap, Int.reduceEq, false_and, true_and, if_false]
          rw [x16, if_neg (by omega)]
        show makesF XA fr m (XA 3 (16 * m + fr)) (XA 4 (16 * m + fr)) 17 (latestOf M f) = _
        rw [y]; exact fM 17 _ (by omega)
      rw [v]; unfold latestOf; rw [w.1]; omega
    exact ⟨mi_becomes hIA hWA hp ⟨by omega, by rw [e16]; omega⟩ e17, ki_becomes hKA _ _⟩
theorem lk_ok {M : q_S} (hI : MI M) (hW : WR M) (hK : KI M) {m f : Int} (hm : 0 ≤ m ∧ m ≤ 2) (hf : 0 ≤ f ∧ f ≤ 15) (hCT : CT (lkF M m f)) : MI (lkF M m f) ∧ KI (lkF M m f) := by
  have h16 := rs_16 hW
  have hp : 0 ≤ 16 * m + f ∧ 16 * m + f < 48 := by omega
  have hl := latestOf_rg hW f
  have e17 : 0 ≤ latestOf M f → M 17 (latestOf M f) = (16 * m + f) % 16 := fun g => by
    have w := lat_17 M f (M 50 16).toNat (by unfold latestOf at g; omega)
    unfold latestOf; rw [w.1]; omega
  unfold lkF at hCT ⊢
  by_cases e1 : mayP M (16 * m + f) (latestOf M f) ∧ latestOf M f = M 5 (16 * m + f) - 1
  · rw [if_pos e1]
    exact ⟨mi_ack hW hI hm hf, ki_ack hK hI h16.1 hm hf⟩
  · rw [if_neg e1] at hCT ⊢
    by_cases e2 : isAsP M (16 * m + f) (latestOf M f)
    · rw [if_pos e2]
      refine ⟨mi_seen hI hp hl.2 e17, ki_copy hK (p := 16 * m + f) (fun t j h g => if_neg (fun y => g y.2)) (fun t j h => if_neg (by omega)) (fun _ => ?_)⟩
      have e5 : q_us M 5 (16 * m + f) (latestOf M f + 1) 5 (16 * m + f) = latestOf M f + 1 := if_pos ⟨rfl, rfl⟩
      rw [e5, show latestOf M f + 1 - 1 = latestOf M f by omega]
      exact e2
    · rw [if_neg e2] at hCT ⊢
      have el : latestOf (q_us M 50 37 (M 50 37 + 1)) f = latestOf M f := lat_eq (M' := q_us M 50 37 (M 50 37 + 1)) (M := M) (fun _ => rfl) (fun _ => rfl) rfl f
      have hI1 : MI (q_us M 50 37 (M 50 37 + 1)) := mi_50 hI (Or.inl rfl)
      have hK1 : KI (q_us M 50 37 (M 50 37 + 1)) := ki_o hK (fun t j g => if_neg (by omega))
      have h37 := rs_37 hW
      have hW1 : WR (q_us M 50 37 (M 50 37 + 1)) := WR.up hW ⟨(show (0 : Int) ≤ M 50 37 + 1 by omega), (by have e9 := ((le_st (q_us M 50 37 (M 50 37 + 1)) m f).ct hCT).2.1; show M 50 37 + 1 ≤ (1000000 : Int); exact e9)⟩
      unfold stF at hCT ⊢
      rw [el] at hCT ⊢
      by_cases e3 : q_us M 50 37 (M 50 37 + 1) 2 (16 * m + f) = 0
      · rw [if_pos e3]
        exact ⟨mi_becomes hI1 hW1 hp hl e17, ki_becomes hK1 _ _⟩
      · rw [if_neg e3] at hCT ⊢
        by_cases e4 : mayP (q_us M 50 37 (M 50 37 + 1)) (16 * m + f) (latestOf M f) ∧ vfo (q_us M 50 37 (M 50 37 + 1)) (latestOf M f) = -1
        · rw [if_pos e4]
          exact ⟨mi_ack hW1 hI1 hm hf, ki_ack hK1 hI1 h16.1 hm hf⟩
        · rw [if_neg e4] at hCT ⊢
          have := mi_keeps hI1 hW1 hm hf e3 (by rw [el]; exact hCT) hK1
          rw [el] at this
          exact this
theorem un_ok {M : q_S} (hI : MI M) (hW : WR M) (hK : KI M) (p : Int) : MI (q_us M 8 p 0) ∧ KI (q_us M 8 p 0) := by
  have h10 := rs_10 hW
  refine ⟨mi_eq hI (fun t j g => if_neg (by omega)) (Int.le_refl _) (fun q a b => ?_) hI.2.2.2, ki_o hK (fun t j g => if_neg (by omega))⟩
  show q_us M 8 p 0 8 q ≤ M 50 10
  simp only [q_us_ap, true_and]
  split
  · omega
  · exact (hI.2.1 q a b).2.2.2.2
/-! adding what is missing -/
/-- the memory while the class adds pieces: what was uploaded is counted at the end -/
def amF (M : q_S) (p c : Int) (k : Nat) : q_S := q_us (seF M p c k).2 50 39 (M 50 39)
theorem am_ap {M : q_S} {p c : Int} {k : Nat} {t j : Int} : amF M p c k t j = if t = 50 ∧ j = 39 then M 50 39 else (seF M p c k).2 t j := rfl
theorem am_39 {M : q_S} {p c : Int} {k : Nat} : amF M p c k 50 39 = M 50 39 := by rw [am_ap, if_pos ⟨rfl, rfl⟩]
theorem am_31 {M : q_S} {p c : Int} {k : Nat} {j : Int} : amF M p c k 31 j = (seF M p c k).2 31 j := by rw [am_ap, if_neg (fun g => absurd g.1 (by decide))]
theorem am_ok {M : q_S} (hW : WR M) (hI : MI M) (hP : PMI M) {p c : Int} {k : Nat} (hC : CT (seF M p c k).2) : WR (amF M p c k) ∧ MI (amF M p c k) ∧ PMI (amF M p c k) := by
  have g := seF_ok hW hP p c k hC
  have h39 := rs_39 hW
  refine ⟨WR.up g.1 ⟨h39.1, h39.2⟩, mi_o hI (fun t j x => ?_), g.2.us (by decide) (by decide) (fun _ => by decide)⟩
  unfold amF
  simp only [q_us_ap]
  rw [if_neg (by omega), seF_o (by omega) (by omega)]
theorem am_step {M : q_S} {p c : Int} {k : Nat} (h1 : ¬ (seF M p c k).1 = -1) (h2 : (seF M p c k).2 31 (pce c k) = 0) (h3 : ¬ (seF M p c k).1 = 0) : amF M p c (k + 1) = q_us (comesF (amF M p c k) (pce c k)) 50 39 (M 50 39) ∧ (seF M p c (k + 1)).1 = (seF M p c k).1 - 1 := by
  have st : seF M p c (k + 1) = ((seF M p c k).1 - 1, comesF (seF M p c k).2 (pce c k)) := by simp only [seF]; rw [if_neg h1, if_neg (fun g => g h2), if_neg h3]
  refine ⟨?_, by rw [st]⟩
  have ep : pkF (amF M p c k) = pkF (seF M p c k).2 := rfl
  unfold amF at ep ⊢
  rw [st]
  funext t j
  simp only [q_us_ap, comesF_ap]
  by_cases e : t = 50 ∧ j = 39
  · rw [if_pos e, if_pos e]
  · rw [if_neg e, if_neg e]
    simp only [if_neg e]
    have e2 : (if (35 : Int) = 50 ∧ pkF (seF M p c k).2 - 1 = 39 then M 50 39 else (seF M p c k).2 35 (pkF (seF M p c k).2 - 1)) = (seF M p c k).2 35 (pkF (seF M p c k).2 - 1) := if_neg (fun g => absurd g.1 (by decide))
    rw [ep, e2]
theorem am_pk {M : q_S} {p c : Int} {k : Nat} (h1 : ¬ (seF M p c k).1 = -1) (h2 : (seF M p c k).2 31 (pce c k) = 0) (h3 : ¬ (seF M p c k).1 = 0) (hC : CT (seF M p c (k + 1)).2) : pkF (amF M p c k) ≤ 1500 := by
  have st : seF M p c (k + 1) = ((seF M p c k).1 - 1, comesF (seF M p c k).2 (pce c k)) := by simp only [seF]; rw [if_neg h1, if_neg (fun g => g h2), if_neg h3]
  have g := hC.1
  rw [st] at g
  have g2 := (LE.comes (seF M p c k).2 (pce c k)).2.2
  have ep : pkF (amF M p c k) = pkF (seF M p c k).2 := rfl
  rw [ep, ← g2]; exact g
theorem am_same {M : q_S} {p c : Int} {k : Nat} (h2 : ¬ (seF M p c k).2 31 (pce c k) = 0) : amF M p c (k + 1) = amF M p c k ∧ (seF M p c (k + 1)).1 = (seF M p c k).1 := by
  have st : seF M p c (k + 1) = seF M p c k := by
    simp only [seF]
    by_cases e : (seF M p c k).1 = -1
    · rw [if_pos e]
    · rw [if_neg e, if_pos h2]
  unfold amF
  rw [st]
  exact ⟨rfl, rfl⟩
/-- at the end -/
theorem am_end {M C : q_S} {p c : Int} {k : Nat} (hR : RC (amF M p c k) C) (h16 : 0 ≤ M 50 16) {n : Nat} (h : (seF M p c n).2 = (seF M p c k).2) : RC (seF (cutS M c) p c n).2 (q_us C 105 2 ((seF M p c n).2 50 39)) := by
  have e16 : (amF M p c k) 50 16 = M 50 16 := by unfold amF; simp only [q_us_ap]; rw [if_neg (by decide), seF_o (by decide) (by decide)]
  have r1 : RC (q_us (amF M p c k) 50 39 ((seF M p c n).2 50 39)) (q_us C 105 2 ((seF M p c n).2 50 39)) :=
    ⟨(by have h9 := hR.1; unfold RS at h9 ⊢; simp only [q_us_ap, Int.reduceEq, Int.reduceNeg, false_and, and_false, and_self, true_and, and_true, if_true, if_false]; omega), RD_fr (rc_D hR) (by intros; first | rfl | (simp only [q_us_ap]; repeat rw [if_neg (by omega)])) (by intros; first | rfl | (simp only [q_us_ap]; repeat rw [if_neg (by omega)])) (by intros; first | rfl | (simp only [q_us_ap]; repeat rw [if_neg (by omega)])), RP_fr (rc_P hR) (by intros; first | rfl | (simp only [q_us_ap]; repeat rw [if_neg (by omega)])) (by intros; first | rfl | (simp only [q_us_ap]; repeat rw [if_neg (by omega)])) (by intros; first | rfl | (simp only [q_us_ap]; repeat rw [if_neg (by omega)])) (by intros; first | rfl | (simp only [q_us_ap]; repeat rw [if_neg (by omega)])) (by intros; first | rfl | (simp only [q_us_ap]; repeat rw [if_neg (by omega)])) (by intros; first | rfl | (simp only [q_us_ap]; repeat rw [if_neg (by omega)])) (by intros; first | rfl | (simp only [q_us_ap]; repeat rw [if_neg (by omega)])), RM_fr (rc_M hR) (by intros; first | rfl | (simp only [q_us_ap]; repeat rw [if_neg (by omega)])) (by intros; first | rfl | (simp only [q_us_ap]; repeat rw [if_neg (by omega)])) (by intros; first | rfl | (simp only [q_us_ap]; repeat rw [if_neg (by omega)])), RL_fr (rc_L hR) (by intros; first | rfl | (simp only [q_us_ap]; repeat rw [if_neg (by omega)])) (by intros; first | rfl | (simp only [q_us_ap]; repeat rw [if_neg (by omega)])) (by intros; first | rfl | (simp only [q_us_ap]; repeat rw [if_neg (by omega)])), RV_fr (rc_V hR) (by intros; first | rfl | (simp only [q_us_ap]; repeat rw [if_neg (by omega)])) (by intros; first | rfl | (simp only [q_us_ap]; repeat rw [if_neg (by omega)])) (by intros; first | rfl | (simp only [q_us_ap]; repeat rw [if_neg (by omega)])) (by intros; first | rfl | (simp only [q_us_ap]; repeat rw [if_neg (by omega)])) (by intros; first | rfl | (simp only [q_us_ap]; repeat rw [if_neg (by omega)])) (by intros; first | rfl | (simp only [q_us_ap]; repeat rw [if_neg (by omega)])) (by intros; first | rfl | (simp only [q_us_ap]; repeat rw [if_neg (by omega)])) (by intros; first | rfl | (simp only [q_us_ap]; repeat rw [if_neg (by omega)])) (by intros; first | rfl | (simp only [q_us_ap]; repeat rw [if_neg (by omega)])) (by intros; first | rfl | (simp only [q_us_ap]; repeat rw [if_neg (by omega)])), RK_fr (rc_K hR) (by first | exact Int.le_refl _ | (simp only [q_us_ap, Int.reduceEq, false_and, and_false, if_false]; omega)) (by intros; first | rfl | (simp only [q_us_ap]; repeat rw [if_neg (by omega)])) (by intros; first | rfl | (simp only [q_us_ap]; repeat rw [if_neg (by omega)])) (by intros; first | rfl | (simp only [q_us_ap]; repeat rw [if_neg (by omega)])) (by intros; first | rfl | (simp only [q_us_ap]; repeat rw [if_neg (by omega)])), RH_fr (rc_H hR) (by intros; first | rfl | (simp only [q_us_ap]; repeat rw [if_neg (by omega)])) (by intros; first | rfl | (simp only [q_us_ap]; repeat rw [if_neg (by omega)])) (by intros; first | rfl | (simp only [q_us_ap]; repeat rw [if_neg (by omega)])) (by intros; first | rfl | (simp only [q_us_ap]; repeat rw [if_neg (by omega)])), RO_fr (rc_O hR) (by intros; first | rfl | (simp only [q_us_ap]; repeat rw [if_neg (by omega)])) (by intros; first | rfl | (simp only [q_us_ap]; repeat rw [if_neg (by omega)])) (by intros; first | rfl | (simp only [q_us_ap]; repeat rw [if_neg (by omega)])) (by intros; first | rfl | (simp only [q_us_ap]; repeat rw [if_neg (by omega)])) (by intros; first | rfl | (simp only [q_us_ap]; repeat rw [if_neg (by omega)])) (by intros; first | rfl | (simp only [q_us_ap]; repeat rw [if_neg (by omega)])) (by intros; first | rfl | (simp only [q_us_ap]; repeat rw [if_neg (by omega)])), RT_fr (rc_T hR) (by intros; first | rfl | (simp only [q_us_ap]; repeat rw [if_neg (by omega)])) (by intros; first | rfl | (simp only [q_us_ap]; repeat rw [if_neg (by omega)])) (by intros; first | rfl | (simp only [q_us_ap]; repeat rw [if_neg (by omega)])) (by intros; first | rfl | (simp only [q_us_ap]; repeat rw [if_neg (by omega)])) (by intros; first | rfl | (simp only [q_us_ap]; repeat rw [if_neg (by omega)])) (by intros; first | rfl | (simp only [q_us_ap]; repeat rw [if_neg (by omega)])) (by intros; first | rfl | (simp only [q_us_ap]; repeat rw [if_neg (by omega)])) (by intros; first | rfl | (simp only [q_us_ap]; repeat rw [if_neg (by omega)])), RE_fr (rc_E hR) (by intros; first | rfl | (simp only [q_us_ap]; repeat rw [if_neg (by omega)])) (by intros; first | rfl | (simp only [q_us_ap]; repeat rw [if_neg (by omega)])) (by intros; first | rfl | (simp only [q_us_ap]; repeat rw [if_neg (by omega)])) (by intros; first | rfl | (simp only [q_us_ap]; repeat rw [if_neg (by omega)])) (by intros; first | rfl | (simp only [q_us_ap]; repeat rw [if_neg (by omega)])) (by intros; first | rfl | (simp only [q_us_ap]; repeat rw [if_neg (by omega)])) (by intros; first | rfl | (simp only [q_us_ap]; repeat rw [if_neg (by omega)])), CC_fr (rc_C hR) (by intros; first | rfl | (simp only [q_us_ap]; repeat rw [if_neg (by omega)]))⟩
  have e : q_us (amF M p c k) 50 39 ((seF M p c n).2 50 39) = (seF M p c n).2 := by
    unfold amF
    rw [h]
    funext t j
    simp only [q_us_ap]
    by_cases e : t = 50 ∧ j = 39
    · rw [if_pos e, e.1, e.2]
    · rw [if_neg e, if_neg e]
  rw [e] at r1
  exact rc_eq r1 (fun t j h1 _ _ => (seF_cg (A := cutS M c) (B := M) (fun t j g => cutS_o g) p c n).2 t j h1)
