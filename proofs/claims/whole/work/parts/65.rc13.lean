/-! a copy falls back, catches up; both are kept -/
def fbC (M C : q_S) (p v : Int) : q_S := q_us (puC C p (if vfo M v = -1 then 0 else 1) (vfo M v) (vco M v)) (200 + p) 3 v
theorem fbC_o {M C : q_S} {p v t j : Int} (h : t ≠ 200 + p) : fbC M C p v t j = C t j := by
  unfold fbC
  simp only [q_us_ap, puC_ap]
  rw [if_neg (fun g => h g.1), if_neg (fun g => h g.1), if_neg (fun g => h g.1), if_neg (fun g => h g.1)]
theorem fbC_p {M C : q_S} {p v : Int} : fbC M C p v (200 + p) 0 = (if vfo M v = -1 then 0 else 1) ∧ fbC M C p v (200 + p) 1 = vfo M v ∧ fbC M C p v (200 + p) 2 = 1000000 + 3 * vco M v ∧ fbC M C p v (200 + p) 3 = v ∧ fbC M C p v (200 + p) 4 = C (200 + p) 4 ∧ fbC M C p v (200 + p) 5 = C (200 + p) 5 := by
  unfold fbC
  simp only [q_us_ap, puC_ap, Int.reduceEq, and_false, and_self, if_false, if_true]
theorem bec_o {M : q_S} {p v t j : Int} (h : ¬ ((2 ≤ t ∧ t ≤ 5) ∧ j = p)) : becomesF M p v t j = M t j := by
  unfold becomesF leavesF
  split <;> (simp only [q_us_ap]; rw [if_neg (by omega), if_neg (by omega), if_neg (by omega), if_neg (by omega)])
theorem bec_p {M : q_S} (hW : WR M) {p v : Int} : becomesF M p v 5 p = v + 1 ∧ becomesF M p v 2 p = (if vfo M v = -1 then 0 else 1) ∧ becomesF M p v 3 p = vco M v ∧ cfo (becomesF M p v) p = vfo M v := by
  have hin := vfo_isIn hW v
  have e21 : 0 ≤ M 21 v := (hW 21 v).1
  have e20 : 0 ≤ M 20 v := (hW 20 v).1
  by_cases e : isInP M v
  · have ev := vfo_in e
    have e1 : ¬ v = -1 := e.1
    have b2 : becomesF M p v = q_us (q_us (q_us (q_us M 5 p (v + 1)) 2 p 1) 3 p (M 21 v)) 4 p (M 20 v) := by unfold becomesF; rw [if_pos e]
    unfold cfo vco
    rw [b2, ev, if_neg e1, if_neg (by omega)]
    simp only [q_us_ap, Int.reduceEq, false_and, and_self, if_false, if_true]
  · have ev := hin.mpr e
    have b2 : becomesF M p v = leavesF (q_us M 5 p (v + 1)) p := by unfold becomesF; rw [if_neg e]
    have ec : vco M v = 0 := by
      unfold vco
      by_cases e1 : v = -1
      · rw [if_pos e1]
      · rw [if_neg e1]; exact Classical.byContradiction (fun g => e ⟨e1, by omega⟩)
    unfold cfo leavesF at *
    rw [b2, ev, ec]
    simp only [q_us_ap, Int.reduceEq, false_and, and_self, if_false, if_true]
theorem rc_becomes {M C : q_S} (h : RC M C) (hW : WR M) {p v : Int} (hp : 0 ≤ p ∧ p < 48) : RC (becomesF M p v) (fbC M C p v) := by
  have g := rc_P h p hp.1 hp.2
  have b := bec_p hW (p := p) (v := v)
  have c := fbC_p (M := M) (C := C) (p := p) (v := v)
  refine rc_copy h (rs_16 hW).1 hp (fun t j x => bec_o (by omega)) (fun t j x => fbC_o x) ?_ ?_ ?_ ?_ ?_ ?_
  · rw [c.1, b.2.1]
  · rw [c.2.1, b.2.2.2]
  · rw [c.2.2.1, b.2.2.1]
  · rw [c.2.2.2.1, b.1]; omega
  · rw [c.2.2.2.2.1, bec_o (by omega)]; exact g.2.2.2.2.1
  · rw [c.2.2.2.2.2, bec_o (by omega)]; exact g.2.2.2.2.2
theorem mi_becomes {M : q_S} (h : MI M) (hW : WR M) {p v : Int} (hp : 0 ≤ p ∧ p < 48) (hv : -1 ≤ v ∧ v < M 50 16) (hf : 0 ≤ v → M 17 v = p % 16) : MI (becomesF M p v) := by
  have b := bec_p hW (p := p) (v := v)
  have hin := vfo_isIn hW v
  have vc := vco_ok h hv
  refine mi_copy h hp (fun t j x => bec_o (by omega)) (by rw [b.2.2.1]; exact vc) ?_ (by rw [b.1]; omega) (fun x => ?_)
  · rw [b.2.1, b.2.2.1]
    unfold vfo vco
    by_cases e1 : v = -1
    · rw [if_pos (Or.inl e1), if_pos rfl, if_pos e1]
    · rw [if_neg e1]
      have e20 : 0 ≤ M 20 v := (hW 20 v).1
      by_cases e2 : M 21 v = 0
      · rw [if_pos (Or.inr e2), if_pos rfl, e2]
      · rw [if_neg (show ¬ (v = -1 ∨ M 21 v = 0) from fun g => g.elim e1 e2), if_neg (show ¬ M 20 v = -1 by omega)]; omega
  · rw [b.1] at x ⊢
    rw [show v + 1 - 1 = v by omega]; exact hf (by omega)
theorem lat_17 (M : q_S) (f : Int) : ∀ n : Nat, ¬ latF M f n = -1 → M 17 (latF M f n) = f ∧ M 22 (latF M f n) = 0 := by
  intro n
  induction n with
  | zero => intro h; exact absurd rfl h
  | succ n ih =>
    intro h
    simp only [latF] at h ⊢
    by_cases e : M 17 n = f ∧ M 22 n = 0
    · rw [if_pos e]; exact e
    · rw [if_neg e] at h ⊢; exact ih h
/-- catching up -/
def cuF (M : q_S) (p v : Int) : q_S := if isInP M v ∧ ¬ M 2 p = 0 ∧ M 3 p = M 21 v then q_us (q_us M 5 p (v + 1)) 4 p (M 20 v) else becomesF M p v
def cuC (M C : q_S) (p v : Int) : q_S := if M 3 p = vco M v then q_us (fbC M C p v) (200 + p) 0 (M 2 p) else fbC M C p v
theorem rc_catch {M C : q_S} (h : RC M C) (hW : WR M) (hI : MI M) {p v : Int} (hp : 0 ≤ p ∧ p < 48) : RC (cuF M p v) (cuC M C p v) := by
  have g := rc_P h p hp.1 hp.2
  have gi := hI.2.1 p hp.1 hp.2
  have b := bec_p hW (p := p) (v := v)
  have c := fbC_p (M := M) (C := C) (p := p) (v := v)
  have e21 : 0 ≤ M 21 v := (hW 21 v).1
  have hin := vfo_isIn hW v
  by_cases e : isInP M v ∧ ¬ M 2 p = 0 ∧ M 3 p = M 21 v
  · have ev : vco M v = M 21 v := by unfold vco; rw [if_neg e.1.1]
    have x1 : cuF M p v = q_us (q_us M 5 p (v + 1)) 4 p (M 20 v) := by unfold cuF; rw [if_pos e]
    have x2 : cuC M C p v = q_us (fbC M C p v) (200 + p) 0 (M 2 p) := by unfold cuC; rw [if_pos (by rw [ev]; exact e.2.2)]
    rw [x1, x2]
    have d : ∀ j, j ≠ 0 → q_us (fbC M C p v) (200 + p) 0 (M 2 p) (200 + p) j = fbC M C p v (200 + p) j := fun j x => if_neg (fun y => x y.2)
    refine rc_copy h (rs_16 hW).1 hp (fun t j x => ?_) (fun t j x => ?_) ?_ ?_ ?_ ?_ ?_ ?_
    · simp only [q_us_ap]; rw [if_neg (by omega), if_neg (by omega)]
    · simp only [q_us_ap]; rw [if_neg (fun y => x y.1)]; exact fbC_o x
    · simp only [q_us_ap, Int.reduceEq, false_and, and_self, if_false, if_true]
    · rw [d _ (by decide), c.2.1, vfo_in e.1]
      unfold cfo
      simp only [q_us_ap, Int.reduceEq, false_and, and_self, if_false, if_true]
      rw [if_neg e.2.1]
    · rw [d _ (by decide), c.2.2.1, ev, ← e.2.2]; rfl
    · rw [d _ (by decide), c.2.2.2.1]
      simp only [q_us_ap, Int.reduceEq, false_and, and_self, if_false, if_true]; omega
    · rw [d _ (by decide), c.2.2.2.2.1]; exact g.2.2.2.2.1
    · rw [d _ (by decide), c.2.2.2.2.2]; exact g.2.2.2.2.2
  · have x1 : cuF M p v = becomesF M p v := by unfold cuF; rw [if_neg e]
    rw [x1]
    by_cases e3 : M 3 p = vco M v
    · have x2 : cuC M C p v = fbC M C p v := by
        unfold cuC; rw [if_pos e3]
        have s0 : fbC M C p v (200 + p) 0 = M 2 p := by
          rw [c.1]
          by_cases ein : isInP M v
          · have ev : vco M v = M 21 v := by unfold vco; rw [if_neg ein.1]
            have e2 : M 2 p = 0 := Classical.byContradiction (fun z => e ⟨ein, z, by rw [← ev]; exact e3⟩)
            have := gi.2.1.mp e2
            have := ein.2
            omega
          · rw [if_pos (hin.mpr ein)]
            have ec : vco M v = 0 := by
              unfold vco
              by_cases e1 : v = -1
              · rw [if_pos e1]
              · rw [if_neg e1]; exact Classical.byContradiction (fun z => ein ⟨e1, by omega⟩)
            exact (gi.2.1.mpr (by rw [e3, ec])).symm
        funext t j
        simp only [q_us_ap]
        by_cases e5 : t = 200 + p ∧ j = 0
        · rw [if_pos e5, e5.1, e5.2, s0]
        · rw [if_neg e5]
      rw [x2]; exact rc_becomes h hW hp
    · have x2 : cuC M C p v = fbC M C p v := by unfold cuC; rw [if_neg e3]
      rw [x2]; exact rc_becomes h hW hp
theorem cu_o {M : q_S} {p v t j : Int} (h : ¬ ((2 ≤ t ∧ t ≤ 5) ∧ j = p)) : cuF M p v t j = M t j := by
  unfold cuF
  split
  · simp only [q_us_ap]; rw [if_neg (by omega), if_neg (by omega)]
  · exact bec_o h
theorem mi_catch {M : q_S} (h : MI M) (hW : WR M) {p v : Int} (hp : 0 ≤ p ∧ p < 48) (hv : -1 ≤ v ∧ v < M 50 16) (hf : 0 ≤ v → M 17 v = p % 16) : MI (cuF M p v) := by
  unfold cuF
  split
  next e =>
    have g := h.2.1 p hp.1 hp.2
    have e5 : q_us (q_us M 5 p (v + 1)) 4 p (M 20 v) 5 p = v + 1 := by simp only [q_us_ap, Int.reduceEq, false_and, and_self, if_false, if_true]
    refine mi_copy h hp (fun t j x => by simp only [q_us_ap]; rw [if_neg (by omega), if_neg (by omega)]) g.1 g.2.1 (by rw [e5]; omega) (fun x => ?_)
    rw [e5, show v + 1 - 1 = v by omega]; exact hf (by have := e.1.1; omega)
  next e => exact mi_becomes h hW hp hv hf
theorem wr_catch {M : q_S} (hW : WR M) {p v : Int} (hv : -1 ≤ v ∧ v < 120) : WR (cuF M p v) := by
  unfold cuF
  split
  · have g20 : 0 ≤ M 20 v ∧ M 20 v ≤ 3 := hW 20 v
    exact WR.up (WR.up hW ⟨(show (0 : Int) ≤ v + 1 by omega), (show v + 1 ≤ (120 : Int) by omega)⟩) g20
  · exact hW.becomes hv
/-- keeping both -/
theorem keeps_eq {M : q_S} {p fr : Int} (hp : 0 ≤ p ∧ p < 48) (h16 : 0 ≤ M 50 16) :
    q_us (q_us (q_us (q_us (makesF M fr (p / 16) (M 3 p) (M 4 p)) 5 (p / 16 * 16 + fr) (M 50 16 + 1)) 2 (p / 16 * 16 + fr) 2) 3 (p / 16 * 16 + fr) (M 3 p)) 4 (p / 16 * 16 + fr) (M 4 p) =
    ackF (q_us (q_us (q_us M 4 (16 * (p / 16) + fr) (M 4 p)) 2 (16 * (p / 16) + fr) 2) 3 (16 * (p / 16) + fr) (M 3 p)) (p / 16) fr := by
  rw [show p / 16 * 16 + fr = 16 * (p / 16) + fr by omega]
  unfold ackF makesF
  generalize 16 * (p / 16) + fr = q
  funext t j
  simp only [q_us_ap, Int.reduceEq, false_and, and_self, if_false, if_true]
  by_cases e4 : t = 4
  · subst e4; simp only [Int.reduceEq, false_and, true_and, if_false]
  · by_cases e3 : t = 3
    · subst e3; simp only [Int.reduceEq, false_and, true_and, if_false]
    · by_cases e2 : t = 2
      · subst e2; simp only [Int.reduceEq, false_and, true_and, if_false]
      · by_cases e5 : t = 5
        · subst e5; simp only [Int.reduceEq, false_and, true_and, if_false]
        · simp only [e2, e3, e4, e5, false_and, if_false]
