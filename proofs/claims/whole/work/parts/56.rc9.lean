/-! notes, edits, time: the reference's own invariants and the relation -/
theorem mi_eq {M M' : q_S} (h : MI M) (hM : ∀ t j : Int, ¬ (t = 8 ∨ t = 14 ∨ t = 15 ∨ t = 50 ∧ j = 10 ∨ t = 50 ∧ j = 13 ∨ t = 50 ∧ j = 1 ∨ t = 50 ∧ j = 41 ∨ t = 40 ∨ t = 42) → M' t j = M t j) (h1 : M 50 1 ≤ M' 50 1)
    (h8 : ∀ p, 0 ≤ p → p < 48 → M' 8 p ≤ M' 50 10) (hE : ∀ k, 0 ≤ k → k < M' 50 13 → M' 15 k = 0 ∨ M' 50 1 < M' 15 k) : MI M' := by
  have fl : ∀ f, latestOf M' f = latestOf M f := lat_eq (fun j => hM 17 j (by omega)) (fun j => hM 22 j (by omega)) (hM 50 16 (by decide))
  refine ⟨by rw [hM 50 0 (by decide)]; exact h.1, fun p a b => ?_, fun v a b => ?_, hE⟩
  · rw [hM 50 16 (by decide), hM 17 _ (by omega), hM 3 p (by omega), hM 2 p (by omega), hM 5 p (by omega)]
    have g := h.2.1 p a b
    exact ⟨g.1, g.2.1, g.2.2.1, g.2.2.2.1, h8 p a b⟩
  · rw [hM 50 16 (by decide)] at b
    rw [hM 21 v (by omega), hM 18 v (by omega), hM 17 v (by omega), fl]
    have g := h.2.2.1 v a b
    exact ⟨g.1, by omega, g.2.2⟩
theorem mi_note {M : q_S} (h : MI M) (p : Int) : MI (notesF M p) := by
  refine mi_eq h (fun t j g => notesF_x M p t j (by omega) (by omega)) (by rw [notesF_x M p 50 1 (by decide) (by decide)]; exact Int.le_refl _) (fun p2 a b => ?_) (fun k a b => ?_)
  · rw [notesF_8, notesF_n]
    have g := (h.2.1 p2 a b).2.2.2.2
    by_cases e : p2 = p ∧ M 8 p = 0
    · rw [if_pos e, if_pos e.2]; exact Int.le_refl _
    · rw [if_neg e]; split <;> omega
  · rw [notesF_x M p 50 13 (by decide) (by decide)] at b
    rw [notesF_x M p 15 k (by decide) (by omega), notesF_x M p 50 1 (by decide) (by decide)]
    exact h.2.2.2 k a b
theorem mi_ev {M : q_S} (h : MI M) (p : Int) {d : Int} (hd : M 50 1 < d) : MI (evM M p d) := by
  have f : ∀ t j : Int, ¬ (t = 14 ∨ t = 15 ∨ t = 50 ∧ j = 13) → evM M p d t j = M t j := by
    intro t j g
    unfold evM
    simp only [q_us_ap]
    rw [if_neg (by omega), if_neg (by omega), if_neg (by omega)]
  refine mi_eq h (fun t j g => f t j (by omega)) (by rw [f 50 1 (by decide)]; exact Int.le_refl _) (fun p2 a b => ?_) (fun k a b => ?_)
  · rw [f 8 p2 (by omega), f 50 10 (by decide)]; exact (h.2.1 p2 a b).2.2.2.2
  · have e13 : evM M p d 50 13 = M 50 13 + 1 := by unfold evM; simp only [q_us_ap, and_self, if_true]
    have e15 : evM M p d 15 k = if k = M 50 13 then d else M 15 k := by unfold evM; simp only [q_us_ap, Int.reduceEq, false_and, true_and, if_false]
    rw [e13] at b
    rw [e15, f 50 1 (by decide)]
    by_cases e : k = M 50 13
    · rw [if_pos e]; exact Or.inr hd
    · rw [if_neg e]; exact h.2.2.2 k a (by omega)
theorem mi_edits {M : q_S} (h : MI M) (hW : WR M) (p : Int) : MI (editsF M p) := by
  unfold editsF
  have h11 : 0 ≤ M 11 (p / 16) := (hW 11 _).1
  split
  · exact mi_note h p
  · exact mi_ev h p (by omega)
theorem wr_edits {M : q_S} (h : WR M) {p : Int} (hp : 0 ≤ p ∧ p < 48) (h10 : M 50 10 ≤ 999999) (h13 : M 50 13 ≤ 999) : WR (editsF M p) := by
  have g1 := rs_1 h
  have g13 := rs_13 h
  have g11 : 0 ≤ M 11 (p / 16) ∧ M 11 (p / 16) ≤ 50 := h 11 _
  unfold editsF
  split
  · exact h.notes h10
  · exact WR.up (WR.up (WR.up h ⟨(show (0 : Int) ≤ p by omega), (show p ≤ (47 : Int) by omega)⟩) ⟨(show (0 : Int) ≤ M 50 1 + M 11 (p / 16) by omega), (show M 50 1 + M 11 (p / 16) ≤ (2100 : Int) by omega)⟩) ⟨(show (0 : Int) ≤ M 50 13 + 1 by omega), (show M 50 13 + 1 ≤ (1000 : Int) by omega)⟩
theorem mi_leaves {M : q_S} (h : MI M) {p : Int} (hp : 0 ≤ p ∧ p < 48) : MI (leavesF M p) := by
  have g := h.2.1 p hp.1 hp.2
  refine mi_copy h hp (fun t j x => ?_) ?_ ?_ ?_ ?_
  · unfold leavesF; simp only [q_us_ap]; rw [if_neg (by omega), if_neg (by omega), if_neg (by omega)]
  · have e : leavesF M p 3 p = 0 := by unfold leavesF; simp only [q_us_ap, Int.reduceEq, false_and, and_self, if_false, if_true]
    rw [e]; exact vcode_0
  · have e : leavesF M p 3 p = 0 := by unfold leavesF; simp only [q_us_ap, Int.reduceEq, false_and, and_self, if_false, if_true]
    have e2 : leavesF M p 2 p = 0 := by unfold leavesF; simp only [q_us_ap, Int.reduceEq, false_and, and_self, if_false, if_true]
    rw [e, e2]
  · have e : leavesF M p 5 p = M 5 p := rfl
    rw [e]; exact g.2.2.1
  · have e : leavesF M p 5 p = M 5 p := rfl
    rw [e]; exact g.2.2.2.1
theorem rc_leaves {M C : q_S} (h : RC M C) (h16 : 0 ≤ M 50 16) {p : Int} (hp : 0 ≤ p ∧ p < 48) : RC (leavesF M p) (puC C p 0 (-1) 0) := by
  have g := rc_P h p hp.1 hp.2
  have e2 : leavesF M p 2 p = 0 := by unfold leavesF; simp only [q_us_ap, Int.reduceEq, false_and, and_self, if_false, if_true]
  have e3 : leavesF M p 3 p = 0 := by unfold leavesF; simp only [q_us_ap, Int.reduceEq, false_and, and_self, if_false, if_true]
  refine rc_copy h h16 hp (fun t j x => ?_) (fun t j x => ?_) ?_ ?_ ?_ ?_ ?_ ?_
  · unfold leavesF; simp only [q_us_ap]; rw [if_neg (by omega), if_neg (by omega), if_neg (by omega)]
  · rw [puC_ap, if_neg (by omega), if_neg (by omega), if_neg (by omega)]
  · rw [e2, puC_ap, if_neg (by omega), if_neg (by omega), if_pos ⟨rfl, rfl⟩]
  · unfold cfo; rw [e2, if_pos rfl, puC_ap, if_neg (by omega), if_pos ⟨rfl, rfl⟩]
  · rw [e3, puC_ap, if_pos ⟨rfl, rfl⟩]
  · rw [puC_ap, if_neg (by omega), if_neg (by omega), if_neg (by omega)]; exact g.2.2.2.1
  · rw [puC_ap, if_neg (by omega), if_neg (by omega), if_neg (by omega)]; exact g.2.2.2.2.1
  · rw [puC_ap, if_neg (by omega), if_neg (by omega), if_neg (by omega)]; exact g.2.2.2.2.2
theorem psF_o {M : q_S} {t j : Int} (h : ¬ (t = 8 ∨ t = 15 ∨ t = 50 ∧ j = 10 ∨ t = 50 ∧ j = 1)) : ∀ k, psF M k t j = M t j := by
  intro k
  induction k with
  | zero => rfl
  | succ k ih =>
    simp only [psF]
    rw [evF_o (by omega) (by omega) (fun g => by omega)]
    simp only [q_us_ap]; rw [if_neg (by omega)]; exact ih
theorem rc_pass {M C C2 : q_S} (h : RC M C) (hW : WR M) (hI : MI M) (h10 : M 50 10 ≤ 900000) (hn6 : C 103 3 ≤ 512) {hh : Nat} {T : Int} (hT : T = M 50 1 + hh) {q : Nat} (hq : (q : Int) ≤ C 103 3) (hlo : ∀ i : Int, 0 ≤ i → i < q → C 123 i ≤ T) (hhi : (q : Int) = C 103 3 ∨ T < C 123 q)
    (e2 : C2 = dfC (nsP M (q_us C 100 9 T) q).2 q (C 103 3)) : RC (psF (thr M 0) hh) C2 ∧ MI (psF (thr M 0) hh) ∧ psF (thr M 0) hh 50 1 = T := by
  have h1 := rs_1 hW
  have h16 := rs_16 hW
  have hC1 : ∀ t j, ¬ (t = 100 ∧ j = 9) → q_us C 100 9 T t j = C t j := fun t j g => if_neg g
  have hE1 : RE M (q_us C 100 9 T) := RE_fr (rc_E h) (fun _ => rfl) (fun _ => rfl) rfl rfl (fun _ => rfl) (fun _ => rfl) (fun _ => rfl)
  have hL1 : RLn M (q_us C 100 9 T) := RL_fr (rc_L h) (fun _ => rfl) (fun t a b => hC1 t 2 (by omega)) (fun t j a b => hC1 t j (by omega))
  have hev : evP (q_us C 100 9 T) := fun i a b => by have := re_rg hE1 hW (i := i) ⟨a, b⟩; exact ⟨this.1, this.2.1⟩
  have c13 : q_us C 100 9 T 103 3 = C 103 3 := rfl
  obtain ⟨n1, n2, n3, n4, n5, n6⟩ := ns_ok hL1 hW (fun p a b => (hI.2.1 p a b).2.2.2.2) hev h10 q hq (by omega)
  obtain ⟨q2, ⟨k1, k2, k3⟩, p8, p10, p1, p15, pE⟩ := re_pass hE1 hI.2.2.2 h1.1 hh
  have qq : q2 = q := by
    have c123 : ∀ i, q_us C 100 9 T 123 i = C 123 i := fun i => rfl
    by_cases e : (q : Int) < q2
    · rcases hhi with g | g
      · rw [c13] at k1; omega
      · have := k2 q (by omega) e
        rw [c123] at this; omega
    · by_cases e3 : (q2 : Int) < q
      · have := k3 q2 (Int.le_refl _) (by rw [c13]; omega)
        have g := hlo q2 (by omega) e3
        rw [c123] at this; omega
      · omega
  subst qq
  have f : ∀ t j : Int, ¬ (t = 8 ∨ t = 15 ∨ t = 50 ∧ j = 10 ∨ t = 50 ∧ j = 1 ∨ t = 50 ∧ j = 41) → psF (thr M 0) hh t j = M t j := fun t j g => by
    rw [psF_o (by omega)]; simp only [q_us_ap]; rw [if_neg (by omega)]
  have c2o : ∀ t j : Int, ¬ (121 ≤ t ∧ t ≤ 123) → ¬ (t = 103 ∧ j = 3) → C2 t j = (nsP M (q_us C 100 9 T) q2).2 t j := by
    intro t j a b
    rw [e2]; unfold dfC
    simp only [q_us_ap]
    rw [if_neg b, drC_ap, if_neg (fun g => a g.1)]
  have g2 : ∀ t j : Int, ¬ ((121 ≤ t ∧ t ≤ 123) ∨ t = 103 ∧ j = 3 ∨ (150 ≤ t ∧ t ≤ 152) ∨ (110 ≤ t ∧ t ≤ 112) ∧ j = 2 ∨ t = 100 ∧ j = 9) → C2 t j = C t j := by
    intro t j a
    rw [c2o t j (by omega) (by omega), n6 t j (by omega) (by omega), hC1 t j (by omega)]
  have e9 : C2 100 9 = T := by rw [c2o 100 9 (by decide) (by decide), n6 100 9 (by decide) (by decide)]; exact if_pos ⟨rfl, rfl⟩
  have nE : RE (psF (thr M 0) hh) C2 := by
    refine pE C2 (fun t i a b d f => ?_) ?_
    · rw [e2]; unfold dfC
      simp only [q_us_ap]
      rw [if_neg (by omega), drC_ap, if_pos ⟨⟨a, b⟩, d, by rw [c13] at f; exact f⟩]
      exact n6 t _ (by omega) (by omega)
    · rw [e2]; unfold dfC
      simp only [q_us_ap, and_self, if_true]; rfl
  refine ⟨?_, ?_, by rw [p1, hT]⟩
  · have hL2 : RLn (psF (thr M 0) hh) C2 := RL_fr n1 p8 (fun t a b => c2o t 2 (by omega) (by omega)) (fun t j a b => c2o t j (by omega) (by omega))
    have hS := h.1
    refine ⟨?_, RD_fr (rc_D h) (f 50 0 (by decide)) (g2 100 8 (by decide)) (fun j => g2 101 j (by omega)), RP_fr (rc_P h) (fun j => f 2 j (by omega)) (fun j => f 3 j (by omega)) (fun j => f 4 j (by omega)) (fun j => f 5 j (by omega)) (fun j => f 6 j (by omega)) (fun j => f 7 j (by omega)) (fun t j a b => g2 t j (by omega)),
      RM_fr (rc_M h) (fun j => f 11 j (by omega)) (fun j => f 12 j (by omega)) (fun t j a b d => g2 t j (by omega)), hL2, RV_fr (rc_V h) (f 50 16 (by decide)) (fun j => f 17 j (by omega)) (fun j => f 18 j (by omega)) (fun j => f 19 j (by omega)) (fun j => f 20 j (by omega)) (fun j => f 21 j (by omega)) (fun j => f 22 j (by omega)) (fun j => g2 125 j (by omega)) (fun j => g2 124 j (by omega)) (fun t j a => g2 t j (by omega)),
      RK_fr (rc_K h) (by rw [p1]; omega) (fun j => f 23 j (by omega)) (fun j => f 24 j (by omega)) (fun j => g2 131 j (by omega)) (fun j => g2 132 j (by omega)), RH_fr (rc_H h) (fun j => f 25 j (by omega)) (fun j => f 26 j (by omega)) (fun j => g2 133 j (by omega)) (fun j => g2 134 j (by omega)),
      RO_fr (rc_O h) (fun j => f 28 j (by omega)) (fun j => f 29 j (by omega)) (fun j => f 30 j (by omega)) (f 50 27 (by decide)) (fun j => g2 135 j (by omega)) (fun j => g2 136 j (by omega)) (fun j => g2 137 j (by omega)),
      RT_fr (rc_T h) (fun j => f 31 j (by omega)) (fun j => f 32 j (by omega)) (fun j => f 33 j (by omega)) (g2 105 0 (by decide)) (fun j => g2 126 j (by omega)) (fun j => g2 127 j (by omega)) (fun j => g2 128 j (by omega)) (fun j => g2 129 j (by omega)), nE, CC_fr (rc_C h) (fun t j a => g2 t j (by omega))⟩
    unfold RS at hS ⊢
    rw [e9, p1, f 50 9 (by decide), f 50 37 (by decide), f 50 38 (by decide), f 50 36 (by decide), f 50 16 (by decide), f 50 27 (by decide), f 50 34 (by decide), f 50 39 (by decide), g2 100 10 (by decide), g2 100 11 (by decide), g2 100 12 (by decide), g2 100 13 (by decide), g2 104 0 (by decide), g2 108 0 (by decide), g2 105 1 (by decide), g2 105 2 (by decide)]
    exact ⟨hT, hS.2⟩
  · refine mi_eq hI (fun t j g => f t j (by omega)) (by rw [p1]; omega) (fun p a b => ?_) (fun k a b => ?_)
    · rw [p8, p10]; exact n3 p a b
    · rw [p1]
      rw [f 50 13 (by decide)] at b
      exact p15 k a b
