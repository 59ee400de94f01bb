/-- opening -/
theorem mr_inv {m needs : Int} (hm : 0 ≤ m ∧ m ≤ 2) : ∀ (r : Nat) (S : q_S), MI S → KI S → MI (mrF m needs r S) ∧ KI (mrF m needs r S) := by
  intro r
  induction r with
  | zero => exact fun S a b => ⟨a, b⟩
  | succ r ih =>
    intro S a b
    simp only [mrF]
    split
    · have g := goF_sp S m 16
      by_cases e : goF S m 16 = -1
      · rw [e]
        refine ih _ ⟨a.1, fun p h1 h2 => ?_, fun v h1 h2 => ?_, a.2.2.2⟩ (fun p h1 h2 h3 => ?_)
        · have g := a.2.1 p h1 h2
          exact ⟨g.1, by rw [show q_us S 2 (-1) 1 2 p = S 2 p from us_nn (by omega)]; exact g.2.1, g.2.2⟩
        · rw [lat_eq (M' := q_us S 2 (-1) 1) (M := S) (fun _ => rfl) (fun _ => rfl) rfl]; exact a.2.2.1 v h1 h2
        · have e2 : q_us S 2 (-1) 1 2 p = S 2 p := us_nn (by omega)
          rw [e2] at h3
          have g := b p h1 h2 h3
          unfold isAsP at g ⊢
          rw [e2]; exact g
      · have g2 := g.resolve_left (fun x => e x.1)
        have hp : 0 ≤ goF S m 16 ∧ goF S m 16 < 48 := by omega
        have c := g2.2.2
        generalize goF S m 16 = p at *
        refine ih _ (mi_state a hp (by rw [c.1]; decide) (by decide)) ?_
        refine ki_copy b (p := p) (fun t j g gj => us_nn (fun x => gj x.2)) (fun t j g => us_nn (by omega)) (fun _ => ?_)
        have d := Decidable.of_not_not c.2.1
        unfold isAsP at d ⊢
        rw [us_eq]
        rw [c.1] at d
        exact d.elim (fun x => absurd x.2 (by decide)) (fun x => Or.inr ⟨x.1, by decide, x.2.2⟩)
    · exact ⟨a, b⟩
theorem inv_openE {M S : q_S} {k : Int} (h : INV M k) (hk : k < 512) (hW : WR S) (hI : MI S) (hK : KI S) {p : Int} (hp : 0 ≤ p ∧ p < 48) (h2 : ¬ S 2 p = 0) (hS : ∀ t j : Int, ¬ (t = 2 ∨ t = 40 ∨ t = 50 ∧ j = 41) → S t j = M t j) : INV (openE S p).2 (k + 1) := by
  have e9 : S 50 9 = M 50 9 := hS 50 9 (by omega)
  have g9 := rs_9 hW
  have b9 := (nb_10 h.2.2.2.2 hk).2.2
  unfold openE
  show INV (q_us (q_us (q_us S 2 p 2) 50 9 (S 50 9 + 1)) 7 p (S 50 9 + 1)) (k + 1)
  have fo : ∀ t j : Int, ¬ (t = 2 ∨ t = 7 ∨ t = 40 ∨ t = 50 ∧ (j = 9 ∨ j = 41)) → q_us (q_us (q_us S 2 p 2) 50 9 (S 50 9 + 1)) 7 p (S 50 9 + 1) t j = M t j := fun t j g => (us_nn (by omega)).trans ((us_nn (by omega)).trans ((us_nn (by omega)).trans (hS t j (by omega))))
  refine ⟨((hW.up ⟨(show (0 : Int) ≤ 2 by decide), (show (2 : Int) ≤ 2 by decide)⟩).up ⟨(show (0 : Int) ≤ S 50 9 + 1 by omega), (show S 50 9 + 1 ≤ (1000 : Int) by omega)⟩).up ⟨(show (0 : Int) ≤ S 50 9 + 1 by omega), (show S 50 9 + 1 ≤ (1000 : Int) by omega)⟩, h.2.1.of (fun j => fo 31 j (by omega)) (fun j => fo 35 j (by omega)) (fo 50 34 (by omega)), mi_o (mi_50 (j := 9) (z := S 50 9 + 1) (mi_state hI hp h2 (by decide : ¬ (2 : Int) = 0)) (by omega)) (fun t j g => us_nn (by omega)), ?_, ?_⟩
  · refine ki_copy hK (p := p) (fun t j g gj => (us_nn (by omega)).trans ((us_nn (by omega)).trans (us_nn (by omega)))) (fun t j g => (us_nn (by omega)).trans ((us_nn (by omega)).trans (us_nn (by omega)))) (fun e => absurd ?_ (show ¬ (2 : Int) = 1 by decide))
    rw [us_nn (by omega), us_nn (by omega), us_eq] at e
    exact e
  · have hN := h.2.2.2.2
    have n9 : q_us (q_us (q_us S 2 p 2) 50 9 (S 50 9 + 1)) 7 p (S 50 9 + 1) 50 9 = M 50 9 + 1 := by rw [us_nn (by omega), us_eq, e9]
    unfold NB at hN ⊢
    rw [n9, nq_o (B := M) (fun p => fo 8 p (by omega)) (fo 50 10 (by omega)), fo 50 36 (by omega), fo 50 16 (by omega), fo 50 13 (by omega), fo 50 37 (by omega), fo 50 38 (by omega), fo 50 39 (by omega)]
    omega
theorem mr_nz {m needs p : Int} : ∀ (r : Nat) (S : q_S), ¬ S 2 p = 0 → ¬ mrF m needs r S 2 p = 0 := by
  intro r
  induction r with
  | zero => exact fun S a => a
  | succ r ih =>
    intro S a
    simp only [mrF]
    split
    · refine ih _ ?_
      rw [show q_us S 2 (goF S m 16) 1 2 p = if p = goF S m 16 then 1 else S 2 p by simp only [q_us_ap, true_and]]
      split
      · decide
      · exact a
    · exact a
theorem inv_room2 {M Y : q_S} {k : Int} (h : INV M k) (hk : k < 512) {m n p : Int} (hm : 0 ≤ m ∧ m ≤ 2) (hp : 0 ≤ p ∧ p < 48) (hW : WR Y) (hI : MI Y) (hK : KI Y) (h2 : ¬ Y 2 p = 0) (hS : ∀ t j : Int, ¬ (t = 40 ∨ t = 50 ∧ j = 41) → Y t j = M t j) :
    INV (if (makesRoomF Y m n).1 = 0 then ((0 : Int), thr (makesRoomF Y m n).2 2) else openE (thr (makesRoomF Y m n).2 0) p).2 (k + 1) := by
  unfold makesRoomF
  by_cases e : Y 12 m - takF Y m 16 + cgL Y m 16 < n
  · rw [if_pos e, if_pos rfl]
    exact inv_o h (hW.thr (z := 2) (by decide)) (fun t j g => (us_nn (by omega)).trans (hS t j (by omega)))
  · rw [if_neg e, if_neg (show ¬ (1 : Int) = 0 by decide)]
    have w : WR (mrF m n 17 Y) := mrF_ok 17 hW
    have i := mr_inv (needs := n) hm 17 Y hI hK
    have nz := mr_nz (m := m) (needs := n) 17 Y h2
    have o : ∀ t j : Int, t ≠ 2 → mrF m n 17 Y t j = Y t j := fun t j g => mrF_o g 17 Y
    show INV (openE (thr (mrF m n 17 Y) 0) p).2 (k + 1)
    generalize mrF m n 17 Y = Z at *
    exact inv_openE h hk (w.thr (by decide)) (mi_thr i.1 0) (ki_o i.2 (fun t j g => us_nn (by omega))) hp (fun g => nz ((Eq.symm (us_nn (S := Z) (t := 50) (j := 41) (z := 0) (t2 := 2) (j2 := p) (by omega))).trans g)) (fun t j g => (us_nn (by omega)).trans ((o t j (by omega)).trans (hS t j (by omega))))
theorem inv_open {M : q_S} {k : Int} (h : INV M k) (hk : k < 512) (m f : Int) : INV (openF M m f).2 (k + 1) := by
  unfold openF
  split
  · exact inv_thr h (by decide)
  · split
    · exact inv_thr h (by decide)
    next e1 e2 =>
      unfold inMF at e1
      have hp : 0 ≤ 16 * m + f ∧ 16 * m + f < 48 := by omega
      have hT : WR (thr M 0) := h.1.thr (by decide)
      have hI := mi_thr h.2.2.1 0
      have hK : KI (thr M 0) := ki_o h.2.2.2.1 (fun t j g => us_nn (by omega))
      split
      next e3 =>
        generalize 16 * m + f = p at *
        unfold openK
        by_cases c1 : ¬ (1 ≤ rightF (thr M 0) (thr M 0 4 p) m)
        · rw [if_pos c1]
          exact inv_o h (hT.thr (z := 2) (by decide)) (fun t j g => (us_nn (by omega)).trans (us_nn (by omega)))
        · rw [if_neg c1]
          have fx : ∀ t j : Int, t ≠ 40 → (isWholeF (thr M 0) (thr M 0 3 p)).2 t j = thr M 0 t j := fun t j g => by unfold isWholeF; exact cutS_o g
          have wx : WR (isWholeF (thr M 0) (thr M 0 3 p)).2 := wr_isWhole hT _
          have ix : MI (isWholeF (thr M 0) (thr M 0 3 p)).2 := mi_o hI (fun t j g => fx t j (by omega))
          have kx : KI (isWholeF (thr M 0) (thr M 0 3 p)).2 := ki_o hK (fun t j g => fx t j (by omega))
          by_cases c2 : (isWholeF (thr M 0) (thr M 0 3 p)).1 = 0
          · rw [if_pos c2]
            generalize (isWholeF (thr M 0) (thr M 0 3 p)).2 = Y at *
            exact inv_o h (wx.thr (z := 2) (by decide)) (fun t j g => (us_nn (by omega)).trans ((fx t j (by omega)).trans (us_nn (by omega))))
          · rw [if_neg c2]
            generalize (isWholeF (thr M 0) (thr M 0 3 p)).2 = Y at *
            exact inv_room2 h hk (by omega) hp wx ix kx (by rw [fx 2 p (by decide)]; exact e2) (fun t j g => (fx t j (by omega)).trans (us_nn (by omega)))
      next e3 =>
        exact inv_openE h hk hT hI hK hp e2 (fun t j g => us_nn (by omega))
