/-- the draft -/
theorem inv_draft {M : q_S} {k : Int} (h : INV M k) (n : Int) : INV (draftF M n).2 (k + 1) := by
  unfold draftF
  split
  · exact inv_thr h (by decide)
  · split
    · exact inv_thr h (by decide)
    next h1 h2 =>
      have hd := (draft_more (n := n) h.2.2.1.1 h2 (Decidable.of_not_not h1)).1
      have hv := vcode_rg hd
      generalize (if M 50 0 = 0 then 10 else 10 * M 50 0) + n = z at hd hv
      show INV (q_us (thr M 0) 50 0 z) (k + 1)
      have fo : ∀ t j : Int, ¬ (t = 50 ∧ (j = 0 ∨ j = 41)) → q_us (thr M 0) 50 0 z t j = M t j := fun t j g => (us_nn (by omega)).trans (us_nn (by omega))
      exact ⟨(h.1.thr (z := 0) (by decide)).up ⟨hv.1, hv.2⟩, h.2.1.of (fun _ => rfl) (fun _ => rfl) rfl, mi_draft (mi_thr h.2.2.1 0) hd, ki_o h.2.2.2.1 (fun t j g => fo t j (by omega)), nb_up (nb_o h.2.2.2.2 (fun p => fo 8 p (by omega)) (fun j g => fo 50 j (by omega)))⟩
/-- after an edit -/
theorem nb_edits {M : q_S} {k : Int} (hW : WR M) (h : NB M k) {p : Int} (hp : 0 ≤ p ∧ p < 48) : NB (editsF M p) (k + 1) := by
  have g := nq_notes M hp hW
  have s := fun j a b => editsF_s (M := M) (p := p) (j := j) a b
  have s16 := s 16 (by decide) (by decide)
  have s36 := s 36 (by decide) (by decide)
  have s9 := s 9 (by decide) (by decide)
  have s37 := s 37 (by decide) (by decide)
  have s38 := s 38 (by decide) (by decide)
  have s39 := s 39 (by decide) (by decide)
  have e : nqF (editsF M p) = nqF M ∧ editsF M p 50 13 ≤ M 50 13 + 1 := by
    unfold editsF
    split
    · refine ⟨g, ?_⟩
      rw [notesF_x M p 50 13 (by decide) (by decide)]; omega
    · refine ⟨nq_o (fun q => (us_nn (by omega)).trans ((us_nn (by omega)).trans (us_nn (by omega)))) ((us_nn (by omega)).trans ((us_nn (by omega)).trans (us_nn (by omega)))), ?_⟩
      rw [us_eq]; omega
  unfold NB at h ⊢
  rw [s16, s36, s9, s37, s38, s39, e.1]
  omega
theorem nb_10 {M : q_S} {k : Int} (h : NB M k) (hk : k < 512) : M 50 10 ≤ 24624 ∧ M 50 13 ≤ 511 ∧ M 50 9 ≤ 511 := by
  have := nq_le M
  unfold NB at h
  omega
/-- a copy is edited: S is the state before the edit is told -/
theorem inv_edits {M S : q_S} {k : Int} (h : INV M k) (hk : k < 512) {p : Int} (hp : 0 ≤ p ∧ p < 48) (hW : WR S) (hI : MI S) (hS : ∀ t j : Int, ¬ ((2 ≤ t ∧ t ≤ 4) ∧ j = p ∨ t = 50 ∧ (j = 0 ∨ j = 41)) → S t j = M t j) (h2 : ¬ S 2 p = 1) : INV (editsF S p) (k + 1) := by
  have hN : NB S k := nb_o h.2.2.2.2 (fun q => hS 8 q (by omega)) (fun j g => hS 50 j (by omega))
  have g := nb_10 hN hk
  refine ⟨wr_edits hW hp (by omega) (by omega), ?_, mi_edits hI hW p, ?_, nb_edits hW hN hp⟩
  · exact h.2.1.of (fun j => (editsF_o (by decide) (by decide) (by decide) (by decide)).trans (hS 31 j (by omega))) (fun j => (editsF_o (by decide) (by decide) (by decide) (by decide)).trans (hS 35 j (by omega))) ((editsF_s (by decide) (by decide)).trans (hS 50 34 (by omega)))
  · refine ki_copy h.2.2.2.1 (p := p) (fun t j g gj => (editsF_o (by omega) (by omega) (by omega) (by omega)).trans (hS t j (by omega))) (fun t j g => (editsF_o (by omega) (by omega) (by omega) (by omega)).trans (hS t j (by omega))) (fun e => absurd ?_ h2)
    rw [editsF_o (by omega) (by omega) (by omega) (by omega)] at e
    exact e
theorem inv_write {M : q_S} {k : Int} (h : INV M k) (hk : k < 512) (m f : Int) : INV (writeF M m f).2 (k + 1) := by
  unfold writeF
  split
  · exact inv_thr h (by decide)
  · split
    · exact inv_thr h (by decide)
    next e1 e2 =>
      unfold inMF at e1
      have hp : 0 ≤ 16 * m + f ∧ 16 * m + f < 48 := by omega
      have hI := h.2.2.1
      have gi := hI.2.1 _ hp.1 hp.2
      have f50 := rs_0 h.1
      have g4 : 0 ≤ M 4 (16 * m + f) ∧ M 4 (16 * m + f) ≤ 3 := h.1 4 _
      generalize ho : (if M 2 (16 * m + f) = 0 then f % 4 else M 4 (16 * m + f)) = fo at *
      have hfo : 0 ≤ fo ∧ fo ≤ 3 := by rw [← ho]; split <;> omega
      have w1 : WR (q_us (wrA M (16 * m + f) fo) 50 0 0) := WR.up (WR.up (WR.up (WR.up (h.1.thr ⟨by decide, by decide⟩) ⟨(show (0 : Int) ≤ fo by omega), (show fo ≤ (3 : Int) by omega)⟩) ⟨(show (0 : Int) ≤ 2 by decide), (show (2 : Int) ≤ 2 by decide)⟩) ⟨(show (0 : Int) ≤ M 50 0 by omega), (show M 50 0 ≤ (9999999999999 : Int) by omega)⟩) ⟨(show (0 : Int) ≤ 0 by decide), (show (0 : Int) ≤ 9999999999999 by decide)⟩
      have n2 : wrA M (16 * m + f) fo 2 (16 * m + f) = 2 := (us_nn (by omega)).trans us_eq
      have n3 : wrA M (16 * m + f) fo 3 (16 * m + f) = M 50 0 := us_eq
      have i1 : MI (q_us (wrA M (16 * m + f) fo) 50 0 0) := mi_draft (mi_copy (M' := wrA M (16 * m + f) fo) hI hp (fun t j x => (us_nn (by omega)).trans ((us_nn (by omega)).trans ((us_nn (by omega)).trans (us_nn (by omega))))) (by rw [n3]; exact hI.1) (by rw [n2, n3]; constructor <;> intro x <;> omega) gi.2.2.1 gi.2.2.2.1) vcode_0
      exact inv_edits h hk hp w1 i1 (fun t j g => (us_nn (by omega)).trans ((us_nn (by omega)).trans ((us_nn (by omega)).trans ((us_nn (by omega)).trans (us_nn (by omega)))))) (by rw [show (q_us (wrA M (16 * m + f) fo) 50 0 0) 2 (16 * m + f) = 2 from n2]; decide)
theorem inv_move {M : q_S} {k : Int} (h : INV M k) (hk : k < 512) (m f d : Int) : INV (moveF M m f d).2 (k + 1) := by
  unfold moveF
  split
  · exact inv_thr h (by decide)
  · split
    · exact inv_thr h (by decide)
    next e1 e2 =>
      unfold inMF at e1
      have hp : 0 ≤ 16 * m + f ∧ 16 * m + f < 48 := by omega
      have hI := h.2.2.1
      have gi := hI.2.1 _ hp.1 hp.2
      refine inv_edits h hk hp (WR.up (h.1.thr ⟨by decide, by decide⟩) ⟨(show (0 : Int) ≤ d by omega), (show d ≤ (3 : Int) by omega)⟩) (mi_copy hI hp (fun t j x => (us_nn (by omega)).trans (us_nn (by omega))) gi.1 gi.2.1 gi.2.2.1 gi.2.2.2.1) (fun t j g => (us_nn (by omega)).trans (us_nn (by omega))) ?_
      rw [show (q_us (thr M 0) 4 (16 * m + f) d) 2 (16 * m + f) = M 2 (16 * m + f) from rfl]
      omega
theorem inv_erase {M : q_S} {k : Int} (h : INV M k) (hk : k < 512) (m f : Int) : INV (eraseF M m f).2 (k + 1) := by
  unfold eraseF
  split
  · exact inv_thr h (by decide)
  · split
    · exact inv_thr h (by decide)
    next e1 e2 =>
      unfold inMF at e1
      have hp : 0 ≤ 16 * m + f ∧ 16 * m + f < 48 := by omega
      refine inv_edits h hk hp ((h.1.thr (z := 0) (by decide)).leaves _) (mi_leaves (mi_thr h.2.2.1 0) hp) (fun t j g => ?_) ?_
      · unfold leavesF
        exact (us_nn (by omega)).trans ((us_nn (by omega)).trans ((us_nn (by omega)).trans (us_nn (by omega))))
      · rw [show leavesF (thr M 0) (16 * m + f) 2 (16 * m + f) = 0 from (us_nn (by omega)).trans ((us_nn (by omega)).trans us_eq)]
        decide
/-- a scan -/
theorem inv_scan {M : q_S} {k : Int} (h : INV M k) (hk : k < 512) (m : Int) : INV (scanF M m).2 (k + 1) := by
  unfold scanF
  split
  · exact inv_thr h (by decide)
  next e1 =>
    have g := nb_10 h.2.2.2.2 hk
    have hT : WR (thr M 0) := h.1.thr (by decide)
    have hh : ∀ n : Nat, n ≤ 16 → WR (scF (thr M 0) m n).2 ∧ MI (scF (thr M 0) m n).2 ∧ nqF (scF (thr M 0) m n).2 = nqF M := by
      intro n
      induction n with
      | zero => intro _; exact ⟨hT, mi_thr h.2.2.1 0, nq_o (fun _ => rfl) rfl⟩
      | succ n ih =>
        intro hn
        have i := ih (by omega)
        have w := (sc_inc (thr M 0) m (by omega) hT (by show M 50 10 ≤ _; omega) (n + 1) hn).2.1
        refine ⟨w, ?_⟩
        simp only [scF]
        split
        · exact ⟨mi_note i.2.1 _, (nq_notes _ (by omega) i.1).trans i.2.2⟩
        · exact i.2
    have i := hh 16 (by omega)
    have fo : ∀ t j : Int, ¬ (t = 8 ∨ t = 50 ∧ j = 10 ∨ t = 50 ∧ j = 41) → (scF (thr M 0) m 16).2 t j = M t j := fun t j g => (scF_o (by omega) (by omega) 16).trans (us_nn (by omega))
    refine ⟨i.1, h.2.1.of (fun j => fo 31 j (by omega)) (fun j => fo 35 j (by omega)) (fo 50 34 (by omega)), i.2.1, ki_o h.2.2.2.1 (fun t j g => fo t j (by omega)), ?_⟩
    have hN := h.2.2.2.2
    unfold NB at hN ⊢
    rw [i.2.2, fo 50 36 (by omega), fo 50 16 (by omega), fo 50 9 (by omega), fo 50 13 (by omega), fo 50 37 (by omega), fo 50 38 (by omega), fo 50 39 (by omega)]
    omega
/-- hours pass -/
theorem evF_sp (M : q_S) : ∀ n : Nat, (∀ j, (evF M n) 15 j = if (0 ≤ j ∧ j < n) ∧ M 15 j = M 50 1 then 0 else M 15 j) ∧ ∀ t j : Int, ¬ (t = 8 ∨ t = 15 ∨ t = 50 ∧ j = 10) → evF M n t j = M t j := by
  intro n
  induction n with
  | zero => exact ⟨fun j => (if_neg (by omega)).symm, fun _ _ _ => rfl⟩
  | succ n ih =>
    have e1 := ih.2 50 1 (by decide)
    have en : evF M n 15 n = M 15 n := (ih.1 n).trans (if_neg (by omega))
    simp only [evF]
    rw [e1, en]
    split
    next e =>
      refine ⟨fun j => ?_, fun t j g => ?_⟩
      · by_cases ej : j = n
        · rw [ej, us_eq, if_pos ⟨by omega, e⟩]
        · rw [us_nn (fun g => ej g.2), notesF_x _ _ 15 j (by decide) (by omega), ih.1 j]
          by_cases c : (0 ≤ j ∧ j < (n : Int)) ∧ M 15 j = M 50 1
          · rw [if_pos c, if_pos ⟨by omega, c.2⟩]
          · rw [if_neg c, if_neg (fun x => c ⟨by omega, x.2⟩)]
      · rw [us_nn (by omega), notesF_x _ _ t j (by omega) (by omega)]
        exact ih.2 t j g
    next e =>
      refine ⟨fun j => ?_, ih.2⟩
      rw [ih.1 j]
      by_cases c : (0 ≤ j ∧ j < (n : Int)) ∧ M 15 j = M 50 1
      · rw [if_pos c, if_pos ⟨by omega, c.2⟩]
      · rw [if_neg c, if_neg (fun x => c ⟨⟨x.1.1, by
          have : ¬ j = n := fun g => e (by rw [← g]; exact x.2)
          omega⟩, x.2⟩)]
theorem ev_nq {M : q_S} (hW : WR M) : ∀ n : Nat, M 50 10 + n ≤ 1000000 → nqF (evF M n) = nqF M := by
  intro n
  induction n with
  | zero => intro _; rfl
  | succ n ih =>
    intro hn
    have i := ih (by omega)
    have w := (wr_evF hW n (by omega)).1
    have g14 : 0 ≤ evF M n 14 n ∧ evF M n 14 n ≤ 47 := w 14 _
    simp only [evF]
    split
    · exact ((nq_o (fun q => us_nn (by omega)) (us_nn (by omega))).trans (nq_notes _ (by omega) w)).trans i
    · exact i
theorem ev_8 (M : q_S) (h : ∀ p, 0 ≤ p → p < 48 → M 8 p ≤ M 50 10) : ∀ n : Nat, ∀ p, 0 ≤ p → p < 48 → evF M n 8 p ≤ evF M n 50 10 := by
  intro n
  induction n with
  | zero => exact h
  | succ n ih =>
    intro p a b
    have i := ih p a b
    simp only [evF]
    split
    · rw [us_nn (by omega), us_nn (by omega), notesF_8, notesF_n]
      split
      next e => rw [if_pos e.2]; exact Int.le_refl _
      · split <;> omega
    · exact i
theorem tick_ok {S : q_S} (hW : WR S) (hI : MI S) (h10 : S 50 10 + S 50 13 ≤ 1000000) (h1 : S 50 1 < 2000) :
    WR (evF (q_us S 50 1 (S 50 1 + 1)) (S 50 13).toNat) ∧ MI (evF (q_us S 50 1 (S 50 1 + 1)) (S 50 13).toNat) ∧ nqF (evF (q_us S 50 1 (S 50 1 + 1)) (S 50 13).toNat) = nqF S := by
  have g13 := rs_13 hW
  have g1 := rs_1 hW
  have hn : ((S 50 13).toNat : Int) = S 50 13 := Int.toNat_of_nonneg g13.1
  have w : WR (q_us S 50 1 (S 50 1 + 1)) := hW.up ⟨(show (0 : Int) ≤ S 50 1 + 1 by omega), (show S 50 1 + 1 ≤ (2000 : Int) by omega)⟩
  have e10 : q_us S 50 1 (S 50 1 + 1) 50 10 = S 50 10 := us_nn (by decide)
  have sp := evF_sp (q_us S 50 1 (S 50 1 + 1)) (S 50 13).toNat
  have e1 : evF (q_us S 50 1 (S 50 1 + 1)) (S 50 13).toNat 50 1 = S 50 1 + 1 := (sp.2 50 1 (by decide)).trans us_eq
  refine ⟨(wr_evF w _ (by rw [e10, hn]; omega)).1, ?_, (ev_nq w _ (by rw [e10, hn]; omega)).trans (nq_o (fun _ => rfl) rfl)⟩
  refine mi_eq hI (fun t j g => (sp.2 t j (by omega)).trans (us_nn (by omega))) (by rw [e1]; omega) (ev_8 (q_us S 50 1 (S 50 1 + 1)) (fun p a b => (hI.2.1 p a b).2.2.2.2) _) (fun q a b => ?_)
  rw [sp.2 50 13 (by decide), us_nn (by decide)] at b
  rw [sp.1, e1, us_eq, show q_us S 50 1 (S 50 1 + 1) 15 q = S 15 q from rfl]
  have g := hI.2.2.2 q a b
  split
  · exact Or.inl rfl
  next e => exact g.elim Or.inl (fun g => Or.inr (by
      have : ¬ S 15 q = S 50 1 + 1 := fun x => e ⟨⟨a, by omega⟩, x⟩
      omega))
theorem inv_pass {M : q_S} {k : Int} (h : INV M k) (hk : k < 512) (x : Int) : INV (passF M x).2 (k + 1) := by
  unfold passF
  split
  · exact inv_thr h (by decide)
  · split
    · exact inv_thr h (by decide)
    next e1 e2 =>
      have g := nb_10 h.2.2.2.2 hk
      have g1 := rs_1 h.1
      have gq : nqF M ≤ 24624 := by have := h.2.2.2.2; unfold NB at this; omega
      have hh : ∀ n : Nat, n ≤ x.toNat → WR (psF (thr M 0) n) ∧ MI (psF (thr M 0) n) ∧ nqF (psF (thr M 0) n) = nqF M ∧ psF (thr M 0) n 50 1 = M 50 1 + n := by
        intro n
        induction n with
        | zero => intro _; exact ⟨h.1.thr (by decide), mi_thr h.2.2.1 0, nq_o (fun _ => rfl) rfl, by show M 50 1 = M 50 1 + ((0 : Nat) : Int); omega⟩
        | succ n ih =>
          intro hn
          have i := ih (by omega)
          have e13 : psF (thr M 0) n 50 13 = M 50 13 := (psF_o (by decide) n).trans rfl
          have q := nq_le (psF (thr M 0) n)
          have t := tick_ok i.1 i.2.1 (by rw [e13]; omega) (by rw [i.2.2.2]; omega)
          rw [e13] at t
          have es : psF (thr M 0) (n + 1) = evF (q_us (psF (thr M 0) n) 50 1 (psF (thr M 0) n 50 1 + 1)) (M 50 13).toNat := rfl
          rw [es]
          refine ⟨t.1, t.2.1, t.2.2.trans i.2.2.1, ?_⟩
          rw [(evF_sp _ _).2 50 1 (by decide), us_eq, i.2.2.2]; omega
      have i := hh x.toNat (Nat.le_refl _)
      have fo : ∀ t j : Int, ¬ (t = 8 ∨ t = 15 ∨ t = 50 ∧ j = 10 ∨ t = 50 ∧ j = 1 ∨ t = 50 ∧ j = 41) → psF (thr M 0) x.toNat t j = M t j := fun t j g => (psF_o (by omega) _).trans (us_nn (by omega))
      refine ⟨i.1, h.2.1.of (fun j => fo 31 j (by omega)) (fun j => fo 35 j (by omega)) (fo 50 34 (by omega)), i.2.1, ki_o h.2.2.2.1 (fun t j g => fo t j (by omega)), ?_⟩
      have hN := h.2.2.2.2
      show NB (psF (thr M 0) x.toNat) (k + 1)
      unfold NB at hN ⊢
      rw [i.2.2.1, fo 50 36 (by omega), fo 50 16 (by omega), fo 50 9 (by omega), fo 50 13 (by omega), fo 50 37 (by omega), fo 50 38 (by omega), fo 50 39 (by omega)]
      omega
