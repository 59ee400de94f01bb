/-! the second house follows; room is made: pure -/
theorem rc_foll {M C : q_S} (hR : RC M C) (h16 : 0 ≤ M 50 16) {z : Int} : RC (q_us M 50 36 z) (q_us C 100 13 z) :=
  ⟨(by have h9 := hR.1; unfold RS at h9 ⊢; simp only [q_us_ap, Int.reduceEq, Int.reduceNeg, false_and, and_false, and_self, true_and, and_true, if_true, if_false]; omega), RD_fr (rc_D hR) (by intros; first | rfl | (simp only [q_us_ap]; repeat rw [if_neg (by omega)])) (by intros; first | rfl | (simp only [q_us_ap]; repeat rw [if_neg (by omega)])) (by intros; first | rfl | (simp only [q_us_ap]; repeat rw [if_neg (by omega)])), RP_fr (rc_P hR) (by intros; first | rfl | (simp only [q_us_ap]; repeat rw [if_neg (by omega)])) (by intros; first | rfl | (simp only [q_us_ap]; repeat rw [if_neg (by omega)])) (by intros; first | rfl | (simp only [q_us_ap]; repeat rw [if_neg (by omega)])) (by intros; first | rfl | (simp only [q_us_ap]; repeat rw [if_neg (by omega)])) (by intros; first | rfl | (simp only [q_us_ap]; repeat rw [if_neg (by omega)])) (by intros; first | rfl | (simp only [q_us_ap]; repeat rw [if_neg (by omega)])) (by intros; first | rfl | (simp only [q_us_ap]; repeat rw [if_neg (by omega)])), RM_fr (rc_M hR) (by intros; first | rfl | (simp only [q_us_ap]; repeat rw [if_neg (by omega)])) (by intros; first | rfl | (simp only [q_us_ap]; repeat rw [if_neg (by omega)])) (by intros; first | rfl | (simp only [q_us_ap]; repeat rw [if_neg (by omega)])), RL_fr (rc_L hR) (by intros; first | rfl | (simp only [q_us_ap]; repeat rw [if_neg (by omega)])) (by intros; first | rfl | (simp only [q_us_ap]; repeat rw [if_neg (by omega)])) (by intros; first | rfl | (simp only [q_us_ap]; repeat rw [if_neg (by omega)])), RV_fr (rc_V hR) (by intros; first | rfl | (simp only [q_us_ap]; repeat rw [if_neg (by omega)])) (by intros; first | rfl | (simp only [q_us_ap]; repeat rw [if_neg (by omega)])) (by intros; first | rfl | (simp only [q_us_ap]; repeat rw [if_neg (by omega)])) (by intros; first | rfl | (simp only [q_us_ap]; repeat rw [if_neg (by omega)])) (by intros; first | rfl | (simp only [q_us_ap]; repeat rw [if_neg (by omega)])) (by intros; first | rfl | (simp only [q_us_ap]; repeat rw [if_neg (by omega)])) (by intros; first | rfl | (simp only [q_us_ap]; repeat rw [if_neg (by omega)])) (by intros; first | rfl | (simp only [q_us_ap]; repeat rw [if_neg (by omega)])) (by intros; first | rfl | (simp only [q_us_ap]; repeat rw [if_neg (by omega)])) (by intros; first | rfl | (simp only [q_us_ap]; repeat rw [if_neg (by omega)])), RK_fr (rc_K hR) (by first | exact Int.le_refl _ | (simp only [q_us_ap, Int.reduceEq, false_and, and_false, if_false]; omega)) (by intros; first | rfl | (simp only [q_us_ap]; repeat rw [if_neg (by omega)])) (by intros; first | rfl | (simp only [q_us_ap]; repeat rw [if_neg (by omega)])) (by intros; first | rfl | (simp only [q_us_ap]; repeat rw [if_neg (by omega)])) (by intros; first | rfl | (simp only [q_us_ap]; repeat rw [if_neg (by omega)])), RH_fr (rc_H hR) (by intros; first | rfl | (simp only [q_us_ap]; repeat rw [if_neg (by omega)])) (by intros; first | rfl | (simp only [q_us_ap]; repeat rw [if_neg (by omega)])) (by intros; first | rfl | (simp only [q_us_ap]; repeat rw [if_neg (by omega)])) (by intros; first | rfl | (simp only [q_us_ap]; repeat rw [if_neg (by omega)])), RO_fr (rc_O hR) (by intros; first | rfl | (simp only [q_us_ap]; repeat rw [if_neg (by omega)])) (by intros; first | rfl | (simp only [q_us_ap]; repeat rw [if_neg (by omega)])) (by intros; first | rfl | (simp only [q_us_ap]; repeat rw [if_neg (by omega)])) (by intros; first | rfl | (simp only [q_us_ap]; repeat rw [if_neg (by omega)])) (by intros; first | rfl | (simp only [q_us_ap]; repeat rw [if_neg (by omega)])) (by intros; first | rfl | (simp only [q_us_ap]; repeat rw [if_neg (by omega)])) (by intros; first | rfl | (simp only [q_us_ap]; repeat rw [if_neg (by omega)])), RT_fr (rc_T hR) (by intros; first | rfl | (simp only [q_us_ap]; repeat rw [if_neg (by omega)])) (by intros; first | rfl | (simp only [q_us_ap]; repeat rw [if_neg (by omega)])) (by intros; first | rfl | (simp only [q_us_ap]; repeat rw [if_neg (by omega)])) (by intros; first | rfl | (simp only [q_us_ap]; repeat rw [if_neg (by omega)])) (by intros; first | rfl | (simp only [q_us_ap]; repeat rw [if_neg (by omega)])) (by intros; first | rfl | (simp only [q_us_ap]; repeat rw [if_neg (by omega)])) (by intros; first | rfl | (simp only [q_us_ap]; repeat rw [if_neg (by omega)])) (by intros; first | rfl | (simp only [q_us_ap]; repeat rw [if_neg (by omega)])), RE_fr (rc_E hR) (by intros; first | rfl | (simp only [q_us_ap]; repeat rw [if_neg (by omega)])) (by intros; first | rfl | (simp only [q_us_ap]; repeat rw [if_neg (by omega)])) (by intros; first | rfl | (simp only [q_us_ap]; repeat rw [if_neg (by omega)])) (by intros; first | rfl | (simp only [q_us_ap]; repeat rw [if_neg (by omega)])) (by intros; first | rfl | (simp only [q_us_ap]; repeat rw [if_neg (by omega)])) (by intros; first | rfl | (simp only [q_us_ap]; repeat rw [if_neg (by omega)])) (by intros; first | rfl | (simp only [q_us_ap]; repeat rw [if_neg (by omega)])), CC_fr (rc_C hR) (by intros; first | rfl | (simp only [q_us_ap]; repeat rw [if_neg (by omega)]))⟩
theorem rc_foS {S C2 : q_S} (hR : RC (foT S) C2) (h16 : 0 ≤ S 50 16) : RC (foS S) (q_us C2 100 13 (S 50 36 + 1)) :=
  rc_eq (rc_foll hR (by rw [foT_o (by decide)]; exact h16) (z := S 50 36 + 1)) (fun t j h1 _ _ => foS_T h1)
theorem foS_50 {S : q_S} {j : Int} (h : j ≠ 36) : foS S 50 j = S 50 j := by
  rw [foS_T (by decide)]
  simp only [q_us_ap]
  rw [if_neg (fun g => h g.2), foT_o (by decide)]
theorem foS_36 (S : q_S) : foS S 50 36 = S 50 36 + 1 := by
  rw [foS_T (by decide)]
  exact if_pos ⟨rfl, rfl⟩
/-- a file is put away -/
theorem rc_away {M C : q_S} (hR : RC M C) (hW : WR M) {p : Int} (hp : 0 ≤ p ∧ p < 48) (h2 : M 2 p = 2) : RC (q_us M 2 p 1) (q_us C (200 + p) 0 1) := by
  have g := rc_P hR p hp.1 hp.2
  refine rc_copy hR (rs_16 hW).1 hp (fun t j x => if_neg (by omega)) (fun t j x => if_neg (fun y => x y.1)) ?_ ?_ ?_ ?_ ?_ ?_
  · simp only [q_us_ap, and_self, if_true]
  · rw [show q_us C (200 + p) 0 1 (200 + p) 1 = C (200 + p) 1 from if_neg (fun y => absurd y.2 (by decide)), g.2.1]
    unfold cfo
    simp only [q_us_ap, Int.reduceEq, false_and, and_self, if_false, if_true]
    rw [if_neg (by omega)]
  · rw [show q_us C (200 + p) 0 1 (200 + p) 2 = C (200 + p) 2 from if_neg (fun y => absurd y.2 (by decide))]; exact g.2.2.1
  · rw [show q_us C (200 + p) 0 1 (200 + p) 3 = C (200 + p) 3 from if_neg (fun y => absurd y.2 (by decide))]; exact g.2.2.2.1
  · rw [show q_us C (200 + p) 0 1 (200 + p) 4 = C (200 + p) 4 from if_neg (fun y => absurd y.2 (by decide))]; exact g.2.2.2.2.1
  · rw [show q_us C (200 + p) 0 1 (200 + p) 5 = C (200 + p) 5 from if_neg (fun y => absurd y.2 (by decide))]; exact g.2.2.2.2.2
theorem mi_state {M : q_S} (hI : MI M) {p z : Int} (hp : 0 ≤ p ∧ p < 48) (h2 : ¬ M 2 p = 0) (hz : ¬ z = 0) : MI (q_us M 2 p z) := by
  have g := hI.2.1 p hp.1 hp.2
  refine mi_copy hI hp (fun t j x => if_neg (by omega)) g.1 ?_ g.2.2.1 g.2.2.2.1
  have e : q_us M 2 p z 2 p = z := if_pos ⟨rfl, rfl⟩
  have e3 : q_us M 2 p z 3 p = M 3 p := rfl
  rw [e, e3]
  constructor
  · intro x; exact absurd x hz
  · intro x; exact absurd (g.2.1.mpr x) h2
theorem mrF_more {m needs : Int} : ∀ (r : Nat) (S : q_S), cgN S m 16 ≤ r → needs ≤ S 12 m - takF S m 16 + cgL S m 16 → ∀ d, mrF m needs (r + d) S = mrF m needs r S := by
  intro r
  induction r with
  | zero =>
    intro S h1 h2 d
    have h0 := cgN_rg S m 16
    have hz : ∀ n : Nat, cgN S m n ≤ 0 → cgL S m n = 0 := by
      intro n
      induction n with
      | zero => intro _; rfl
      | succ n ih =>
        intro h
        simp only [cgN, cgL] at h ⊢
        have := cgN_rg S m n
        by_cases e : canGoP S (16 * m + n)
        · rw [if_pos e] at h; omega
        · rw [if_neg e] at h ⊢; rw [ih (by omega)]; rfl
    have := hz 16 h1
    cases d with
    | zero => rfl
    | succ d =>
      show mrF m needs ((0 + d) + 1) S = S
      simp only [mrF]
      rw [if_neg (by omega)]
  | succ r ih =>
    intro S h1 h2 d
    rw [show r + 1 + d = (r + d) + 1 by omega]
    simp only [mrF]
    split
    next e =>
      rcases goF_sp S m 16 with ⟨g1, g2⟩ | ⟨g1, g2, g3⟩
      · omega
      · have gt := goes_tak g1 g3 16
        rw [if_pos (by show goF S m 16 < 16 * m + 16; omega), if_pos (by show goF S m 16 < 16 * m + 16; omega)] at gt
        exact ih _ (by rw [gt.2.2]; omega) (by rw [gt.1, gt.2.1]; show needs ≤ S 12 m - _ + _; omega) d
    next e => rfl
