/-! the second house follows; room is made: pure -/
theorem rc_foll {M C : q_S} (hR : RC M C) (h16 : 0 ≤ M 50 16) {z : Int} : RC (q_us M 50 36 z) (q_us C 100 13 z) :=
  ⟨(by have h9 := hR.1; unfold RS at h9 ⊢; simp only [q_us_ap, Int.reduceEq, Int.reduceNeg, false_and, and_false, and_self, true_and, and_true, if_true, if_false]; omega), RD_fr (rc_D hR) (by intros; first | rfl | (simp only [q_us_ap]; repeat rw [if_neg (by omega)])) (by intros; first | rfl | (simp only [q_us_ap]; repeat rw [if_neg (by omega)])) (by intros; first | rfl | (simp only [q_us_ap]; repeat rw [if_neg (by omega)])), RP_fr (rc_P hR) (by intros; first | rfl | (simp only [q_us_ap]; repeat rw [if_neg (by omega)])) (by intros; first | rfl | (simp only [q_us_ap]; repeat rw [if_neg (by omega)])) (by intros; first | rfl | (simp only [q_us_ap]; repeat rw [if_neg (by omega)])) (by intros; first | rfl | (simp only [q_us_ap]; repeat rw [if_neg (by omega)])) (by intros; first | rfl | (simp only [q_us_ap]; repeat rw [if_neg (by omega)])) (by intros; first | rfl | (simp only [q_us_ap]; repeat rw [if_neg (by omega)])) (by intros; first | rfl | (simp only [q_us_ap]; repeat rw [if_neg (by omega)])), RM_fr (rc_M hR) (by intros; first | rfl | (simp only [q_us_ap]; repeat rw [if_neg (by omega)])) (by intros; first | rfl | (simp only [q_us_ap]; repeat rw [if_neg (by omega)])) (by intros; first | rfl | (simp only [q_us_ap]; repeat rw [if_neg (by omega)])), RL_fr (rc_L hR) (by intros; first | rfl | (simp only [q_us_ap]; repeat rw [if_neg (by omega)])) (by intros; first | rfl | (simp only [q_us_ap]; repeat rw [if_neg (by omega)])) (by intros; first | rfl | (simp only [q_us_ap]; repeat rw [if_neg (by omega)])), RV_fr (rc_V hR) (by intros; first | rfl | (simp only [q_us_ap]; repeat rw [if_neg (by omega)])) (by intros; first | rfl | (simp only [q_us_ap]; repeat rw [if_neg (by omega)])) (by intros; first | rfl | (simp only [q_us_ap]; repeat rw [if_neg (by omega)])) (by intros; first | rfl | (simp only [q_us_ap]; repeat rw [if_neg (by omega)])) (by intros; first | rfl | (simp only [q_us_ap]; repeat rw [if_neg (by omega)])) (by intros; first | rfl | (simp only [q_us_ap]; repeat rw [if_neg (by omega)])) (by intros; first | rfl | (simp only [q_us_ap]; repeat rw [if_neg (by omega)])) (by intros; first | rfl | (simp only [q_us_ap]; repeat rw [if_neg (by omega)])) (by intros; first | rfl | (simp only [q_us_ap]; repeat rw [if_neg (by omega)])) (by intros; first | rfl | (simp only [q_us_ap]; repeat rw [if_neg (by omega)])), RK_fr (rc_K hR) (by first | exact Int.le_refl _ | (simp only [q_us_ap, Int.reduceEq, false_and, and_false, if_false]; omega)) (by intros; first | rfl | (simp only [q_us_ap]; repeat rw [if_neg (by omega)])) (by intros; first | rfl | (simp only [q_us_ap]; repeat rw [if_neg (by omega)])) (by intros; first | rfl | (simp only [q_us_ap]; repeat rw [if_neg (by omega)])) (by intros; first | rfl | (simp only [q_us_ap]; repeat rw [if_neg (by omega)])), RH_fr (rc_H hR) (by intros; first | rfl | (simp only [q_us_ap]; repeat rw [if_neg (by omega)])) (by intros; first | rfl | (simp only [q_us_ap]; repeat rw [if_neg (by omega)])) (by intros; first | rfl | (simp only [q_us_ap]; repeat rw [if_neg (by omega)])) (by intros; first | rfl | (simp only [q_us_ap]; repeat rw [if_neg (by omega)])), RO_fr (rc_O hR) (by intros; first | rfl | (simp only [q_us_ap]; repeat rw [if_neg (by omega)])) (by intros; first | rfl | (simp only [q_us_ap]; repeat rw [if_neg (by omega)])) (by intros; first | rfl | (simp only [q_us_ap]; repeat rw [if_neg (by omega)])) (by intros; first | rfl | (simp only [q_us_ap]; repeat rw [if_neg (by omega)])) (by intros; first | rfl | (simp only [q_us_ap]; repeat rw [if_neg (by omega)])) (by intros; first | rfl | (simp only [q_us_ap]; repeat rw [if_neg (by omega)])) (by intros; first | rfl | (simp only [q_us_ap]; repeat rw [if_neg (by omega)])), RT_fr (rc_T hR) (by intros; first | rfl | (simp only [q_us_ap]; repeat rw [if_neg (by omega)])) (by intros; first | rfl | (simp only [q_us_ap]; repeat rw [if_neg (by omega)])) (by intros; first | rfl | (simp only [q_us_ap]; repeat rw [if_neg (by omega)])) (by intros; first | rfl | (simp only [q_us_ap]; repeat rw [if_neg (by omega)])) (by intros; first | rfl | (simp only [q_us_ap]; repeat rw [if_neg (by omega)])) (by intros; first | rfl | (simp only [q_us_ap]; repeat rw [if_neg (by omega)])) (by intros; first | rfl | (simp only [q_us_ap]; repeat rw [if_neg (by omega)])) (by intros; first | rfl | (simp only [q_us_ap]; repeat rw [if_neg (by omega)])), RE_fr (rc_E hR) (by intros; first | rfl | (simp only [q_us_ap]; repeat rw [if_neg (by omega)])) (by intros; first | rfl | (simp only [q_us_ap]; repeat rw [if_neg (by omega)])) (by intros; first | rfl | (simp only [q_us_ap]; repeat rw [if_neg (by omega)])) (by intros; first | rfl | (simp only [q_us_ap]; repeat rw [if_neg (by omega)])) (by intros; first | rfl | (simp only [q_us_ap]; repeat rw [if_neg (by omega)])) (by intros; first | rfl | (simp only [q_us_ap]; repeat rw [if_neg (by omega)])) (by intros; first | rfl | (simp only [q_us_ap]; repeat rw [if_neg (by omega)])), CC_fr (rc_C hR) (by intros; first | rfl | (simp only [q_us_ap]; repeat rw [if_neg (by omega)]))⟩
theorem rc_foS {S C2 : q_S} (hR : RC (foT S) C2) (h16 : 0 ≤ S 50 16) : RC (foS S) (q_us C2 100 13 (S 50 36 + 1)) :=
  rc_eq (rc_foll hR (by rw [foT_o (by decide)]; exact h16) (z := S 50 36 + 1)) (fun t j h1 _ _ => foS_T h1)
theorem foS_50 {S : q_S} {j : Int} (h : j ≠ 36) : foS S 50 j = S 50 j := by
  rw [foS_T (by decide)]
  simp only [q_us_ap]
  rw [if_neg (fun g => h g.2), foT_o (by decide)]
theorem foS_36 (S : q_S) : foS S 50 36 = S 50 36 + 1 := by
  rw [foS_T (by decide)]
  exact if_pos ⟨rfl, rfl⟩
/-- a file is put away -/
theorem rc_away {M C : q_S} (hR : RC M C) (hW : WR M) {p : Int} (hp : 0 ≤ p ∧ p < 48) (h2 : M 2 p = 2) : RC (q_us M 2 p 1) (q_us C (200 + p) 0 1) := by
  have g := rc_P hR p hp.1 hp.2
  refine rc_copy hR (rs_16 hW).1 hp (fun t j x => if_neg (by omega)) (fun t j x => if_neg (fun y => x y.1)) ?_ ?_ ?_ ?_ ?_ ?_
  · simp only [q_us_ap, and_self, if_true]
  · rw [show q_us C (200 + p) 0 1 (200 + p) 1 = C (200 + p) 1 from if_neg (fun y => absurd y.2 (by decide)), g.2.1]
    unfold cfo
    simp only [q_us_ap, Int.reduceEq, false_and, and_self, if_false, if_true]
    rw [if_neg (by omega)]
  · rw [show q_us C (200 + p) 0 1 (200 + p) 2 = C (200 + p) 2 from if_neg (fun y => absurd y.2 (by decide))]; exact g.2.2.1
  · rw [show q_us C (200 + p) 0 1 (200 + p) 3 = C (200 + p) 3 from if_neg (fun y => absurd y.2 (by decide))]; exact g.2.2.2.1
  · rw [show q_us C (200 + p) 0 1 (200 + p) 4 = C (200 + p) 4 from if_neg (fun y => absurd y.2 (by decide))]; exact g.2.2.2.2.1
  · rw [show q_us C (200 + p) 0 1 (200 + p) 5 = C (200 + p) 5 from if_neg (fun y => absurd y.2 (by decide))]; exact g.2.2.2.2.2
theorem mi_state {M : q_S} (hI : MI M) {p z : Int} (hp : 0 ≤ p ∧ p < 48) (h2 : ¬ M 2 p = 0) (hz : ¬ z = 0) : MI (q_us M 2 p z) := by
  have g := hI.2.1 p hp.1 hp.2
  refine mi_copy hI hp (fun t j x => if_neg (by omega)) g.1 ?_ g.2.2.1 g.2.2.2.1
  have e : q_us M 2 p z 2 p = z := if_pos ⟨rfl, rfl⟩
  have e3 : q_us M 2 p z 3 p = M 3 p := rfl
  rw [e, e3]
  constructor
  · intro x; exact absurd x hz
  · intro x; exact absurd (g.2.1.mpr x) h2
theorem mrF_more {m needs : Int} : ∀ (r : Nat) (S : q_S), cgN S m 16 ≤ r → needs ≤ S 12 m - takF S m 16 + cgL S m 16 → ∀ d, mrF m needs (r + d) S = mrF m needs r S := by
  intro r
  induction r with
  | zero =>
    intro S h1 h2 d
    have h0 := cgN_rg S m 16
    have hz : ∀ n : Nat, cgN S m n ≤ 0 → cgL S m n = 0 := by
      intro n
      induction n with
      | zero => intro _; rfl
      | succ n ih =>
        intro h
        simp only [cgN, cgL] at h ⊢
        have := cgN_rg S m n
        by_cases e : canGoP S (16 * m + n)
        · rw [if_pos e] at h; omega
        · rw [if_neg e] at h ⊢; rw [ih (by omega)]; rfl
    have := hz 16 h1
    cases d with
    | zero => rfl
    | succ d =>
      show mrF m needs ((0 + d) + 1) S = S
      simp only [mrF]
      rw [if_neg (by omega)]
  | succ r ih =>
    intro S h1 h2 d
    rw [show r + 1 + d = (r + d) + 1 by omega]
    simp only [mrF]
    split
    next e =>
      rcases goF_sp S m 16 with ⟨g1, g2⟩ | ⟨g1, g2, g3⟩
      · omega
      · have gt := goes_tak g1 g3 16
        rw [if_pos (by show goF S m 16 < 16 * m + 16; omega), if_pos (by show goF S m 16 < 16 * m + 16; omega)] at gt
        exact ih _ (by rw [gt.2.2]; omega) (by rw [gt.1, gt.2.1]; show needs ≤ S 12 m - _ + _; omega) d
    next e => rfl
theorem pl_ok {M : q_S} (hW : WR M) (hI : MI M) {m : Int} (hm : 0 ≤ m ∧ m ≤ 2) : ∀ k : Nat, k ≤ 16 → WR (plF M m k).2 ∧ MI (plF M m k).2 ∧ (plF M m k).2 50 16 = M 50 16 ∧ (plF M m k).2 50 41 = M 50 41 := by
  intro k
  induction k with
  | zero => intro _; exact ⟨hW, hI, rfl, rfl⟩
  | succ k ih =>
    intro hk
    have i := ih (by omega)
    have h16 := rs_16 i.1
    have hl := latestOf_rg i.1 k
    rw [pl_step]
    split
    · refine ⟨wr_catch i.1 ⟨by omega, by omega⟩, mi_catch i.2.1 i.1 ⟨by omega, by omega⟩ ⟨by omega, by omega⟩ (fun g => ?_), ?_, ?_⟩
      · have := lat_17 (plF M m k).2 k ((plF M m k).2 50 16).toNat (by unfold latestOf at g; omega)
        unfold latestOf
        rw [this.1]; omega
      · show cuF _ _ _ 50 16 = _
        rw [cu_o (by omega)]; exact i.2.2.1
      · show cuF _ _ _ 50 41 = _
        rw [cu_o (by omega)]; exact i.2.2.2
    · exact i
/-- what two memories that are alike off the cuts have in common -/
theorem canGo_cg {A B : q_S} (h : ∀ t j : Int, t ≠ 40 → A t j = B t j) (p : Int) : canGoP A p = canGoP B p := by
  unfold canGoP isOtherP isAsP
  simp only [h 2 _ (by decide), h 3 _ (by decide), h 4 _ (by decide), h 5 _ (by decide), h 6 _ (by decide), h 20 _ (by decide), h 21 _ (by decide)]
theorem tak_cg {A B : q_S} (h : ∀ t j : Int, t ≠ 40 → A t j = B t j) (m : Int) : ∀ n, takF A m n = takF B m n ∧ cgL A m n = cgL B m n ∧ goF A m n = goF B m n := by
  intro n
  induction n with
  | zero => exact ⟨rfl, rfl, rfl⟩
  | succ n ih => simp only [takF, cgL, goF, ih.1, ih.2.1, ih.2.2, canGo_cg h, h 2 _ (by decide : (2 : Int) ≠ 40), h 3 _ (by decide : (3 : Int) ≠ 40), h 7 _ (by decide : (7 : Int) ≠ 40), and_self]
theorem mr_cg {m needs : Int} : ∀ (r : Nat) {A B : q_S}, (∀ t j : Int, t ≠ 40 → A t j = B t j) → ∀ t j : Int, t ≠ 40 → mrF m needs r A t j = mrF m needs r B t j := by
  intro r
  induction r with
  | zero => intro A B h; exact h
  | succ r ih =>
    intro A B h t j ht
    have k := tak_cg h m 16
    simp only [mrF]
    rw [k.1, k.2.2, h 12 _ (by decide)]
    split
    · refine ih (fun t j ht => ?_) t j ht
      simp only [q_us_ap]
      rw [h t j ht]
    · exact h t j ht
theorem open_eq {N : q_S} (hW : WR N) {m p : Int} (h : 1 ≤ rightF N (N 4 p) m ∧ ¬ whI N (N 3 p) (ncut (N 3 p)).toNat = 0 ∧ ¬ N 12 m - takF N m 16 + cgL N m 16 < mlen (N 3 p)) :
    (openK N m p).1 = mlen (N 3 p) ∧ (openK N m p).2 50 41 = 0 ∧ ∀ t j : Int, t ≠ 40 → t ≠ 42 → ¬ (t = 50 ∧ j = 41) → (openK N m p).2 t j = (openE (mrF m (mlen (N 3 p)) 16 N) p).2 t j := by
  have k := tak_cg (A := cutS N (N 3 p)) (B := N) (fun t j g => cutS_o g) m 16
  have hmr : makesRoomF (cutS N (N 3 p)) m (mlen (N 3 p)) = (1, mrF m (mlen (N 3 p)) 17 (cutS N (N 3 p))) := by
    unfold makesRoomF
    rw [k.1, k.2.1, cutS_o (by decide), if_neg h.2.2]
  have ho : openK N m p = openE (thr (mrF m (mlen (N 3 p)) 17 (cutS N (N 3 p))) 0) p := by
    unfold openK isWholeF
    rw [if_neg (fun g => g h.1), if_neg h.2.1]
    simp only []
    rw [hmr, if_neg (show ¬ (1 : Int) = 0 by decide)]
  have a1 : ∀ t j : Int, t ≠ 40 → mrF m (mlen (N 3 p)) 17 (cutS N (N 3 p)) t j = mrF m (mlen (N 3 p)) 16 N t j := fun t j g => by
    rw [mr_cg 17 (A := cutS N (N 3 p)) (B := N) (fun t j g => cutS_o g) t j g, show (17 : Nat) = 16 + 1 from rfl, mrF_more 16 N (by have := cgN_rg N m 16; omega) (by omega) 1]
  have a3 : mrF m (mlen (N 3 p)) 17 (cutS N (N 3 p)) 3 p = N 3 p := by rw [mrF_o (by decide), cutS_o (by decide)]
  rw [ho]
  refine ⟨?_, ?_, fun t j h1 h2 h3 => ?_⟩
  · show mlen (thr (mrF m (mlen (N 3 p)) 17 (cutS N (N 3 p))) 0 3 p) = _
    rw [show thr (mrF m (mlen (N 3 p)) 17 (cutS N (N 3 p))) 0 3 p = mrF m (mlen (N 3 p)) 17 (cutS N (N 3 p)) 3 p from rfl, a3]
  · simp only [openE, q_us_ap, Int.reduceEq, false_and, and_false, and_self, if_false, if_true]
  · have e9 : thr (mrF m (mlen (N 3 p)) 17 (cutS N (N 3 p))) 0 50 9 = mrF m (mlen (N 3 p)) 16 N 50 9 := a1 50 9 (by decide)
    simp only [openE]
    rw [e9]
    simp only [q_us_ap]
    rw [if_neg h3, a1 t j h1]
theorem thr_41 {M : q_S} {z : Int} : thr M z 50 41 = z := if_pos ⟨rfl, rfl⟩
theorem open_bad {N : q_S} {m p : Int} (h : ¬ (1 ≤ rightF N (N 4 p) m ∧ ¬ whI N (N 3 p) (ncut (N 3 p)).toNat = 0 ∧ ¬ N 12 m - takF N m 16 + cgL N m 16 < mlen (N 3 p))) :
    (openK N m p).2 50 41 = 2 ∧ ∀ t j : Int, t ≠ 40 → t ≠ 42 → ¬ (t = 50 ∧ j = 41) → (openK N m p).2 t j = N t j := by
  have k := tak_cg (A := cutS N (N 3 p)) (B := N) (fun t j g => cutS_o g) m 16
  unfold openK isWholeF
  by_cases e1 : 1 ≤ rightF N (N 4 p) m
  · rw [if_neg (fun g => g e1)]
    by_cases e2 : whI N (N 3 p) (ncut (N 3 p)).toNat = 0
    · rw [if_pos e2]
      exact ⟨thr_41 (M := cutS N (N 3 p)) (z := 2), fun t j h1 h2 h3 => by simp only [q_us_ap]; rw [if_neg h3, cutS_o h1]⟩
    · rw [if_neg e2]
      have hmr : makesRoomF (cutS N (N 3 p)) m (mlen (N 3 p)) = (0, cutS N (N 3 p)) := by
        unfold makesRoomF
        rw [k.1, k.2.1, cutS_o (by decide), if_pos (Classical.byContradiction (fun g => h ⟨e1, e2, g⟩))]
      simp only []
      rw [hmr, if_pos rfl]
      exact ⟨thr_41 (M := cutS N (N 3 p)) (z := 2), fun t j h1 h2 h3 => by simp only [q_us_ap]; rw [if_neg h3, cutS_o h1]⟩
  · rw [if_pos e1]
    exact ⟨thr_41 (M := N) (z := 2), fun t j h1 h2 h3 => by simp only [q_us_ap]; rw [if_neg h3]⟩
theorem pbx2 {F : Int × q_S} {e1 e2 e3 : String} {K : q_K} {B M C : q_S} (hB : q_tb K (M 50 16)) (hR : RC M C) (h2 : ∀ t j : Int, t ≠ 40 → t ≠ 42 → ¬ (t = 50 ∧ j = 41) → F.2 t j = M t j) (h3 : F.2 50 41 = 2) : PB F e1 e2 e3 K B (Sum.inr e2) K B C :=
  ⟨⟨q_xt.rfl, by rw [h2 50 16 (by decide) (by decide) (by decide)]; exact hB⟩, rfl, rc_eq hR h2, Or.inr (Or.inr (Or.inl ⟨h3, rfl⟩))⟩
theorem pbmx {F : Int × q_S} {x : Int} {X : q_S} {e1 e2 e3 : String} {K K2 : q_K} {B C2 : q_S} (h1 : F.1 = x) (h2 : ∀ t j : Int, t ≠ 40 → t ≠ 42 → ¬ (t = 50 ∧ j = 41) → F.2 t j = X t j) (h3 : F.2 50 41 = 0) (hx : q_xt K K2) (hB : q_tb K2 (X 50 16)) (hR : RC X C2) : PB F e1 e2 e3 K B (Sum.inl (some (q_I x))) K2 B C2 :=
  ⟨⟨hx, by rw [h2 50 16 (by decide) (by decide) (by decide)]; exact hB⟩, rfl, rc_eq hR h2, Or.inl ⟨h3, by rw [h1]⟩⟩
theorem rc_o9 {M C : q_S} (hR : RC M C) (h16 : 0 ≤ M 50 16) {z : Int} : RC (q_us M 50 9 z) (q_us C 100 10 z) :=
  ⟨(by have h9 := hR.1; unfold RS at h9 ⊢; simp only [q_us_ap, Int.reduceEq, Int.reduceNeg, false_and, and_false, and_self, true_and, and_true, if_true, if_false]; omega), RD_fr (rc_D hR) (by intros; first | rfl | (simp only [q_us_ap]; repeat rw [if_neg (by omega)])) (by intros; first | rfl | (simp only [q_us_ap]; repeat rw [if_neg (by omega)])) (by intros; first | rfl | (simp only [q_us_ap]; repeat rw [if_neg (by omega)])), RP_fr (rc_P hR) (by intros; first | rfl | (simp only [q_us_ap]; repeat rw [if_neg (by omega)])) (by intros; first | rfl | (simp only [q_us_ap]; repeat rw [if_neg (by omega)])) (by intros; first | rfl | (simp only [q_us_ap]; repeat rw [if_neg (by omega)])) (by intros; first | rfl | (simp only [q_us_ap]; repeat rw [if_neg (by omega)])) (by intros; first | rfl | (simp only [q_us_ap]; repeat rw [if_neg (by omega)])) (by intros; first | rfl | (simp only [q_us_ap]; repeat rw [if_neg (by omega)])) (by intros; first | rfl | (simp only [q_us_ap]; repeat rw [if_neg (by omega)])), RM_fr (rc_M hR) (by intros; first | rfl | (simp only [q_us_ap]; repeat rw [if_neg (by omega)])) (by intros; first | rfl | (simp only [q_us_ap]; repeat rw [if_neg (by omega)])) (by intros; first | rfl | (simp only [q_us_ap]; repeat rw [if_neg (by omega)])), RL_fr (rc_L hR) (by intros; first | rfl | (simp only [q_us_ap]; repeat rw [if_neg (by omega)])) (by intros; first | rfl | (simp only [q_us_ap]; repeat rw [if_neg (by omega)])) (by intros; first | rfl | (simp only [q_us_ap]; repeat rw [if_neg (by omega)])), RV_fr (rc_V hR) (by intros; first | rfl | (simp only [q_us_ap]; repeat rw [if_neg (by omega)])) (by intros; first | rfl | (simp only [q_us_ap]; repeat rw [if_neg (by omega)])) (by intros; first | rfl | (simp only [q_us_ap]; repeat rw [if_neg (by omega)])) (by intros; first | rfl | (simp only [q_us_ap]; repeat rw [if_neg (by omega)])) (by intros; first | rfl | (simp only [q_us_ap]; repeat rw [if_neg (by omega)])) (by intros; first | rfl | (simp only [q_us_ap]; repeat rw [if_neg (by omega)])) (by intros; first | rfl | (simp only [q_us_ap]; repeat rw [if_neg (by omega)])) (by intros; first | rfl | (simp only [q_us_ap]; repeat rw [if_neg (by omega)])) (by intros; first | rfl | (simp only [q_us_ap]; repeat rw [if_neg (by omega)])) (by intros; first | rfl | (simp only [q_us_ap]; repeat rw [if_neg (by omega)])), RK_fr (rc_K hR) (by first | exact Int.le_refl _ | (simp only [q_us_ap, Int.reduceEq, false_and, and_false, if_false]; omega)) (by intros; first | rfl | (simp only [q_us_ap]; repeat rw [if_neg (by omega)])) (by intros; first | rfl | (simp only [q_us_ap]; repeat rw [if_neg (by omega)])) (by intros; first | rfl | (simp only [q_us_ap]; repeat rw [if_neg (by omega)])) (by intros; first | rfl | (simp only [q_us_ap]; repeat rw [if_neg (by omega)])), RH_fr (rc_H hR) (by intros; first | rfl | (simp only [q_us_ap]; repeat rw [if_neg (by omega)])) (by intros; first | rfl | (simp only [q_us_ap]; repeat rw [if_neg (by omega)])) (by intros; first | rfl | (simp only [q_us_ap]; repeat rw [if_neg (by omega)])) (by intros; first | rfl | (simp only [q_us_ap]; repeat rw [if_neg (by omega)])), RO_fr (rc_O hR) (by intros; first | rfl | (simp only [q_us_ap]; repeat rw [if_neg (by omega)])) (by intros; first | rfl | (simp only [q_us_ap]; repeat rw [if_neg (by omega)])) (by intros; first | rfl | (simp only [q_us_ap]; repeat rw [if_neg (by omega)])) (by intros; first | rfl | (simp only [q_us_ap]; repeat rw [if_neg (by omega)])) (by intros; first | rfl | (simp only [q_us_ap]; repeat rw [if_neg (by omega)])) (by intros; first | rfl | (simp only [q_us_ap]; repeat rw [if_neg (by omega)])) (by intros; first | rfl | (simp only [q_us_ap]; repeat rw [if_neg (by omega)])), RT_fr (rc_T hR) (by intros; first | rfl | (simp only [q_us_ap]; repeat rw [if_neg (by omega)])) (by intros; first | rfl | (simp only [q_us_ap]; repeat rw [if_neg (by omega)])) (by intros; first | rfl | (simp only [q_us_ap]; repeat rw [if_neg (by omega)])) (by intros; first | rfl | (simp only [q_us_ap]; repeat rw [if_neg (by omega)])) (by intros; first | rfl | (simp only [q_us_ap]; repeat rw [if_neg (by omega)])) (by intros; first | rfl | (simp only [q_us_ap]; repeat rw [if_neg (by omega)])) (by intros; first | rfl | (simp only [q_us_ap]; repeat rw [if_neg (by omega)])) (by intros; first | rfl | (simp only [q_us_ap]; repeat rw [if_neg (by omega)])), RE_fr (rc_E hR) (by intros; first | rfl | (simp only [q_us_ap]; repeat rw [if_neg (by omega)])) (by intros; first | rfl | (simp only [q_us_ap]; repeat rw [if_neg (by omega)])) (by intros; first | rfl | (simp only [q_us_ap]; repeat rw [if_neg (by omega)])) (by intros; first | rfl | (simp only [q_us_ap]; repeat rw [if_neg (by omega)])) (by intros; first | rfl | (simp only [q_us_ap]; repeat rw [if_neg (by omega)])) (by intros; first | rfl | (simp only [q_us_ap]; repeat rw [if_neg (by omega)])) (by intros; first | rfl | (simp only [q_us_ap]; repeat rw [if_neg (by omega)])), CC_fr (rc_C hR) (by intros; first | rfl | (simp only [q_us_ap]; repeat rw [if_neg (by omega)]))⟩
theorem rc_open {X C : q_S} (hR : RC X C) (hW : WR X) {p : Int} (hp : 0 ≤ p ∧ p < 48) (h2 : ¬ X 2 p = 0) : RC (openE X p).2 (q_us (q_us (q_us C (200 + p) 0 2) 100 10 (X 50 9 + 1)) (200 + p) 5 (X 50 9 + 1)) := by
  have h16 := rs_16 hW
  have g := rc_P hR p hp.1 hp.2
  simp only [openE]
  refine rc_copy (rc_o9 hR h16.1 (z := X 50 9 + 1)) h16.1 hp (fun t j x => ?_) (fun t j x => ?_) ?_ ?_ ?_ ?_ ?_ ?_
  · simp only [q_us_ap]
    rw [if_neg (by omega), show (if t = 2 ∧ j = p then 2 else X t j) = X t j from if_neg (by omega)]
  · simp only [q_us_ap]
    rw [if_neg (fun y => x y.1), show (if t = 200 + p ∧ j = 0 then 2 else C t j) = C t j from if_neg (fun y => x y.1)]
  · simp only [q_us_ap, Int.reduceEq, false_and, and_false, and_self, if_false, if_true]
  · unfold cfo
    simp only [q_us_ap, Int.reduceEq, false_and, and_false, and_self, if_false, if_true]
    rw [g.2.1]
    unfold cfo
    rw [if_neg h2]
  · simp only [q_us_ap, Int.reduceEq, false_and, and_false, and_self, if_false, if_true]
    exact g.2.2.1
  · simp only [q_us_ap, Int.reduceEq, false_and, and_false, and_self, if_false, if_true]
    exact g.2.2.2.1
  · simp only [q_us_ap, Int.reduceEq, false_and, and_false, and_self, if_false, if_true]
    exact g.2.2.2.2.1
  · simp only [q_us_ap, Int.reduceEq, false_and, and_false, and_self, if_false, if_true]
theorem mrF_2 {m n : Int} : ∀ (r : Nat) (S : q_S) (p : Int), ¬ S 2 p = 0 → ¬ mrF m n r S 2 p = 0 := by
  intro r
  induction r with
  | zero => intro S p h; exact h
  | succ r ih =>
    intro S p h
    simp only [mrF]
    split
    · refine ih _ p ?_
      simp only [q_us_ap]
      split
      · decide
      · exact h
    · exact h
