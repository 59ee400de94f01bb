/-! uploading: a turn of the loop -/
theorem us_ne {S : q_S} {t j z t2 j2 : Int} (h : t2 ≠ t) : q_us S t j z t2 j2 = S t2 j2 := if_neg (fun g => h g.1)
theorem look2_o {S : q_S} {p lat t j : Int} (h : ¬ (2 ≤ t ∧ t ≤ 5) ∧ ¬ (17 ≤ t ∧ t ≤ 22)) (h2 : ¬ (t = 50 ∧ (j = 16 ∨ j = 37 ∨ j = 38))) : (look2 S p lat).2 t j = S t j := by
  have n2 : t ≠ 2 := by omega
  have n3 : t ≠ 3 := by omega
  have n4 : t ≠ 4 := by omega
  have n5 : t ≠ 5 := by omega
  have hc : cflF S p lat t j = S t j := by unfold cflF; simp only [q_us_ap]; rw [if_neg (by omega)]
  have hm : ∀ (A : q_S) (f m c d : Int), makesF A f m c d t j = A t j := fun A f m c d => by
    unfold makesF
    simp only [q_us_ap]
    rw [if_neg (by omega), if_neg (by omega), if_neg (by omega), if_neg (by omega), if_neg (by omega), if_neg (by omega), if_neg (by omega)]
  have hb : ∀ (A : q_S) (q v : Int), becomesF A q v t j = A t j := fun A q v => bec_o (by omega)
  unfold look2
  split
  · simp only [q_us_ap]; rw [if_neg (by omega)]
  · split
    · simp only [q_us_ap]; rw [if_neg (by omega), hm]; exact hc
    · split
      · exact (hb _ _ _).trans hc
      · unfold keepsF
        split
        · simp only [q_us_ap]; rw [if_neg (by omega)]; exact hc
        · exact (hb _ _ _).trans ((us_ne n4).trans ((us_ne n3).trans ((us_ne n2).trans ((us_ne n5).trans ((hm _ _ _ _ _).trans hc)))))
theorem lk_o {S : q_S} (hI : MI S) (hW : WR S) {m f t j : Int} (hm : 0 ≤ m ∧ m ≤ 2) (hf : 0 ≤ f ∧ f ≤ 15) (ho : isOtherP S (16 * m + f)) (h : ¬ (2 ≤ t ∧ t ≤ 5) ∧ ¬ (17 ≤ t ∧ t ≤ 22)) (h2 : ¬ (t = 50 ∧ (j = 16 ∨ j = 37 ∨ j = 38))) : lkF S m f t j = S t j := by
  rw [← look2_lk hI hW hm hf ho]; exact look2_o h h2
theorem fnF_congr {A B : q_S} (h : ∀ k, A 8 k = B 8 k) (m : Int) : ∀ n : Nat, fnF A m n = fnF B m n := by
  intro n
  induction n with
  | zero => rfl
  | succ n ih => simp only [fnF, ih, h]
theorem rc_drop1 {M C : q_S} (hR : RC M C) (hW : WR M) {m : Int} (hm : 0 ≤ m ∧ m ≤ 2) (hw : 0 < ntF M m 16) : RC (q_us M 8 (16 * m + C (150 + m) 0) 0) (dlC C m (ntF M m 16)) := by
  refine rc_fr_L hR (rs_16 hW).1 (fun t j g => if_neg (by omega)) (fun t j g => ?_) (rl_drop (rc_L hR) hm hw)
  unfold dlC
  simp only [q_us_ap, q_cs_ap]
  rw [if_neg (by omega), if_neg (by omega)]
/-- the size of the store -/
def szF (M : q_S) : Int := sumF (fun x => if M 31 x = 0 then 0 else 1) 20000
theorem sumF_one : ∀ n : Nat, sumF (fun _ => 1) n = n := by
  intro n
  induction n with
  | zero => rfl
  | succ n ih => simp only [sumF]; rw [ih]; omega
theorem rt_size {M C : q_S} (h : RT M C) : C 105 0 = szF M := by
  have hn := rt_n h
  have e := rt_sum h (fun x => if M 31 x = 0 then 0 else 1) (fun x _ _ g => if_pos g)
  have e2 : sumF (fun i => (fun x => if M 31 x = 0 then (0 : Int) else 1) (C 126 i)) (C 105 0).toNat = sumF (fun _ => 1) (C 105 0).toNat :=
    sumF_congr _ (fun k a b => by
      have g := rt_i h (i := k) ⟨a, by omega⟩
      show (if M 31 (C 126 k) = 0 then (0 : Int) else 1) = 1
      rw [if_neg (by omega)])
  rw [e2, sumF_one] at e
  unfold szF
  omega
theorem sz_o {A B : q_S} (h : ∀ x, A 31 x = B 31 x) : szF A = szF B := by
  unfold szF; simp only [h]
theorem sz_comes {S : q_S} {x : Int} (hx : 0 ≤ x) : szF (comesF S x) ≤ szF S + 1 := by
  have e := sumF_pt (f := fun y => if comesF S x 31 y = 0 then 0 else 1) (g := fun y => if S 31 y = 0 then 0 else 1) hx (fun k hk => by
    show (if comesF S x 31 k = 0 then (0 : Int) else 1) = if S 31 k = 0 then 0 else 1
    rw [comesF_ap]
    simp only [Int.reduceEq, false_and, true_and, if_false]
    rw [if_neg hk]) 20000
  unfold szF
  rw [e]
  have a : (fun y => if comesF S x 31 y = 0 then (0 : Int) else 1) x ≤ 1 := by
    show (if comesF S x 31 x = 0 then (0 : Int) else 1) ≤ 1
    split <;> decide
  have b : 0 ≤ (fun y => if S 31 y = 0 then (0 : Int) else 1) x := by
    show 0 ≤ (if S 31 x = 0 then (0 : Int) else 1)
    split <;> decide
  split <;> omega
theorem sz_seF (S : q_S) (p c : Int) : ∀ k : Nat, szF (seF S p c k).2 ≤ szF S + k := by
  intro k
  induction k with
  | zero => show szF S ≤ szF S + ((0 : Nat) : Int); omega
  | succ k ih =>
    simp only [seF]
    split
    · omega
    · split
      · omega
      · split
        · show szF (seF S p c k).2 ≤ _; omega
        · have := sz_comes (S := (seF S p c k).2) (pce_rg c k).1
          show szF (comesF (seF S p c k).2 (pce c k)) ≤ _
          omega
theorem sz_sends {M : q_S} {c : Int} (hc : vcode c) (p : Int) : szF (sendsF M c p).2 ≤ szF M + 12 := by
  have a := sz_seF (cutS M c) p c (ncut c).toNat
  have b := ncut_rg c
  have d := vcode_len hc
  have e : szF (cutS M c) = szF M := sz_o (fun x => cutS_o (by decide))
  unfold sendsF
  omega
theorem up_step {M : q_S} (hI : MI M) (hK : KI M) (hW : WR M) {m n l : Int} {p9 : Int} (hp : 0 ≤ p9 ∧ p9 < 48) (hfn : fnF M m 16 = p9) (hl : 0 ≤ l) (ho : isOtherP M p9) (r : Nat) :
    upF m (r + 1) n l M = if (sendsF M (M 3 p9) l).1 = -1 then (n, (sendsF M (M 3 p9) l).2) else upF m r (n + (looksF (sendsF M (M 3 p9) l).2 p9).1) (sendsF M (M 3 p9) l).1 (looksF (sendsF M (M 3 p9) l).2 p9).2 := by
  have g2 : 0 ≤ M 2 p9 ∧ M 2 p9 ≤ 2 := hW 2 p9
  simp only [upF]
  rw [hfn, if_neg (fun g => g.elim (fun g => by omega) (fun g => by omega)), if_neg (fun g => g ho)]
  by_cases e : M 2 p9 = 2
  · rw [if_pos e]
  · rw [if_neg e]
    have e0 : M 2 p9 = 0 := by
      have : ¬ M 2 p9 = 1 := fun g => ho (hK p9 hp.1 hp.2 g)
      omega
    have e3 : M 3 p9 = 0 := (hI.2.1 p9 hp.1 hp.2).2.1.mp e0
    have ec : cutS M 0 = M := by
      unfold cutS
      rw [mlen_0]; rfl
    have en : ncut 0 = 0 := by have := ncut_rg 0; rw [mlen_0] at this; omega
    have es : sendsF M (M 3 p9) l = (l, M) := by
      unfold sendsF
      rw [e3, ec, en]; rfl
    rw [es, if_neg (show ¬ l = -1 by omega)]
theorem up_skip {M : q_S} {m n l p9 : Int} (hp : 0 ≤ p9) (hfn : fnF M m 16 = p9) (hl : 0 ≤ l) (ho : ¬ isOtherP M p9) (r : Nat) : upF m (r + 1) n l M = upF m r n l (q_us M 8 p9 0) := by
  simp only [upF]
  rw [hfn, if_neg (fun g => g.elim (fun g => by omega) (fun g => by omega)), if_pos ho]
theorem wr_lk {X : q_S} (hI : MI X) (hW : WR X) {m f : Int} (hm : 0 ≤ m ∧ m ≤ 2) (hf : 0 ≤ f ∧ f ≤ 15) (ho : isOtherP X (16 * m + f)) (hC : CT (looksF X (16 * m + f)).2) : WR (looksF X (16 * m + f)).2 ∧ WR (lkF X m f) := by
  have h16 := rs_16 hW
  have hl := latestOf_rg hW f
  have w : WR (looksF X (16 * m + f)).2 := by
    have h8 : WR (q_us X 8 (16 * m + f) 0) := WR.up hW ⟨(show (0 : Int) ≤ 0 by decide), (show (0 : Int) ≤ 1000000 by decide)⟩
    unfold looksF at hC ⊢
    rw [show (16 * m + f) % 16 = f by omega] at hC ⊢
    exact wr_look2 h8 ⟨by omega, by omega⟩ ⟨by omega, by omega⟩ hC
  refine ⟨w, fun t i => ?_⟩
  by_cases e : t = 8
  · rw [e, lk_o hI hW hm hf ho (by decide) (by omega)]; exact hW 8 i
  · have g := w t i
    rw [(looks_lk hI hW hm hf ho).1] at g
    simp only [q_us_ap] at g
    rw [if_neg (fun y => e y.1)] at g
    exact g
