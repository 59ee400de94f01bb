/-! the bound on packs: a content is sent, a file is looked at -/
theorem sumF_more {f : Int → Int} (h : ∀ k, 0 ≤ f k) (n : Nat) : ∀ d : Nat, sumF f n ≤ sumF f (n + d) := by
  intro d
  induction d with
  | zero => exact Int.le_refl _
  | succ d ih => have := h ((n + d : Nat) : Int); rw [show n + (d + 1) = (n + d) + 1 by omega]; simp only [sumF]; omega
theorem se_ar {w1 i z1 U1 U0 e tw ts sw wx t39 : Int} (hi : i ≤ 15) (hw : w1 ≤ 2 * z1) (hU : U1 + 74 ≤ U0 + 74 * e) (hU1 : U1 ≤ 900000) (h1 : tw ≤ w1 + 8 * i + sw) (h2 : sw + wx ≤ 8) (h3 : 2 * (ts + 1) - 20 ≤ tw + wx) (h4 : t39 = U1 + (ts - z1)) : t39 ≤ 999999 ∧ t39 + 1 ≤ U0 + 74 * e ∧ t39 + 1 = U1 + (ts + 1 - z1) ∧ tw + wx ≤ w1 + 8 * i + (sw + wx) := by omega
theorem se_ar2 {a b c d : Int} (h : a ≤ b + c) (hd : 0 ≤ d) : a ≤ b + (c + d) := by omega
theorem se_ar3 {a w i c : Int} (h : a ≤ w + 8 * i + c) (hc : c ≤ 8) : a ≤ w + 8 * (i + 1) := by omega
section UNS
variable {X : Int → Bool} {A Wd s th u e G0 E0 E20 U0 c0 k U1 z1 w1 : Int}
/-- the whole call's account -/
def UA (U1 z1 w1 i : Int) (S : q_S) : Prop := S 50 39 = U1 + (szF S - z1) ∧ stW S ≤ w1 + 8 * i
theorem se_ok {S : q_S} {p9 i l c : Int} (h : UN X A Wd s th u e G0 E0 E20 U0 c0 k S) (hW : WR S) (hP : PMI S) (hk : k ≤ 512) (hp : 0 ≤ p9 ∧ p9 < 48) (h8 : 0 < S 8 p9) (h2 : S 2 p9 = 2) (hc : S 3 p9 = c) (hm : mlen c ≤ 12)
    (hA : UA U1 z1 w1 i S) (hi : i ≤ 15) (hw : w1 ≤ 2 * z1) (hU : U1 + 74 ≤ U0 + 74 * e) (hU1 : U1 ≤ 900000) : ∀ n : Nat, (n : Int) ≤ ncut c → UN X A Wd s th u e G0 E0 E20 U0 c0 k (seF S l c n).2 ∧ WR (seF S l c n).2 ∧ PMI (seF S l c n).2 ∧ (seF S l c n).2 50 39 = U1 + (szF (seF S l c n).2 - z1) ∧ stW (seF S l c n).2 ≤ w1 + 8 * i + sumF (fun j => wX (pce c j)) n := by
  intro n
  induction n with
  | zero => exact fun _ => ⟨h, hW, hP, hA.1, by show stW S ≤ w1 + 8 * i + 0; rw [Int.add_zero]; exact hA.2⟩
  | succ n ih =>
    intro hn
    have j := ih (by omega)
    have ww := wX_rg (pce c n)
    have es : sumF (fun j => wX (pce c j)) (n + 1) = sumF (fun j => wX (pce c j)) n + wX (pce c n) := rfl
    have same : stW (seF S l c n).2 ≤ w1 + 8 * i + sumF (fun j => wX (pce c j)) (n + 1) := by rw [es]; exact se_ar2 j.2.2.2.2 ww.1
    have fo := fun (t j : Int) a b => seF_o (S := S) (p := l) (c := c) (t := t) (j := j) a b n
    simp only [seF]
    split
    · exact ⟨j.1, j.2.1, j.2.2.1, j.2.2.2.1, same⟩
    · split
      · exact ⟨j.1, j.2.1, j.2.2.1, j.2.2.2.1, same⟩
      next e31 =>
        split
        · exact ⟨j.1, j.2.1, j.2.2.1, j.2.2.2.1, same⟩
        · have e0 : (seF S l c n).2 31 (pce c n) = 0 := Decidable.of_not_not e31
          generalize (seF S l c n).2 = T at *
          have r := pce_rg c n
          have g34 := rs_34 j.2.1
          have st := st_ins g34.1 ⟨r.1, by omega⟩ e0
          have sf := sw_fin hm
          obtain ⟨d, hd⟩ : ∃ d : Nat, (ncut c).toNat = (n + 1) + d := ⟨(ncut c).toNat - (n + 1), by omega⟩
          have sm : sumF (fun j => wX (pce c j)) (n + 1) ≤ 8 := by
            have m := sumF_more (f := fun j => wX (pce c j)) (fun k => (wX_rg _).1) (n + 1) d
            rw [← hd] at m
            exact Int.le_trans m sf.2
          rw [es] at sm
          have s20 := (st_20 (comesF T (pce c n))).1
          rw [st.2.1, st.2.2] at s20
          have ar := se_ar hi hw hU hU1 j.2.2.2.2 sm s20 j.2.2.2.1
          have t3 : T 3 p9 = c := (fo 3 p9 (by omega) (by omega)).trans hc
          have q := come_ok (x := pce c n) (p := p9) (i := n) j.1 j.2.1 j.2.2.1 hk e0 hp (by rw [fo 8 p9 (by omega) (by omega)]; exact h8) ((fo 2 p9 (by omega) (by omega)).trans h2) ⟨by omega, by rw [t3]; omega⟩ (by rw [t3]) ar.1 ar.2.1
          have e39 : comesF T (pce c n) 50 39 = T 50 39 + 1 := by rw [comesF_ap]; simp only [and_self, if_true]
          refine ⟨q.2.1, q.2.2.1, q.2.2.2, ?_, ?_⟩
          · show comesF T (pce c n) 50 39 = U1 + (szF (comesF T (pce c n)) - z1)
            rw [e39, st.2.1]; exact ar.2.2.1
          · show stW (comesF T (pce c n)) ≤ _
            rw [st.2.2, es]; exact ar.2.2.2
theorem un_cut {S : q_S} (c : Int) (h : UN X A Wd s th u e G0 E0 E20 U0 c0 k S) : UN X A Wd s th u e G0 E0 E20 U0 c0 k (cutS S c) := by
  obtain ⟨a, Z, b, d⟩ := h
  have fo : ∀ t j : Int, t ≠ 40 → cutS S c t j = S t j := fun t j g => cutS_o g
  refine ⟨covX_o a (fun _ => fo _ _ (by decide)) (fun _ => fo _ _ (by decide)) (fo _ _ (by decide)) (fun _ => fo _ _ (by decide)), Z, zcov_o b (fun _ => fo _ _ (by decide)) (fun _ => fo _ _ (by decide)) (fun _ => fo _ _ (by decide)) (fun _ => fo _ _ (by decide)), ?_⟩
  have eg : gP (cutS S c) = gP S := by unfold gP; rw [fo 50 34 (by decide)]
  have ec : cP (cutS S c) = cP S := by unfold cP; rw [fo 50 34 (by decide), fo 35 _ (by decide)]
  rw [sz_o (B := S) (fun _ => fo _ _ (by decide)), eg, ec, fo 50 39 (by decide), fo 50 0 (by decide)]
  exact d
theorem send_ok {S : q_S} {p9 i l c : Int} (h : UN X A Wd s th u e G0 E0 E20 U0 c0 k S) (hW : WR S) (hP : PMI S) (hk : k ≤ 512) (hp : 0 ≤ p9 ∧ p9 < 48) (h8 : 0 < S 8 p9) (h2 : S 2 p9 = 2) (hc : S 3 p9 = c) (hm : mlen c ≤ 12)
    (hA : UA U1 z1 w1 i S) (hi : i ≤ 15) (hw : w1 ≤ 2 * z1) (hU : U1 + 74 ≤ U0 + 74 * e) (hU1 : U1 ≤ 900000) : UN X A Wd s th u e G0 E0 E20 U0 c0 k (sendsF S c l).2 ∧ WR (sendsF S c l).2 ∧ PMI (sendsF S c l).2 ∧ UA U1 z1 w1 (i + 1) (sendsF S c l).2 := by
  have fo : ∀ t j : Int, t ≠ 40 → cutS S c t j = S t j := fun t j g => cutS_o g
  have hn := ncut_rg c
  have hA2 : UA U1 z1 w1 i (cutS S c) := by
    unfold UA
    rw [fo 50 39 (by decide), sz_o (B := S) (fun _ => fo _ _ (by decide)), st_o (B := S) (fun _ => fo _ _ (by decide))]
    exact hA
  have q := se_ok (S := cutS S c) (l := l) (un_cut c h) (wr_cutS hW c) (hP.cutS c) hk hp (by rw [fo 8 p9 (by decide)]; exact h8) (by rw [fo 2 p9 (by decide)]; exact h2) (by rw [fo 3 p9 (by decide)]; exact hc) hm hA2 hi hw hU hU1 (ncut c).toNat (by omega)
  have sf := (sw_fin hm).2
  unfold swF at sf
  unfold sendsF UA
  exact ⟨q.1, q.2.1, q.2.2.1, q.2.2.2.1, se_ar3 q.2.2.2.2 sf⟩
theorem haI_in {M : q_S} {c : Int} : ∀ n : Nat, ¬ haI M c n = 0 → ∀ i : Int, 0 ≤ i → i < n → ¬ M 31 (pce c i) = 0 := by
  intro n
  induction n with
  | zero => intro _ i a b; omega
  | succ n ih =>
    intro h i a b
    simp only [haI] at h
    by_cases e : ¬ haI M c n = 0 ∧ ¬ M 31 (pce c n) = 0
    · by_cases ei : i = n
      · rw [ei]; exact e.2
      · exact ih e.1 i a (by omega)
    · rw [if_neg e] at h; exact absurd rfl h
/-- a look -/
theorem cov_bec {Z : Int → Bool} {M : q_S} {p v : Int} (h : covX X M) (hz : zcov Z M) (hv : -1 ≤ v ∧ v < M 50 16) : covX X (becomesF M p v) ∧ zcov Z (becomesF M p v) := by
  unfold becomesF
  split
  next c =>
    have e3 : ∀ q, q_us (q_us (q_us (q_us M 5 p (v + 1)) 2 p 1) 3 p (M 21 v)) 4 p (M 20 v) 3 q = if q = p then M 21 v else M 3 q := fun q => by simp only [q_us_ap, Int.reduceEq, false_and, true_and, if_false]
    have e2 : ∀ q, q_us (q_us (q_us (q_us M 5 p (v + 1)) 2 p 1) 3 p (M 21 v)) 4 p (M 20 v) 2 q = if q = p then 1 else M 2 q := fun q => by simp only [q_us_ap, Int.reduceEq, false_and, true_and, if_false]
    have c1 := c.1
    refine ⟨⟨fun q a b => ?_, h.2.1, h.2.2⟩, fun q a b c d i e f g => ?_⟩
    · rw [e3]
      split
      · exact h.2.1 v (by omega) hv.2
      · exact h.1 q a b
    · rw [e2] at d
      by_cases eq : q = p
      · rw [if_pos eq] at d; exact absurd d (by decide)
      · rw [if_neg eq] at d
        rw [e3, if_neg eq] at f g ⊢
        exact hz q a b c d i e f g
  · refine ⟨covX_leaves ⟨h.1, h.2.1, h.2.2⟩ p, fun q a b c d i e f g => ?_⟩
    have e3 : leavesF (q_us M 5 p (v + 1)) p 3 q = if q = p then 0 else M 3 q := by unfold leavesF; simp only [q_us_ap, Int.reduceEq, false_and, true_and, if_false]
    have e2 : leavesF (q_us M 5 p (v + 1)) p 2 q = if q = p then 0 else M 2 q := by unfold leavesF; simp only [q_us_ap, Int.reduceEq, false_and, true_and, if_false]
    rw [e2] at d
    by_cases eq : q = p
    · rw [if_pos eq] at d; exact absurd d (by decide)
    · rw [if_neg eq] at d
      rw [e3, if_neg eq] at f g ⊢
      exact hz q a b c d i e f g
theorem cov_makes {Z : Int → Bool} {M : q_S} {f m c d : Int} (h : covX X M) (hz : zcov Z M) (hc : inC X c) : covX X (makesF M f m c d) ∧ zcov Z (makesF M f m c d) ∧ makesF M f m c d 50 16 = M 50 16 + 1 := by
  have e16 : makesF M f m c d 50 16 = M 50 16 + 1 := by unfold makesF; exact us_eq
  have e21 : ∀ v, makesF M f m c d 21 v = if v = M 50 16 then c else M 21 v := fun v => by
    unfold makesF; simp only [q_us_ap, Int.reduceEq, false_and, true_and, if_false]
  refine ⟨⟨fun p a b => h.1 p a b, fun v a b => ?_, fun x a b => h.2.2 x a b⟩, fun q a b c d i e f g => hz q a b c d i e f g, e16⟩
  rw [e16] at b
  rw [e21]
  split
  · exact hc
  · exact h.2.1 v a (by omega)
theorem cov_keeps {Z : Int → Bool} {M : q_S} {p lat : Int} (h : covX X M) (hz : zcov Z M) (hp : 0 ≤ p ∧ p < 48) (hl : -1 ≤ lat ∧ lat < M 50 16) (hin : ∀ i, 0 ≤ i → i < ncut (M 3 p) → ¬ M 31 (pce (M 3 p) i) = 0) : covX X (keepsF M p lat).2 ∧ zcov Z (keepsF M p lat).2 := by
  unfold keepsF
  split
  · exact ⟨⟨h.1, h.2.1, h.2.2⟩, fun q a b c d i e f g => hz q a b c d i e f g⟩
  · have mk := cov_makes (f := kpF M p) (m := p / 16) (d := M 4 p) h hz (h.1 p hp.1 hp.2)
    have n3 : ∀ q, makesF M (kpF M p) (p / 16) (M 3 p) (M 4 p) 3 q = M 3 q := fun q => rfl
    have n31 : ∀ q, makesF M (kpF M p) (p / 16) (M 3 p) (M 4 p) 31 q = M 31 q := fun q => rfl
    generalize makesF M (kpF M p) (p / 16) (M 3 p) (M 4 p) = N at *
    generalize p / 16 * 16 + kpF M p = q9
    have e3 : ∀ q, q_us (q_us (q_us (q_us N 5 q9 (M 50 16 + 1)) 2 q9 2) 3 q9 (M 3 p)) 4 q9 (M 4 p) 3 q = if q = q9 then M 3 p else N 3 q := fun q => by simp only [q_us_ap, Int.reduceEq, false_and, true_and, if_false]
    have e2 : ∀ q, q_us (q_us (q_us (q_us N 5 q9 (M 50 16 + 1)) 2 q9 2) 3 q9 (M 3 p)) 4 q9 (M 4 p) 2 q = if q = q9 then 2 else N 2 q := fun q => by simp only [q_us_ap, Int.reduceEq, false_and, true_and, if_false]
    refine cov_bec ⟨fun q a b => ?_, mk.1.2.1, mk.1.2.2⟩ (fun q a b c d i e f g => ?_) ⟨hl.1, by show lat < N 50 16; have := mk.2.2; omega⟩
    · rw [e3]
      split
      · exact h.1 p hp.1 hp.2
      · exact mk.1.1 q a b
    · rw [e2] at d
      rw [e3] at f g ⊢
      by_cases eq : q = q9
      · rw [if_pos eq] at f g ⊢
        have g2 : M 31 (pce (M 3 p) i) = 0 := (n31 _).symm.trans g
        exact absurd g2 (hin i e f)
      · rw [if_neg eq] at d f g ⊢
        exact mk.2.1 q a b c d i e f g
theorem cov_look2 {Z : Int → Bool} {S : q_S} {p lat : Int} (h : covX X S) (hz : zcov Z S) (hp : 0 ≤ p ∧ p < 48) (hl : -1 ≤ lat ∧ lat < S 50 16) (hin : S 2 p = 0 ∨ ∀ i, 0 ≤ i → i < ncut (S 3 p) → ¬ S 31 (pce (S 3 p) i) = 0) : covX X (look2 S p lat).2 ∧ zcov Z (look2 S p lat).2 := by
  have hcf : covX X (cflF S p lat) ∧ zcov Z (cflF S p lat) := ⟨⟨h.1, h.2.1, h.2.2⟩, fun q a b c d i e f g => hz q a b c d i e f g⟩
  unfold look2
  split
  · exact ⟨⟨h.1, h.2.1, h.2.2⟩, fun q a b c d i e f g => hz q a b c d i e f g⟩
  · split
    · have mk := cov_makes (f := p % 16) (m := p / 16) (d := S 4 p) hcf.1 hcf.2 (h.1 p hp.1 hp.2)
      exact ⟨⟨mk.1.1, mk.1.2.1, mk.1.2.2⟩, fun q a b c d i e f g => mk.2.1 q a b c d i e f g⟩
    · split
      · exact cov_bec hcf.1 hcf.2 hl
      next c => exact cov_keeps hcf.1 hcf.2 hp hl (hin.resolve_left c)
theorem un_looks {S : q_S} {p : Int} (h : UN X A Wd s th u e G0 E0 E20 U0 c0 k S) (hW : WR S) (hp : 0 ≤ p ∧ p < 48) (hin : S 2 p = 0 ∨ ∀ i, 0 ≤ i → i < ncut (S 3 p) → ¬ S 31 (pce (S 3 p) i) = 0) : UN X A Wd s th u e G0 E0 E20 U0 c0 k (looksF S p).2 := by
  obtain ⟨a, Z, b, d⟩ := h
  have h16 := rs_16 hW
  have a2 : covX X (q_us S 8 p 0) := ⟨a.1, a.2.1, a.2.2⟩
  have b2 : zcov Z (q_us S 8 p 0) := fun q x y c d i e f g => b q x y (by
    rw [show q_us S 8 p 0 8 q = if q = p then 0 else S 8 q by simp only [q_us_ap, true_and]] at c
    split at c
    · omega
    · exact c) d i e f g
  have hl := latestOf_rg hW (p % 16)
  have q := cov_look2 (p := p) (lat := latestOf S (p % 16)) a2 b2 hp ⟨by omega, by show latestOf S (p % 16) < S 50 16; omega⟩ hin
  have fo : ∀ t j : Int, ((t = 31 ∨ t = 35) ∨ t = 50 ∧ (j = 0 ∨ j = 34 ∨ j = 39)) → (looksF S p).2 t j = S t j := fun t j g => by
    unfold looksF
    rw [look2_o (by omega) (by omega), us_nn (by omega)]
  have e : (looksF S p).2 = (look2 (q_us S 8 p 0) p (latestOf S (p % 16))).2 := rfl
  rw [← e] at q
  refine ⟨q.1, Z, q.2, ?_⟩
  generalize (looksF S p).2 = T at *
  have eg : gP T = gP S := by unfold gP; rw [fo 50 34 (by omega)]
  have ec : cP T = cP S := by unfold cP; rw [fo 50 34 (by omega), fo 35 _ (by omega)]
  rw [sz_o (B := S) (fun x => fo 31 x (by omega)), eg, ec, fo 50 39 (by omega), fo 50 0 (by omega)]
  exact d
end UNS
