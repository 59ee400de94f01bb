/-! the bound on packs: writing, opening, thinning -/
theorem gi_write {M : q_S} {k : Int} (h : GI M k) (hW : WR M) (hI : MI M) (m f : Int) : GI (writeF M m f).2 (k + 1) := by
  unfold writeF
  split
  · exact gi_thr h _
  · split
    · exact gi_thr h _
    next e1 e2 =>
      unfold inMF at e1
      generalize (if M 2 (16 * m + f) = 0 then f % 4 else M 4 (16 * m + f)) = fo
      have hp : 0 ≤ 16 * m + f ∧ 16 * m + f < 48 := by omega
      generalize 16 * m + f = p at *
      show GI (editsF (q_us (wrA M p fo) 50 0 0) p) (k + 1)
      have fS : ∀ t j : Int, ¬ ((2 ≤ t ∧ t ≤ 4) ∧ j = p ∨ t = 50 ∧ (j = 0 ∨ j = 41)) → q_us (wrA M p fo) 50 0 0 t j = M t j := fun t j g => (us_nn (by omega)).trans ((us_nn (by omega)).trans ((us_nn (by omega)).trans ((us_nn (by omega)).trans (us_nn (by omega)))))
      have s3 : q_us (wrA M p fo) 50 0 0 3 p = M 50 0 := us_eq
      have s0 : q_us (wrA M p fo) 50 0 0 50 0 = 0 := us_eq
      generalize q_us (wrA M p fo) 50 0 0 = S at *
      have fE : ∀ t j : Int, ¬ (t = 8 ∧ j = p ∨ t = 14 ∨ t = 15 ∨ t = 50 ∧ (j = 10 ∨ j = 13)) → editsF S p t j = S t j := fun t j g => by
        by_cases e : t = 50
        · subst e; exact editsF_s (by omega) (by omega)
        · by_cases e8 : t = 8
          · subst e8
            unfold editsF
            split
            · rw [notesF_8, if_neg (fun x => g (by omega))]
            · exact (us_nn (by omega)).trans ((us_nn (by omega)).trans (us_nn (by omega)))
          · exact editsF_o e8 e (by omega) (by omega)
      generalize editsF S p = T at *
      have fo : ∀ t j : Int, ¬ ((2 ≤ t ∧ t ≤ 4) ∧ j = p ∨ t = 8 ∧ j = p ∨ t = 14 ∨ t = 15 ∨ t = 50 ∧ (j = 0 ∨ j = 10 ∨ j = 13 ∨ j = 41)) → T t j = M t j := fun t j g => (fE t j (by omega)).trans (fS t j (by omega))
      have t3 : T 3 p = M 50 0 := (fE 3 p (by omega)).trans s3
      have t0 : T 50 0 = 0 := (fE 50 0 (by omega)).trans s0
      obtain ⟨X, Z, A, Wd, s, th, u, e, G0, E0, E20, U0, c0, ⟨a, b⟩, d, f9⟩ := h
      have hn := ncut_rg (M 50 0)
      have hn2 : ((ncut (M 50 0)).toNat : Int) = ncut (M 50 0) := Int.toNat_of_nonneg hn.1
      have sw := sw_fin (vcode_len hI.1).2
      have aX := addC_ok X (M 50 0) (ncut (M 50 0)).toNat
      have aZ := addC_ok Z (M 50 0) (ncut (M 50 0)).toNat
      have iX : inC (addC X (M 50 0) (ncut (M 50 0)).toNat) (M 50 0) := fun i x y => aX.2.2.2 i x (by omega)
      refine ⟨addC X (M 50 0) (ncut (M 50 0)).toNat, addC Z (M 50 0) (ncut (M 50 0)).toNat, A + 1, Wd + ncut (M 50 0), s, th, u, e, G0, E0, E20, U0, c0, ⟨⟨fun q x y => ?_, fun v x y => ?_, fun x h1 h2 => ?_⟩, fun q x y => ?_⟩, ?_, ?_⟩
      · by_cases eq : q = p
        · rw [eq, t3]; exact iX
        · rw [fo 3 q (by omega)]
          exact fun i g1 g2 => aX.2.2.1 _ (a.1 q x y i g1 g2)
      · rw [fo 50 16 (by omega)] at y
        rw [fo 21 v (by omega)]
        exact fun i g1 g2 => aX.2.2.1 _ (a.2.1 v x y i g1 g2)
      · rw [fo 31 x (by omega)]
        exact fun g => aX.2.2.1 _ (a.2.2 x h1 h2 g)
      · by_cases eq : q = p
        · rw [eq, t3]
          exact fun _ _ i g1 g2 _ => aZ.2.2.2 i g1 (by omega)
        · rw [fo 3 q (by omega), fo 8 q (by omega), fo 2 q (by omega)]
          intro g1 g2 i g3 g4
          rw [fo 31 _ (by omega)]
          exact fun g5 => aZ.2.2.1 _ (b q x y g1 g2 i g3 g4 g5)
      · have eg : gP T = gP M := by unfold gP; rw [fo 50 34 (by omega)]
        have ec : cP T = cP M := by unfold cP; rw [fo 50 34 (by omega), fo 35 _ (by omega)]
        rw [sz_o (B := M) (fun x => fo 31 x (by omega)), eg, ec, fo 50 39 (by omega), t0, mlen_0]
        have w20 := nB_w (addC X (M 50 0) (ncut (M 50 0)).toNat)
        have z0 := nB_rg (addC Z (M 50 0) (ncut (M 50 0)).toNat)
        have q1 := aX.1.2
        have q2 := aZ.1.2
        rw [hn2] at q1 q2
        exact num_write (sw := swF (M 50 0)) d ⟨aX.1.1, q1⟩ aX.2.1 sw.1 w20.1 ⟨z0, q2⟩
      · rw [fo 50 39 (by omega)]; exact f9
/-- opening -/
theorem whI_in {M : q_S} {c : Int} : ∀ n : Nat, ¬ whI M c n = 0 → ∀ i : Int, 0 ≤ i → i < n → ¬ M 31 (pce c i) = 0 := by
  intro n
  induction n with
  | zero => intro _ i a b; omega
  | succ n ih =>
    intro h i a b
    simp only [whI] at h
    by_cases e : ¬ whI M c n = 0 ∧ 0 < M 31 (pce c n) ∧ M 32 (pce c n) = 0
    · by_cases ei : i = n
      · rw [ei]; omega
      · exact ih e.1 i a (by omega)
    · rw [if_neg e] at h; exact absurd rfl h
theorem zcov_mr {Z : Int → Bool} {m needs : Int} : ∀ (r : Nat) (S : q_S), zcov Z S → zcov Z (mrF m needs r S) := by
  intro r
  induction r with
  | zero => exact fun S a => a
  | succ r ih =>
    intro S a
    simp only [mrF]
    split
    · refine ih _ (fun p x y g1 g2 i g3 g4 g5 => ?_)
      have e2 : q_us S 2 (goF S m 16) 1 2 p = if p = goF S m 16 then 1 else S 2 p := by simp only [q_us_ap, true_and]
      rw [e2] at g2
      by_cases ep : p = goF S m 16
      · rw [if_pos ep] at g2; exact absurd g2 (by decide)
      · rw [if_neg ep] at g2; exact a p x y g1 g2 i g3 g4 g5
    · exact a
theorem gi_openE {M S : q_S} {k : Int} (h : GI M k) {p : Int} (hX : ∀ X, covX X M → covX X S) (hZ : ∀ X Z, covX X M → zcov Z M → zcov Z S) (h2 : S 2 p = 2 ∨ ∀ i, 0 ≤ i → i < ncut (S 3 p) → ¬ S 31 (pce (S 3 p) i) = 0) (hS : ∀ t j : Int, ((t = 31 ∨ t = 35) ∨ t = 50 ∧ (j = 0 ∨ j = 34 ∨ j = 39)) → S t j = M t j) : GI (openE S p).2 (k + 1) := by
  unfold openE
  show GI (q_us (q_us (q_us S 2 p 2) 50 9 (S 50 9 + 1)) 7 p (S 50 9 + 1)) (k + 1)
  have fo : ∀ t j : Int, ¬ (t = 2 ∧ j = p ∨ t = 7 ∨ t = 50 ∧ j = 9) → q_us (q_us (q_us S 2 p 2) 50 9 (S 50 9 + 1)) 7 p (S 50 9 + 1) t j = S t j := fun t j g => (us_nn (by omega)).trans ((us_nn (by omega)).trans (us_nn (by omega)))
  generalize q_us (q_us (q_us S 2 p 2) 50 9 (S 50 9 + 1)) 7 p (S 50 9 + 1) = T at *
  refine gi_n h (fun X a => covX_o (hX X a) (fun q => fo 3 q (by omega)) (fun q => fo 21 q (by omega)) (fo 50 16 (by omega)) (fun x => fo 31 x (by omega))) (fun X Z a b => ?_) (fun x => (fo 31 x (by omega)).trans (hS 31 x (by omega))) (fun x => (fo 35 x (by omega)).trans (hS 35 x (by omega))) ((fo 50 34 (by omega)).trans (hS 50 34 (by omega))) ((fo 50 39 (by omega)).trans (hS 50 39 (by omega))) ((fo 50 0 (by omega)).trans (hS 50 0 (by omega)))
  intro q x y
  rw [fo 3 q (by omega), fo 8 q (by omega)]
  intro g1 g2 i g3 g4
  rw [fo 31 _ (by omega)]
  intro g5
  by_cases eq : q = p
  · rcases h2 with h2 | h2
    · exact hZ X Z a b q x y g1 (by rw [eq]; exact h2) i g3 g4 g5
    · rw [eq] at g4 g5
      exact absurd g5 (h2 i g3 g4)
  · rw [fo 2 q (by omega)] at g2
    exact hZ X Z a b q x y g1 g2 i g3 g4 g5
theorem gi_room2 {M Y : q_S} {k : Int} (h : GI M k) {m n p : Int} (h2 : ∀ i, 0 ≤ i → i < ncut (Y 3 p) → ¬ Y 31 (pce (Y 3 p) i) = 0) (hS : ∀ t j : Int, ¬ (t = 40 ∨ t = 50 ∧ j = 41) → Y t j = M t j) :
    GI (if (makesRoomF Y m n).1 = 0 then ((0 : Int), thr (makesRoomF Y m n).2 2) else openE (thr (makesRoomF Y m n).2 0) p).2 (k + 1) := by
  unfold makesRoomF
  by_cases e : Y 12 m - takF Y m 16 + cgL Y m 16 < n
  · rw [if_pos e, if_pos rfl]
    exact gi_o h (fun t j g => (us_nn (by omega)).trans (hS t j (by omega)))
  · rw [if_neg e, if_neg (show ¬ (1 : Int) = 0 by decide)]
    have zm := fun Z => zcov_mr (Z := Z) (m := m) (needs := n) 17 Y
    have o : ∀ t j : Int, t ≠ 2 → mrF m n 17 Y t j = Y t j := fun t j g => mrF_o g 17 Y
    show GI (openE (thr (mrF m n 17 Y) 0) p).2 (k + 1)
    generalize mrF m n 17 Y = V at *
    have o2 : ∀ t j : Int, ¬ (t = 2 ∨ t = 50 ∧ j = 41) → thr V 0 t j = Y t j := fun t j g => (us_nn (by omega)).trans (o t j (by omega))
    have z2 : ∀ Z, zcov Z V → zcov Z (thr V 0) := fun Z b => zcov_thr b 0
    generalize thr V 0 = V2 at *
    refine gi_openE h (fun X a => covX_o a (fun q => (o2 3 q (by omega)).trans (hS 3 q (by omega))) (fun q => (o2 21 q (by omega)).trans (hS 21 q (by omega))) ((o2 50 16 (by omega)).trans (hS 50 16 (by omega))) (fun q => (o2 31 q (by omega)).trans (hS 31 q (by omega)))) (fun X Z a b => z2 Z (zm Z (zcov_o b (fun q => hS 8 q (by omega)) (fun q => hS 2 q (by omega)) (fun q => hS 3 q (by omega)) (fun q => hS 31 q (by omega))))) (Or.inr ?_) (fun t j g => (o2 t j (by omega)).trans (hS t j (by omega)))
    rw [o2 3 p (by omega)]
    intro i g1 g2
    rw [o2 31 _ (by omega)]
    exact h2 i g1 g2
theorem gi_open {M : q_S} {k : Int} (h : GI M k) (hW : WR M) (m f : Int) : GI (openF M m f).2 (k + 1) := by
  unfold openF
  split
  · exact gi_thr h _
  · split
    · exact gi_thr h _
    next e1 e2 =>
      split
      next e3 =>
        generalize 16 * m + f = p at *
        unfold openK
        by_cases c1 : ¬ (1 ≤ rightF (thr M 0) (thr M 0 4 p) m)
        · rw [if_pos c1]
          exact gi_o h (fun t j g => (us_nn (by omega)).trans (us_nn (by omega)))
        · rw [if_neg c1]
          have fx : ∀ t j : Int, t ≠ 40 → (isWholeF (thr M 0) (thr M 0 3 p)).2 t j = thr M 0 t j := fun t j g => by unfold isWholeF; exact cutS_o g
          have fw : (isWholeF (thr M 0) (thr M 0 3 p)).1 = whI (thr M 0) (thr M 0 3 p) (ncut (thr M 0 3 p)).toNat := rfl
          by_cases c2 : (isWholeF (thr M 0) (thr M 0 3 p)).1 = 0
          · rw [if_pos c2]
            generalize (isWholeF (thr M 0) (thr M 0 3 p)).2 = Y at *
            exact gi_o h (fun t j g => (us_nn (by omega)).trans ((fx t j (by omega)).trans (us_nn (by omega))))
          · rw [if_neg c2]
            rw [fw] at c2
            have hin := whI_in _ c2
            have hn := ncut_rg (thr M 0 3 p)
            have hn2 : ((ncut (thr M 0 3 p)).toNat : Int) = ncut (thr M 0 3 p) := Int.toNat_of_nonneg hn.1
            generalize (isWholeF (thr M 0) (thr M 0 3 p)).2 = Y at *
            refine gi_room2 h ?_ (fun t j g => (fx t j (by omega)).trans (us_nn (by omega)))
            rw [fx 3 p (by decide)]
            intro i g1 g2
            rw [fx 31 _ (by decide)]
            exact hin i g1 (by omega)
      next e3 =>
        have g2 : 0 ≤ M 2 (16 * m + f) ∧ M 2 (16 * m + f) ≤ 2 := hW 2 _
        exact gi_openE h (fun X a => covX_thr a 0) (fun X Z _ b => zcov_thr b 0) (Or.inl (by show M 2 (16 * m + f) = 2; omega)) (fun t j g => us_nn (by omega))
/-- thinning -/
theorem drops_31 {M : q_S} {x : Int} (hx : 0 ≤ x ∧ x < 20000) : (dropsF M 31 x = M 31 x ∨ dropsF M 31 x = 0) ∧ ∀ p, 0 ≤ p → p < 48 → 0 < M 8 p → M 2 p = 2 → isPc (M 3 p) x → dropsF M 31 x = M 31 x := by
  have sp := d4F_sp (M := d3F (d2F (d1F M 20000) (M 50 16).toNat) 48) (t := 31) (j := x) ⟨by decide, by decide⟩ 20000
  have e31 : d3F (d2F (d1F M 20000) (M 50 16).toNat) 48 31 x = M 31 x := by rw [d3F_o (by decide) (by decide), d2F_o (by decide) (by decide), d1F_o (by decide)]
  have e42 := d3F_42 (M := d2F (d1F M 20000) (M 50 16).toNat) (x := x) 48
  rw [e31] at sp
  have ed : dropsF M 31 x = _ := sp
  rw [ed]
  refine ⟨by split; exact Or.inr rfl; exact Or.inl rfl, fun p a b c d g => if_neg (fun y => ?_)⟩
  have z := (e42.mp y.2).2 p a b
  rw [d2F_o (by decide) (by decide), d1F_o (by decide), d2F_o (by decide) (by decide), d1F_o (by decide), d2F_o (by decide) (by decide), d1F_o (by decide)] at z
  exact z ⟨c, d⟩ g
theorem sz_mono {A B : q_S} (h : ∀ x, 0 ≤ x → x < 20000 → A 31 x = B 31 x ∨ A 31 x = 0) : szF A ≤ szF B := sumF_le _ (fun x a b => by
  rcases h x a b with e | e
  · rw [e]; exact Int.le_refl _
  · rw [if_pos e]; split <;> decide)
theorem cnt_mono {A B : q_S} {q : Int} (hq : q ≠ 0) (h : ∀ x, 0 ≤ x → x < 20000 → A 31 x = B 31 x ∨ A 31 x = 0) : cnt A q 20000 ≤ cnt B q 20000 := by
  rw [cnt_sum, cnt_sum]
  exact sumF_le _ (fun x a b => by
    rcases h x a b with e | e
    · rw [e]; exact Int.le_refl _
    · rw [e, if_neg (fun g => hq g.symm)]; split <;> decide)
theorem cnt_sz (A : q_S) {q : Int} (hq : q ≠ 0) : cnt A q 20000 ≤ szF A := by
  rw [cnt_sum]
  exact sumF_le _ (fun x a b => by
    by_cases e : A 31 x = q
    · rw [if_pos e, if_neg (by rw [e]; exact hq)]; exact Int.le_refl _
    · rw [if_neg e]; split <;> decide)
theorem cP_pm {M : q_S} (hP : PMI M) (h34 : 0 ≤ M 50 34) : cP M = if M 50 34 = 0 then 0 else cnt M (M 50 34) 20000 := by
  unfold cP
  split
  · rfl
  · rw [hP.1 _ (by omega), show M 50 34 - 1 + 1 = M 50 34 by omega]
theorem gi_drops {M Y : q_S} {k : Int} (h : GI M k) (hW : WR M) (hP : PMI M) (hQ : PMI Y) (h16 : Y 50 16 = M 50 16) (h50 : ∀ j : Int, (j = 0 ∨ j = 34 ∨ j = 39) → Y 50 j = M 50 j) (hY : ∀ t j : Int, (t = 2 ∨ t = 3 ∨ t = 8 ∨ t = 21) → Y t j = M t j)
    (h31 : ∀ x, 0 ≤ x → x < 20000 → (Y 31 x = M 31 x ∨ Y 31 x = 0) ∧ ∀ p, 0 ≤ p → p < 48 → 0 < M 8 p → M 2 p = 2 → isPc (M 3 p) x → Y 31 x = M 31 x) : GI Y (k + 1) := by
  have g34 := rs_34 hW
  have e34 := h50 34 (by omega)
  have s1 : szF Y ≤ szF M := sz_mono (fun x a b => (h31 x a b).1)
  have c1 := cP_pm hP g34.1
  have c2 := cP_pm hQ (by rw [e34]; exact g34.1)
  rw [e34] at c2
  have c5 : 0 ≤ cP M ∧ cP M ≤ 5 := by
    have g35 : 0 ≤ M 35 (M 50 34 - 1) ∧ M 35 (M 50 34 - 1) ≤ 5 := hW 35 _
    unfold cP; split <;> omega
  have cc : (0 ≤ cP Y ∧ cP Y ≤ cP M) ∧ cP Y ≤ szF Y := by
    rw [c1, c2]
    by_cases e : M 50 34 = 0
    · rw [if_pos e, if_pos e]
      exact ⟨⟨Int.le_refl _, Int.le_refl _⟩, (sumF_01 (fun i => by split <;> omega) 20000).1⟩
    · rw [if_neg e, if_neg e]
      exact ⟨⟨(cnt_nn _ _ _).1, cnt_mono e (fun x a b => (h31 x a b).1)⟩, cnt_sz Y e⟩
  obtain ⟨X, Z, A, Wd, s, th, u, e, G0, E0, E20, U0, c0, ⟨a, b⟩, d, f⟩ := h
  have n := num_thin (c2 := cP Y) (sz2 := szF Y) d f ⟨cc.1.1, cc.1.2, Int.le_trans cc.1.2 c5.2⟩ ⟨cc.2, s1⟩
  refine ⟨X, Z, A, Wd, s, th + 1, u, 0, gP M, E0 + (if 1 ≤ e then 1 else 0), E20 + (if 2 ≤ e then 1 else 0), M 50 39, cP Y, ⟨⟨fun p x y => by rw [hY 3 p (by omega)]; exact a.1 p x y, fun v x y => by rw [hY 21 v (by omega)]; rw [h16] at y; exact a.2.1 v x y, fun x g1 g2 g3 => a.2.2 x g1 g2 (fun g4 => g3 ?_)⟩, fun p x y => ?_⟩, ?_, by rw [h50 39 (by omega)]; omega⟩
  · rcases (h31 x g1 g2).1 with r | r
    · rw [r]; exact g4
    · exact r
  · rw [hY 3 p (by omega), hY 8 p (by omega), hY 2 p (by omega)]
    intro g1 g2 i g3 g4 g5
    have r := pce_rg (M 3 p) i
    rw [(h31 _ r.1 (by omega)).2 p x y g1 g2 ⟨i, ⟨g3, g4⟩, rfl⟩] at g5
    exact b p x y g1 g2 i g3 g4 g5
  · have eg : gP Y = gP M := by unfold gP; rw [e34]
    rw [eg, h50 39 (by omega), h50 0 (by omega)]
    exact n
theorem gi_thin {M : q_S} {k : Int} (h : GI M k) (hW : WR M) (hP : PMI M) : GI (thinF M).2 (k + 1) := by
  have et : (thinF M).2 = dropsF (thF (thr M 0) (M 50 16).toNat).2 := by unfold thinF; with_reducible rfl
  rw [et]
  have fx : ∀ t j : Int, ¬ (t = 22 ∨ t = 50 ∧ j = 41) → (thF (thr M 0) (M 50 16).toNat).2 t j = M t j := fun t j g => (thF_o (by omega) _).trans (us_nn (by omega))
  have w := thF_ok (hW.thr (z := 0) (by decide)) (M 50 16).toNat
  have p : PMI (thF (thr M 0) (M 50 16).toNat).2 := hP.of (fun j => thF_o (by decide) _) (fun j => thF_o (by decide) _) (thF_o (by decide) _)
  generalize (thF (thr M 0) (M 50 16).toNat).2 = V at *
  have d := wr_drops w p
  have fd : ∀ t j : Int, ¬ ((31 ≤ t ∧ t ≤ 33) ∨ t = 35 ∨ t = 40 ∨ t = 42) → dropsF V t j = V t j := fun t j g => dropsF_o (by omega) (by omega) (by omega) (by omega) (by omega) (by omega)
  have f3 := fun x hx => drops_31 (M := V) (x := x) hx
  generalize dropsF V = Y at *
  have fo : ∀ t j : Int, ¬ (t = 22 ∨ (31 ≤ t ∧ t ≤ 33) ∨ t = 35 ∨ t = 40 ∨ t = 42 ∨ t = 50 ∧ j = 41) → Y t j = M t j := fun t j g => (fd t j (by omega)).trans (fx t j (by omega))
  refine gi_drops h hW hP d.2 (fo 50 16 (by omega)) (fun j g => fo 50 j (by omega)) (fun t j g => fo t j (by omega)) (fun x a b => ?_)
  have r := f3 x ⟨a, b⟩
  rw [fx 31 x (by omega)] at r
  exact ⟨r.1, fun p c1 c2 c3 c4 c5 => r.2 p c1 c2 (by rw [fx 8 p (by omega)]; exact c3) (by rw [fx 2 p (by omega)]; exact c4) (by rw [fx 3 p (by omega)]; exact c5)⟩
