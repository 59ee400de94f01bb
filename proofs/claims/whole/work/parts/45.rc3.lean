/-! what does not touch a part of the relation leaves it -/
section FR
variable {M C M' C' : q_S}
theorem RD_fr (h : RD M C) (a : M' 50 0 = M 50 0) (b : C' 100 8 = C 100 8) (d : ∀ j, C' 101 j = C 101 j) : RD M' C' := by
  refine ⟨by rw [a, b]; exact h.1, fun i h1 h2 => ?_⟩
  rw [a] at h2 ⊢
  rw [d]; exact h.2 i h1 h2
theorem cfo_eq (a2 : ∀ j, M' 2 j = M 2 j) (a4 : ∀ j, M' 4 j = M 4 j) (p : Int) : cfo M' p = cfo M p := by unfold cfo; rw [a2, a4]
theorem RP_fr (h : RP M C) (a2 : ∀ j, M' 2 j = M 2 j) (a3 : ∀ j, M' 3 j = M 3 j) (a4 : ∀ j, M' 4 j = M 4 j) (a5 : ∀ j, M' 5 j = M 5 j) (a6 : ∀ j, M' 6 j = M 6 j) (a7 : ∀ j, M' 7 j = M 7 j) (b : ∀ t j, 200 ≤ t → t < 248 → C' t j = C t j) : RP M' C' := by
  intro p h1 h2
  rw [b _ _ (by omega) (by omega), b _ _ (by omega) (by omega), b _ _ (by omega) (by omega), b _ _ (by omega) (by omega), b _ _ (by omega) (by omega), b _ _ (by omega) (by omega), a2, a3, a5, a6, a7, cfo_eq a2 a4]
  exact h p h1 h2
theorem RM_fr (h : RM M C) (a : ∀ j, M' 11 j = M 11 j) (a2 : ∀ j, M' 12 j = M 12 j) (b : ∀ t j, 110 ≤ t → t ≤ 112 → 3 ≤ j → C' t j = C t j) : RM M' C' := by
  intro m h1 h2
  rw [b _ _ (by omega) (by omega) (by decide), b _ _ (by omega) (by omega) (by decide), a, a2]
  exact h m h1 h2
theorem RL_fr (h : RLn M C) (a : ∀ j, M' 8 j = M 8 j) (b : ∀ t, 110 ≤ t → t ≤ 112 → C' t 2 = C t 2) (d : ∀ t j, 150 ≤ t → t ≤ 152 → C' t j = C t j) : RLn M' C' := by
  intro m h1 h2
  have e := ntF_congr a m 16
  have eb := b (110 + m) (by omega) (by omega)
  have ed : ∀ j, C' (150 + m) j = C (150 + m) j := fun j => d _ _ (by omega) (by omega)
  have g := h m h1 h2
  rw [eb, e]
  refine ⟨g.1, fun i x y => ?_, fun i j x y z => ?_, fun f x y z => ?_⟩
  · rw [ed, a]; exact g.2.1 i x y
  · rw [ed, ed, a, a]; exact g.2.2.1 i j x y z
  · rw [a] at z
    obtain ⟨i, hi, hj⟩ := g.2.2.2 f x y z
    exact ⟨i, hi, by rw [ed]; exact hj⟩
theorem vfo_eq (a : ∀ j, M' 21 j = M 21 j) (b : ∀ j, M' 20 j = M 20 j) (v : Int) : vfo M' v = vfo M v := by unfold vfo; rw [a, b]
theorem lat_eq (a : ∀ j, M' 17 j = M 17 j) (b : ∀ j, M' 22 j = M 22 j) (d : M' 50 16 = M 50 16) (f : Int) : latestOf M' f = latestOf M f := by
  unfold latestOf; rw [d]; exact latF_congr (fun k => ⟨a k, b k⟩) _
theorem RV_fr (h : RV M C) (a16 : M' 50 16 = M 50 16) (a17 : ∀ j, M' 17 j = M 17 j) (a18 : ∀ j, M' 18 j = M 18 j) (a19 : ∀ j, M' 19 j = M 19 j) (a20 : ∀ j, M' 20 j = M 20 j) (a21 : ∀ j, M' 21 j = M 21 j) (a22 : ∀ j, M' 22 j = M 22 j)
    (b : ∀ j, C' 125 j = C 125 j) (b2 : ∀ j, C' 124 j = C 124 j) (d : ∀ t j, t = 999 ∨ (1000 ≤ t ∧ t < 1000 + M 50 16) → C' t j = C t j) : RV M' C' := by
  refine ⟨fun v h1 h2 => ?_, ?_, fun f h1 h2 => ?_⟩
  · rw [a16] at h2
    have dd : ∀ j, C' (1000 + v) j = C (1000 + v) j := fun j => d _ j (Or.inr ⟨by omega, by omega⟩)
    rw [b, dd, dd, dd, dd, dd, dd, a17, a18, a19, a21, a22, vfo_eq a21 a20]
    exact h.1 v h1 h2
  · have dd : ∀ j, C' 999 j = C 999 j := fun j => d _ j (Or.inl rfl)
    rw [dd, dd, dd, dd, dd, dd]
    exact h.2.1
  · rw [b2, lat_eq a17 a22 a16]; exact h.2.2 f h1 h2
theorem RK_fr (h : RK M C) (a1 : M 50 1 ≤ M' 50 1) (a : ∀ j, M' 23 j = M 23 j) (a2 : ∀ j, M' 24 j = M 24 j) (b : ∀ j, C' 131 j = C 131 j) (b2 : ∀ j, C' 132 j = C 132 j) : RK M' C' := by
  intro f h1 h2
  have g := h f h1 h2
  rw [b, b2, a, a2]
  exact ⟨g.1, fun t ht => g.2 t (by omega)⟩
theorem RH_fr (h : RH M C) (a : ∀ j, M' 25 j = M 25 j) (a2 : ∀ j, M' 26 j = M 26 j) (b : ∀ j, C' 133 j = C 133 j) (b2 : ∀ j, C' 134 j = C 134 j) : RH M' C' := by
  intro k h1 h2
  rw [b, b2, a, a2]; exact h k h1 h2
theorem RO_fr (h : RO M C) (a : ∀ j, M' 28 j = M 28 j) (a2 : ∀ j, M' 29 j = M 29 j) (a3 : ∀ j, M' 30 j = M 30 j) (a27 : M' 50 27 = M 50 27) (b : ∀ j, C' 135 j = C 135 j) (b2 : ∀ j, C' 136 j = C 136 j) (b3 : ∀ j, C' 137 j = C 137 j) : RO M' C' := by
  intro k h1 h2
  rw [b, b2, b3, a, a2, a3]; exact h k h1 (by rw [← a27]; exact h2)
theorem RT_fr (h : RT M C) (a : ∀ j, M' 31 j = M 31 j) (a2 : ∀ j, M' 32 j = M 32 j) (a3 : ∀ j, M' 33 j = M 33 j) (b : C' 105 0 = C 105 0) (b6 : ∀ j, C' 126 j = C 126 j) (b7 : ∀ j, C' 127 j = C 127 j) (b8 : ∀ j, C' 128 j = C 128 j) (b9 : ∀ j, C' 129 j = C 129 j) : RT M' C' := by
  unfold RT at *
  simp only [a, a2, a3, b, b6, b7, b8, b9]
  exact h
theorem RE_fr (h : RE M C) (a : ∀ j, M' 14 j = M 14 j) (a2 : ∀ j, M' 15 j = M 15 j) (a13 : M' 50 13 = M 50 13) (b : C' 103 3 = C 103 3) (b1 : ∀ j, C' 121 j = C 121 j) (b2 : ∀ j, C' 122 j = C 122 j) (b3 : ∀ j, C' 123 j = C 123 j) : RE M' C' := by
  unfold RE at *
  simp only [a, a2, a13, b, b1, b2, b3]
  exact h
theorem CC_fr (h : CC C) (b : ∀ t j, 1000000 ≤ t → C' t j = C t j) : CC C' := by
  intro c hc
  have h0 := hc.1
  have g := h c hc
  refine ⟨by rw [b _ _ (by omega)]; exact g.1, by rw [b _ _ (by omega)]; exact g.2.1, fun i hi => by rw [b _ _ (by omega)]; exact g.2.2.1 i hi, fun i hi => by rw [b _ _ (by omega)]; exact g.2.2.2.1 i hi, by rw [b _ _ (by omega)]; exact g.2.2.2.2.1, by rw [b _ _ (by omega)]; exact g.2.2.2.2.2.1, fun j hj => by rw [b _ _ (by omega)]; exact g.2.2.2.2.2.2 j hj⟩
end FR
theorem rc_thr {M C : q_S} (h : RC M C) (z : Int) : RC (thr M z) C :=
  ⟨h.1, RD_fr (rc_D h) rfl rfl (fun _ => rfl), RP_fr (rc_P h) (fun _ => rfl) (fun _ => rfl) (fun _ => rfl) (fun _ => rfl) (fun _ => rfl) (fun _ => rfl) (fun _ _ _ _ => rfl), RM_fr (rc_M h) (fun _ => rfl) (fun _ => rfl) (fun _ _ _ _ _ => rfl), RL_fr (rc_L h) (fun _ => rfl) (fun _ _ _ => rfl) (fun _ _ _ _ => rfl),
    RV_fr (rc_V h) rfl (fun _ => rfl) (fun _ => rfl) (fun _ => rfl) (fun _ => rfl) (fun _ => rfl) (fun _ => rfl) (fun _ => rfl) (fun _ => rfl) (fun _ _ _ => rfl), RK_fr (rc_K h) (Int.le_refl _) (fun _ => rfl) (fun _ => rfl) (fun _ => rfl) (fun _ => rfl), RH_fr (rc_H h) (fun _ => rfl) (fun _ => rfl) (fun _ => rfl) (fun _ => rfl),
    RO_fr (rc_O h) (fun _ => rfl) (fun _ => rfl) (fun _ => rfl) rfl (fun _ => rfl) (fun _ => rfl) (fun _ => rfl), RT_fr (rc_T h) (fun _ => rfl) (fun _ => rfl) (fun _ => rfl) rfl (fun _ => rfl) (fun _ => rfl) (fun _ => rfl) (fun _ => rfl), RE_fr (rc_E h) (fun _ => rfl) (fun _ => rfl) rfl rfl (fun _ => rfl) (fun _ => rfl) (fun _ => rfl), rc_C h⟩
theorem thr_thr (M : q_S) (a b : Int) : thr (thr M a) b = thr M b := by
  funext t j
  simp only [q_us_ap]
  split <;> rfl
/-- which numbers the cells bear -/
def q_tb (K : q_K) (n : Int) : Prop := ∀ a, (K a).1 ≠ 0 → (K a).2.2 < 290 ∨ (999 ≤ (K a).2.2 ∧ (K a).2.2 < 1000 + n) ∨ 1000000 ≤ (K a).2.2
def q_xt (K K2 : q_K) : Prop := ∀ a, (K a).1 ≠ 0 → K2 a = K a
theorem q_xt.rfl {K : q_K} : q_xt K K := fun _ _ => Eq.refl _
theorem q_xt.trans {A B D : q_K} (h : q_xt A B) (g : q_xt B D) : q_xt A D := fun a ha => by
  have := h a ha
  rw [g a (by rw [this]; exact ha), this]
/-- what a public method of the class does, if F is what the reference does -/
def PB (F : Int × q_S) (e1 e2 e3 : String) (K : q_K) (M : q_S) : q_Q2 := fun o K2 M2 C2 => (q_xt K K2 ∧ q_tb K2 (F.2 50 16)) ∧ M2 = M ∧ RC F.2 C2 ∧
  ((F.2 50 41 = 0 ∧ o = Sum.inl (some (q_I F.1))) ∨ (F.2 50 41 = 1 ∧ o = Sum.inr e1) ∨ (F.2 50 41 = 2 ∧ o = Sum.inr e2) ∨ (F.2 50 41 = 3 ∧ o = Sum.inr e3))
theorem pbq0 {F : Int × q_S} {x : Int} {e1 e2 e3 : String} {K : q_K} {B M C : q_S} (hB : q_tb K (M 50 16)) (hR : RC M C) (h : F = (x, thr M 0)) : PB F e1 e2 e3 K B (Sum.inl (some (q_I x))) K B C := by
  subst h
  exact ⟨⟨q_xt.rfl, hB⟩, rfl, rc_thr hR 0, Or.inl ⟨rfl, rfl⟩⟩
theorem pbq1 {F : Int × q_S} {x : Int} {e1 e2 e3 : String} {K : q_K} {B M C : q_S} (hB : q_tb K (M 50 16)) (hR : RC M C) (h : F = (x, thr M 1)) : PB F e1 e2 e3 K B (Sum.inr e1) K B C := by
  subst h
  exact ⟨⟨q_xt.rfl, hB⟩, rfl, rc_thr hR 1, Or.inr (Or.inl ⟨rfl, rfl⟩)⟩
theorem pbq2 {F : Int × q_S} {x : Int} {e1 e2 e3 : String} {K : q_K} {B M C : q_S} (hB : q_tb K (M 50 16)) (hR : RC M C) (h : F = (x, thr M 2)) : PB F e1 e2 e3 K B (Sum.inr e2) K B C := by
  subst h
  exact ⟨⟨q_xt.rfl, hB⟩, rfl, rc_thr hR 2, Or.inr (Or.inr (Or.inl ⟨rfl, rfl⟩))⟩
theorem pbq3 {F : Int × q_S} {x : Int} {e1 e2 e3 : String} {K : q_K} {B M C : q_S} (hB : q_tb K (M 50 16)) (hR : RC M C) (h : F = (x, thr M 3)) : PB F e1 e2 e3 K B (Sum.inr e3) K B C := by
  subst h
  exact ⟨⟨q_xt.rfl, hB⟩, rfl, rc_thr hR 3, Or.inr (Or.inr (Or.inr ⟨rfl, rfl⟩))⟩
theorem pbm0 {F : Int × q_S} {x : Int} {X : q_S} {e1 e2 e3 : String} {K : q_K} {B C2 : q_S} (h : F = (x, X)) (hB : q_tb K (X 50 16)) (h0 : X 50 41 = 0) (hR : RC X C2) : PB F e1 e2 e3 K B (Sum.inl (some (q_I x))) K B C2 := by
  subst h
  exact ⟨⟨q_xt.rfl, hB⟩, rfl, hR, Or.inl ⟨h0, rfl⟩⟩
/-- the relation does not look at what is cut, what stays and what was thrown -/
theorem rc_eq {M M' C : q_S} (h : RC M C) (e : ∀ t j, t ≠ 40 → t ≠ 42 → ¬ (t = 50 ∧ j = 41) → M' t j = M t j) : RC M' C := by
  have f : ∀ t, t ≠ 40 → t ≠ 42 → t ≠ 50 → ∀ j, M' t j = M t j := fun t a b d j => e t j a b (fun g => d g.1)
  have g : ∀ j, j ≠ 41 → M' 50 j = M 50 j := fun j hj => e 50 j (by decide) (by decide) (fun g => hj g.2)
  refine ⟨?_, RD_fr (rc_D h) (g 0 (by decide)) rfl (fun _ => rfl), RP_fr (rc_P h) (f 2 (by decide) (by decide) (by decide)) (f 3 (by decide) (by decide) (by decide)) (f 4 (by decide) (by decide) (by decide)) (f 5 (by decide) (by decide) (by decide)) (f 6 (by decide) (by decide) (by decide)) (f 7 (by decide) (by decide) (by decide)) (fun _ _ _ _ => rfl), RM_fr (rc_M h) (f 11 (by decide) (by decide) (by decide)) (f 12 (by decide) (by decide) (by decide)) (fun _ _ _ _ _ => rfl), RL_fr (rc_L h) (f 8 (by decide) (by decide) (by decide)) (fun _ _ _ => rfl) (fun _ _ _ _ => rfl),
    RV_fr (rc_V h) (g 16 (by decide)) (f 17 (by decide) (by decide) (by decide)) (f 18 (by decide) (by decide) (by decide)) (f 19 (by decide) (by decide) (by decide)) (f 20 (by decide) (by decide) (by decide)) (f 21 (by decide) (by decide) (by decide)) (f 22 (by decide) (by decide) (by decide)) (fun _ => rfl) (fun _ => rfl) (fun _ _ _ => rfl), RK_fr (rc_K h) (by rw [g 1 (by decide)]; exact Int.le_refl _) (f 23 (by decide) (by decide) (by decide)) (f 24 (by decide) (by decide) (by decide)) (fun _ => rfl) (fun _ => rfl), RH_fr (rc_H h) (f 25 (by decide) (by decide) (by decide)) (f 26 (by decide) (by decide) (by decide)) (fun _ => rfl) (fun _ => rfl),
    RO_fr (rc_O h) (f 28 (by decide) (by decide) (by decide)) (f 29 (by decide) (by decide) (by decide)) (f 30 (by decide) (by decide) (by decide)) (g 27 (by decide)) (fun _ => rfl) (fun _ => rfl) (fun _ => rfl), RT_fr (rc_T h) (f 31 (by decide) (by decide) (by decide)) (f 32 (by decide) (by decide) (by decide)) (f 33 (by decide) (by decide) (by decide)) rfl (fun _ => rfl) (fun _ => rfl) (fun _ => rfl) (fun _ => rfl), RE_fr (rc_E h) (f 14 (by decide) (by decide) (by decide)) (f 15 (by decide) (by decide) (by decide)) (g 13 (by decide)) rfl (fun _ => rfl) (fun _ => rfl) (fun _ => rfl), rc_C h⟩
  unfold RS
  rw [g 1 (by decide), g 9 (by decide), g 37 (by decide), g 38 (by decide), g 36 (by decide), g 16 (by decide), g 27 (by decide), g 34 (by decide), g 39 (by decide)]
  exact h.1
theorem pbqx {F : Int × q_S} {x : Int} {e1 e2 e3 : String} {K : q_K} {B M C : q_S} (hB : q_tb K (M 50 16)) (hR : RC M C) (h1 : F.1 = x) (h2 : ∀ t j, t ≠ 40 → t ≠ 42 → ¬ (t = 50 ∧ j = 41) → F.2 t j = M t j) (h3 : F.2 50 41 = 0) : PB F e1 e2 e3 K B (Sum.inl (some (q_I x))) K B C := by
  have h16 : F.2 50 16 = M 50 16 := h2 50 16 (by decide) (by decide) (by decide)
  exact ⟨⟨q_xt.rfl, by rw [h16]; exact hB⟩, rfl, rc_eq hR h2, Or.inl ⟨h3, by rw [h1]⟩⟩
theorem numberAtF_bad {M : q_S} {m f k : Int} (h : ¬ (0 ≤ k ∧ inMF m f)) : numberAtF M m f k = (0, thr M 1) := by
  unfold numberAtF
  rw [if_pos h]
  by_cases e : k < 0
  · rw [if_pos e]
  · rw [if_neg e]
    unfold asksF
    rw [if_neg (fun g => h ⟨by omega, g⟩)]
    exact congrArg _ (thr_thr M 1 1)
theorem numberAtF_ok {M : q_S} {m f k : Int} (h : 0 ≤ k ∧ inMF m f) : numberAtF M m f k = (numF M m f k, thr M 0) := by
  unfold numberAtF
  rw [if_neg (fun g => g h)]
  exact congrArg _ (thr_thr M 0 0)
