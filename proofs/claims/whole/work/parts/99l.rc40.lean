/-! the law: handlers, the out array, what a wrapper does -/
theorem cl_13 : Cond.classLink RL 13 "java/lang/IllegalArgumentException" ∈ q_tw := q_mw (by decide +kernel) (by decide +kernel)
theorem cl_15 : Cond.classLink RL 15 "java/lang/IllegalStateException" ∈ q_tw := q_mw (by decide +kernel) (by decide +kernel)
theorem cl_21 : Cond.classLink RL 21 "java/lang/IndexOutOfBoundsException" ∈ q_tw := q_mw (by decide +kernel) (by decide +kernel)
theorem rc_280 {M C C2 : q_S} (h : RC M C) (h16 : 0 ≤ M 50 16 ∧ M 50 16 ≤ 120) (f : ∀ t j : Int, t ≠ 280 → C2 t j = C t j) : RC M C2 := by
  refine ⟨?_, RD_fr (rc_D h) rfl (f _ _ (by omega)) (fun j => f _ _ (by omega)), RP_fr (rc_P h) (fun _ => rfl) (fun _ => rfl) (fun _ => rfl) (fun _ => rfl) (fun _ => rfl) (fun _ => rfl) (fun t j a b => f _ _ (by omega)), RM_fr (rc_M h) (fun _ => rfl) (fun _ => rfl) (fun t j a b d => f _ _ (by omega)), RL_fr (rc_L h) (fun _ => rfl) (fun t a b => f _ _ (by omega)) (fun t j a b => f _ _ (by omega)),
    RV_fr (rc_V h) rfl (fun _ => rfl) (fun _ => rfl) (fun _ => rfl) (fun _ => rfl) (fun _ => rfl) (fun _ => rfl) (fun j => f _ _ (by omega)) (fun j => f _ _ (by omega)) (fun t j a => f _ _ (by omega)), RK_fr (rc_K h) (Int.le_refl _) (fun _ => rfl) (fun _ => rfl) (fun j => f _ _ (by omega)) (fun j => f _ _ (by omega)), RH_fr (rc_H h) (fun _ => rfl) (fun _ => rfl) (fun j => f _ _ (by omega)) (fun j => f _ _ (by omega)),
    RO_fr (rc_O h) (fun _ => rfl) (fun _ => rfl) (fun _ => rfl) rfl (fun j => f _ _ (by omega)) (fun j => f _ _ (by omega)) (fun j => f _ _ (by omega)), RT_fr (rc_T h) (fun _ => rfl) (fun _ => rfl) (fun _ => rfl) (f _ _ (by omega)) (fun j => f _ _ (by omega)) (fun j => f _ _ (by omega)) (fun j => f _ _ (by omega)) (fun j => f _ _ (by omega)), RE_fr (rc_E h) (fun _ => rfl) (fun _ => rfl) rfl (f _ _ (by omega)) (fun j => f _ _ (by omega)) (fun j => f _ _ (by omega)) (fun j => f _ _ (by omega)), CC_fr (rc_C h) (fun t j a => f _ _ (by omega))⟩
  have hS := h.1
  unfold RS at hS ⊢
  rw [f 100 9 (by omega), f 100 10 (by omega), f 100 11 (by omega), f 100 12 (by omega), f 100 13 (by omega), f 104 0 (by omega), f 108 0 (by omega), f 105 1 (by omega), f 105 2 (by omega)]
  exact hS
/-- what a wrapper of the law does -/
def WL (F : Int × q_S) (K : q_K) (M : q_S) : q_Q2 := fun o K2 M2 C2 => (q_xt K K2 ∧ q_tb K2 (F.2 50 16)) ∧ M2 = M ∧ RC F.2 C2 ∧ o = Sum.inl (some (q_I (F.2 50 41))) ∧ (F.2 50 41 = 0 → C2 280 0 = F.1)
def WLv (X : q_S) (K : q_K) (M : q_S) : q_Q2 := fun o K2 M2 C2 => (q_xt K K2 ∧ q_tb K2 (X 50 16)) ∧ M2 = M ∧ RC X C2 ∧ o = Sum.inl (some (q_I (X 50 41)))
