set_option maxRecDepth 20000 in
set_option maxHeartbeats 4000000 in
theorem c_5_L2 {K : q_K} {B C : q_S} {x y : Nat} {Q : q_Q2} (hx : K x = (6, 0, 504)) (g1 : C 504 1 = 1) (H : q_E mX5_init 87 [some (q_R x), some (q_R y), some (q_I 16)] [] K B (flC C 124 (-1) 16) 0 0 Q) : ∀ (r k : Nat), k + r = 16 → q_E mX5_init 68 [some (q_R x), some (q_R y), some (q_I (k : Int))] [] K B (flC C 124 (-1) k) 0 0 Q := by
  intro r
  induction r with
  | zero =>
    intro k h1
    have ek : k = 16 := by omega
    subst ek
    refine e_iload_n dX5_init_68 rfl ?_
    refine e_bipush dX5_init_69 (by decide) ?_
    refine e_icmp_ge (tgt := 87) dX5_init_71 (by decide) ⟨by omega, by omega⟩ ⟨by omega, by omega⟩ (fun c_71 => ?_) (fun c_71 => ?_)
    · exact H
    · exfalso; omega
  | succ r ih =>
    intro k h1
    have e0 : flC C 124 (-1) k 504 1 = 1 := by rw [flC_ap, if_neg (by omega)]; exact g1
    have ihx := ih (k + 1) (by omega)
    rw [show ((k + 1 : Nat) : Int) = (k : Int) + 1 by omega, ← flC_s] at ihx
    refine e_iload_n dX5_init_68 rfl ?_
    refine e_bipush dX5_init_69 (by decide) ?_
    refine e_icmp_ge (tgt := 87) dX5_init_71 (by decide) ⟨by omega, by omega⟩ ⟨by omega, by omega⟩ (fun c_71 => ?_) (fun c_71 => ?_)
    · exfalso; omega
    · refine e_aload_n dX5_init_74 rfl ?_
      refine c_getR (kt := (20, 16, 124)) (by decide) (Or.inr (by rw [e0]; decide)) dX5_init_75 f_X5_15 hx rfl (Nat.succ_ne_zero _) (fun q_75 h_75 => ?_)
      refine e_iload_n dX5_init_78 rfl ?_
      refine e_iconst dX5_init_79 ?_
      refine c_iast (by decide) dX5_init_80 h_75 (by omega) (by omega) (by decide) ⟨by omega, by omega⟩ ?_
      refine e_iinc (ls2 := [_, _, _]) dX5_init_81 rfl (Nat.le_of_ble_eq_true rfl) rfl ?_
      refine e_goto (tgt := 68) dX5_init_84 (by decide) ?_
      exact ihx
set_option maxRecDepth 20000 in
set_option maxHeartbeats 4000000 in
theorem c_5_L1 {K : q_K} {B C : q_S} {x y : Nat} {Q : q_Q2} (hx : K x = (6, 0, 504)) (g2 : C 504 2 = 1) (g3 : C 504 3 = 1) (H : q_E mX5_init 66 [some (q_R x), some (q_R y), some (q_I 120)] [] K B (flC C 525 999 120) 0 0 Q) : ∀ (r k : Nat), k + r = 120 → q_E mX5_init 44 [some (q_R x), some (q_R y), some (q_I (k : Int))] [] K B (flC C 525 999 k) 0 0 Q := by
  intro r
  induction r with
  | zero =>
    intro k h1
    have ek : k = 120 := by omega
    subst ek
    refine e_iload_n dX5_init_44 rfl ?_
    refine e_bipush dX5_init_45 (by decide) ?_
    refine e_icmp_ge (tgt := 66) dX5_init_47 (by decide) ⟨by omega, by omega⟩ ⟨by omega, by omega⟩ (fun c_47 => ?_) (fun c_47 => ?_)
    · exact H
    · exfalso; omega
  | succ r ih =>
    intro k h1
    have e2 : flC C 525 999 k 504 2 = 1 := by rw [flC_ap, if_neg (by omega)]; exact g2
    have e3 : flC C 525 999 k 504 3 = 1 := by rw [flC_ap, if_neg (by omega)]; exact g3
    have ihx := ih (k + 1) (by omega)
    rw [show ((k + 1 : Nat) : Int) = (k : Int) + 1 by omega, ← flC_s] at ihx
    refine e_iload_n dX5_init_44 rfl ?_
    refine e_bipush dX5_init_45 (by decide) ?_
    refine e_icmp_ge (tgt := 66) dX5_init_47 (by decide) ⟨by omega, by omega⟩ ⟨by omega, by omega⟩ (fun c_47 => ?_) (fun c_47 => ?_)
    · exfalso; omega
    · refine e_aload_n dX5_init_50 rfl ?_
      refine c_getR (kt := (39, 120, 525)) (by decide) (Or.inr (by rw [e2]; decide)) dX5_init_51 f_X5_21 hx rfl (Nat.succ_ne_zero _) (fun q_51 h_51 => ?_)
      refine e_iload_n dX5_init_54 rfl ?_
      refine e_aload_n dX5_init_55 rfl ?_
      refine c_getR (kt := (10, 0, 999)) (by decide) (Or.inr (by rw [e3]; decide)) dX5_init_56 f_X5_28 hx rfl (Nat.succ_ne_zero _) (fun q_56 h_56 => ?_)
      refine c_aast (ci := 9) 999 (by decide) dX5_init_59 h_51 (by decide) (by omega) (by omega) (by decide) h_56 (by rw [ln_525]; exact kof_999) (by rw [ln_525]; decide) ?_
      refine e_iinc (ls2 := [_, _, _]) dX5_init_60 rfl (Nat.le_of_ble_eq_true rfl) rfl ?_
      refine e_goto (tgt := 44) dX5_init_63 (by decide) ?_
      exact ihx
set_option maxRecDepth 20000 in
set_option maxHeartbeats 4000000 in
theorem c_5_init {K : q_K} {B C : q_S} {x y : Nat} (y0 : (K x).1 = 0) (hy0 : K y = (1, 0, 1000000)) (hf : ∀ t : Int, (t = 504 ∨ t = 525 ∨ t = 901 ∨ (t = 104 ∨ t = 124 ∨ t = 125 ∨ t = 999)) → q_fre K t) : q_E mX5_init 0 [some (q_R x), some (q_R y), none] [] (q_uk K x (6, 0, 504)) B C 3 142 (fun o K2 M2 C2 => o = Sum.inl none ∧ M2 = B ∧ q_nx K K2 (fun t => t = 104 ∨ t = 124 ∨ t = 125 ∨ t = 999) ∧ K2 x = (6, 0, 104) ∧ (∀ t j : Int, ¬ (t = 504 ∨ t = 525 ∨ t = 901 ∨ (t = 104 ∨ t = 124 ∨ t = 125 ∨ t = 999)) → C2 t j = C t j) ∧ C2 104 0 = 0 ∧ (∀ f : Int, 0 ≤ f → f < 16 → C2 124 f = -1) ∧ (C2 999 0 = -1 ∧ C2 999 1 = 0 ∧ C2 999 2 = -1 ∧ C2 999 3 = -1 ∧ C2 999 4 = 1000000 ∧ C2 999 5 = 1)) := by
  have hx : (q_uk K x (6, 0, 504)) x = (6, 0, 504) := uk_p
  have hy : (q_uk K x (6, 0, 504)) y = (1, 0, 1000000) := uk_k y0 hy0 (Nat.succ_ne_zero _)
  refine e_aload_n dX5_init_0 rfl ?_
  refine e_objI dX5_init_1 l_X5_3 (Nat.le_of_ble_eq_true rfl) ⟨by decide, by decide⟩ ?_
  refine e_aload_n dX5_init_4 rfl ?_
  refine e_iconst dX5_init_5 ?_
  refine c_putI (by decide) dX5_init_6 f_X5_9 rfl hx (by decide) ⟨by omega, by omega⟩ ?_
  refine e_aload_n dX5_init_9 rfl ?_
  refine e_bipush dX5_init_10 (by decide) ?_
  refine c_newI (t := 124) (n := 16) (c2 := 2) (s2 := 126) (by decide) (fre_uk (hf 124 (by omega)) (by decide)) dX5_init_12 g_aI rfl (by decide) (by omega) (by omega) (fun n_12 z_12 y_12 => ?_)
  replace hx := uk_k (k := (20, 16, 124)) y_12 hx (Nat.succ_ne_zero _)
  replace hy := uk_k (k := (20, 16, 124)) y_12 hy (Nat.succ_ne_zero _)
  have h_12 : q_uk (q_uk K x (6, 0, 504)) n_12 (20, 16, 124) n_12 = (20, 16, 124) := uk_p
  refine c_putRf 1 (by decide) dX5_init_14 f_X5_15 (Or.inr ⟨rfl, _, _, rfl⟩) hx (by decide) h_12 (Nat.succ_ne_zero _) rfl (Or.inl (by decide)) ?_
  refine e_aload_n dX5_init_17 rfl ?_
  refine e_bipush dX5_init_18 (by decide) ?_
  refine c_newA (t := 525) (n := 120) (c2 := 1) (s2 := 6) (by decide) (fre_uk (fre_uk (hf 525 (by omega)) (by decide)) (by decide)) ⟨by decide, by decide⟩ dX5_init_20 a_X5_19 rfl (by decide) (by omega) (by omega) (fun n_20 z_20 y_20 => ?_)
  replace hx := uk_k (k := (39, 120, 525)) y_20 hx (Nat.succ_ne_zero _)
  replace hy := uk_k (k := (39, 120, 525)) y_20 hy (Nat.succ_ne_zero _)
  have h_20 : (q_uk (q_uk (q_uk K x (6, 0, 504)) n_12 (20, 16, 124)) n_20 (39, 120, 525)) n_20 = (39, 120, 525) := uk_p
  refine c_putRf 1 (by decide) dX5_init_23 f_X5_21 (Or.inr ⟨rfl, _, _, rfl⟩) hx (by decide) h_20 (Nat.succ_ne_zero _) rfl (Or.inr (Or.inr (Or.inr (Or.inl ⟨rfl, rfl⟩)))) ?_
  refine e_aload_n dX5_init_26 rfl ?_
  refine e_new (t := 901) (c2 := 0) (s2 := 0) (by decide) (fre_uk (fre_uk (fre_uk (hf 901 (by omega)) (by decide)) (by decide)) (by decide)) (Or.inl (by decide)) dX5_init_27 n_X5_19 (by omega) (by have e9 : q_sz 9 = 6 := rfl; omega) (fun n_27 z_27 y_27 => ?_)
  replace hx := uk_k (k := (10, 0, 901)) y_27 hx (Nat.succ_ne_zero _)
  replace hy := uk_k (k := (10, 0, 901)) y_27 hy (Nat.succ_ne_zero _)
  replace h_20 := uk_k (k := (10, 0, 901)) y_27 h_20 (Nat.succ_ne_zero _)
  have h_27 : q_uk K n_27 (10, 0, 901) n_27 = (10, 0, 901) := uk_p
  refine e_dup dX5_init_30 rfl ?_
  refine e_iconst dX5_init_31 ?_
  refine e_iconst dX5_init_32 ?_
  refine e_iconst dX5_init_33 ?_
  refine e_iconst dX5_init_34 ?_
  refine e_aload_n dX5_init_35 rfl ?_
  have h_27 : (q_uk (q_uk (q_uk (q_uk K x (6, 0, 504)) n_12 (20, 16, 124)) n_20 (39, 120, 525)) n_27 (10, 0, 901)) n_27 = (10, 0, 901) := uk_p
  refine e_cI (as := [_, _, _, _, _]) dX5_init_36 k_X9_init rfl rfl (Or.inl l_X5_25) i_X9_init h_27 (Nat.succ_ne_zero _) rfl rfl rfl (Nat.le_of_ble_eq_true rfl) ⟨by decide, by decide⟩ (Nat.le_of_ble_eq_true rfl) (by decide) (c_9_init (c := 0) h_27 hy (by decide) ⟨by decide, by decide⟩ ⟨by decide, by decide⟩ ⟨by decide, by decide⟩ ⟨by decide, by decide⟩) ?_
  refine e_finR (q := n_27) (k := 10) (n := 0) (t := 901) (t2 := 999) h_27 (by decide) ⟨by decide, by decide⟩ (by decide) ⟨by decide, by decide⟩ (fre_uk (fre_uk (fre_uk (fre_uk (hf 999 (by omega)) (by decide)) (by decide)) (by decide)) (by decide)) (fun j hj => ?_) ?_
  · have e := isr_9 hj
    subst e
    have e4 : viC (q_zt (q_us (q_zt (q_us (q_zt (q_us C 504 0 0) 124) 504 1 1) 525) 504 2 1) 901) (-1) 0 (-1) (-1) 0 901 4 = 1000000 := by rw [viC_ap]; rfl
    rw [e4]
    exact ⟨by decide, rfl, by decide⟩
  have ne27 : ∀ b kt, (q_uk (q_uk (q_uk (q_uk K x (6, 0, 504)) n_12 (20, 16, 124)) n_20 (39, 120, 525)) n_27 (10, 0, 901)) b = kt → kt.2.2 ≠ 901 → (q_uk (q_uk (q_uk (q_uk (q_uk K x (6, 0, 504)) n_12 (20, 16, 124)) n_20 (39, 120, 525)) n_27 (10, 0, 901)) n_27 (10, 0, 999)) b = kt := fun b kt g ne => by
    have e : b ≠ n_27 := fun e => ne (by rw [← g, e, uk_p])
    rw [uk_n e]; exact g
  replace hx := ne27 _ _ hx (by decide)
  replace h_20 := ne27 _ _ h_20 (by decide)
  have h27 : (q_uk (q_uk (q_uk (q_uk (q_uk K x (6, 0, 504)) n_12 (20, 16, 124)) n_20 (39, 120, 525)) n_27 (10, 0, 901)) n_27 (10, 0, 999)) n_27 = (10, 0, 999) := uk_p
  refine c_putRf 1 (by decide) dX5_init_39 f_X5_28 (Or.inr ⟨rfl, _, _, rfl⟩) hx (by decide) h27 (Nat.succ_ne_zero _) rfl (Or.inl (by decide)) ?_
  refine e_iconst dX5_init_42 ?_
  refine e_istore_n (ls2 := [_, _, _]) dX5_init_43 (Nat.le_of_ble_eq_true rfl) rfl ?_
  have q0 : ∀ t j : Int, t ≠ 525 → t ≠ 124 → (flC (flC (q_us (rtC (viC (q_zt (q_us (q_zt (q_us (q_zt (q_us C 504 0 0) 124) 504 1 1) 525) 504 2 1) 901) (-1) 0 (-1) (-1) 0) 901 999) 504 3 1) 525 999 120) 124 (-1) 16) t j = (q_us (rtC (viC (q_zt (q_us (q_zt (q_us (q_zt (q_us C 504 0 0) 124) 504 1 1) 525) 504 2 1) 901) (-1) 0 (-1) (-1) 0) 901 999) 504 3 1) t j := fun t j a b => by rw [flC_ap, if_neg (fun g => b g.1), flC_ap, if_neg (fun g => a g.1)]
  have q504 : (q_us (rtC (viC (q_zt (q_us (q_zt (q_us (q_zt (q_us C 504 0 0) 124) 504 1 1) 525) 504 2 1) 901) (-1) 0 (-1) (-1) 0) 901 999) 504 3 1) 504 0 = 0 ∧ (q_us (rtC (viC (q_zt (q_us (q_zt (q_us (q_zt (q_us C 504 0 0) 124) 504 1 1) 525) 504 2 1) 901) (-1) 0 (-1) (-1) 0) 901 999) 504 3 1) 504 1 = 1 ∧ (q_us (rtC (viC (q_zt (q_us (q_zt (q_us (q_zt (q_us C 504 0 0) 124) 504 1 1) 525) 504 2 1) 901) (-1) 0 (-1) (-1) 0) 901 999) 504 3 1) 504 2 = 1 ∧ (q_us (rtC (viC (q_zt (q_us (q_zt (q_us (q_zt (q_us C 504 0 0) 124) 504 1 1) 525) 504 2 1) 901) (-1) 0 (-1) (-1) 0) 901 999) 504 3 1) 504 3 = 1 := by
    simp only [q_us_ap, rtC_ap, viC_ap, q_zt_ap, Int.reduceEq, false_and, and_false, and_self, true_and, and_true, if_true, if_false]
  have H : q_E mX5_init 87 [some (q_R x), some (q_R y), some (q_I 16)] [] (q_uk (q_uk (q_uk (q_uk (q_uk K x (6, 0, 504)) n_12 (20, 16, 124)) n_20 (39, 120, 525)) n_27 (10, 0, 901)) n_27 (10, 0, 999)) B (flC (flC (q_us (rtC (viC (q_zt (q_us (q_zt (q_us (q_zt (q_us C 504 0 0) 124) 504 1 1) 525) 504 2 1) 901) (-1) 0 (-1) (-1) 0) 901 999) 504 3 1) 525 999 120) 124 (-1) 16) 0 0 (fun o K2 M2 C2 => o = Sum.inl none ∧ M2 = B ∧ q_nx K K2 (fun t => t = 104 ∨ t = 124 ∨ t = 125 ∨ t = 999) ∧ K2 x = (6, 0, 104) ∧ (∀ t j : Int, ¬ (t = 504 ∨ t = 525 ∨ t = 901 ∨ (t = 104 ∨ t = 124 ∨ t = 125 ∨ t = 999)) → C2 t j = C t j) ∧ C2 104 0 = 0 ∧ (∀ f : Int, 0 ≤ f → f < 16 → C2 124 f = -1) ∧ (C2 999 0 = -1 ∧ C2 999 1 = 0 ∧ C2 999 2 = -1 ∧ C2 999 3 = -1 ∧ C2 999 4 = 1000000 ∧ C2 999 5 = 1)) := by
    have fa : q_fre (q_uk (q_uk (q_uk (q_uk (q_uk K x (6, 0, 504)) n_12 (20, 16, 124)) n_20 (39, 120, 525)) n_27 (10, 0, 901)) n_27 (10, 0, 999)) 104 := fun b g e => by
      by_cases e9 : b = n_27
      · rw [e9, uk_p] at e; exact absurd e (by decide)
      · rw [uk_n e9] at g e; exact (fre_uk (fre_uk (fre_uk (fre_uk (hf 104 (by omega)) (by decide)) (by decide)) (by decide)) (by decide)) b g e
    have fb : q_fre (q_uk (q_uk (q_uk (q_uk (q_uk K x (6, 0, 504)) n_12 (20, 16, 124)) n_20 (39, 120, 525)) n_27 (10, 0, 901)) n_27 (10, 0, 999)) 125 := fun b g e => by
      by_cases e9 : b = n_27
      · rw [e9, uk_p] at e; exact absurd e (by decide)
      · rw [uk_n e9] at g e; exact (fre_uk (fre_uk (fre_uk (fre_uk (hf 125 (by omega)) (by decide)) (by decide)) (by decide)) (by decide)) b g e
    refine e_fin2R (q := x) (a := n_20) (ci := 5) (c9 := 9) (n := 120) (t := 504) (ta := 525) (t2 := 104) (ta2 := 125) (j0 := 2) hx h_20 ⟨by decide, by decide⟩ ⟨by decide, by decide⟩ ⟨by decide, by decide⟩ ⟨⟨by decide, by decide⟩, by decide, by decide⟩ fa fb (fun z j g h => by have := ln_par h g; omega) (fun z j g h e => by have := ln_par h g; omega) rfl rfl (fun g => rfl) (fun j hj => ?_) (fun j hj => ?_) ?_
    · rcases isr_5 hj with rfl | rfl | rfl
      · rw [q0 _ _ (by decide) (by decide), q504.2.1]; exact ⟨by decide, Or.inr ⟨rfl, by decide⟩⟩
      · rw [q0 _ _ (by decide) (by decide), q504.2.2.1]; exact ⟨by decide, Or.inl ⟨rfl, rfl⟩⟩
      · rw [q0 _ _ (by decide) (by decide), q504.2.2.2]; exact ⟨by decide, Or.inr ⟨rfl, by decide⟩⟩
    · have hj2 := isr_arr (by decide) hj
      have d : (flC (flC (q_us (rtC (viC (q_zt (q_us (q_zt (q_us (q_zt (q_us C 504 0 0) 124) 504 1 1) 525) 504 2 1) 901) (-1) 0 (-1) (-1) 0) 901 999) 504 3 1) 525 999 120) 124 (-1) 16) 525 j = 999 := by rw [flC_ap, if_neg (by omega), flC_ap, if_pos ⟨rfl, hj2.1, hj2.2⟩]
      rw [d, ln_125, ln_525]
      exact ⟨by decide, rfl, by decide⟩
    · have val : ∀ t j : Int, t ≠ 104 → t ≠ 125 → rtC (rtC (flC (flC (q_us (rtC (viC (q_zt (q_us (q_zt (q_us (q_zt (q_us C 504 0 0) 124) 504 1 1) 525) 504 2 1) 901) (-1) 0 (-1) (-1) 0) 901 999) 504 3 1) 525 999 120) 124 (-1) 16) 504 104) 525 125 t j = (flC (flC (q_us (rtC (viC (q_zt (q_us (q_zt (q_us (q_zt (q_us C 504 0 0) 124) 504 1 1) 525) 504 2 1) 901) (-1) 0 (-1) (-1) 0) 901 999) 504 3 1) 525 999 120) 124 (-1) 16) t j := fun t j a b => by rw [rtC_ap, if_neg b, rtC_ap, if_neg a]
      have nxa : x ≠ n_20 := fun e => absurd (show (6 : Nat) = 39 from congrArg (fun z => z.1) (hx.symm.trans ((congrArg (q_uk (q_uk (q_uk (q_uk (q_uk K x (6, 0, 504)) n_12 (20, 16, 124)) n_20 (39, 120, 525)) n_27 (10, 0, 901)) n_27 (10, 0, 999)) e).trans h_20))) (by decide)
      refine e_ret dX5_init_87 rfl ⟨rfl, rfl, ?_, by rw [uk_n nxa, uk_p], fun t j g => ?_, ?_, fun f a b => ?_, ?_⟩
      · have N1 : q_nz K (q_uk (q_uk K x (6, 0, 504)) n_12 (20, 16, 124)) x (fun t => t = 104 ∨ t = 124 ∨ t = 125 ∨ t = 999) := nz_1 (nz_0 y0) y_12 (by decide)
        refine ⟨fun b g => ?_, fun b g => ?_⟩
        · have e1 : b ≠ x := fun e => by subst e; exact g y0
          have e0 := N1.1 b g
          have e2 : b ≠ n_20 := fun e => by subst e; rw [← e0] at g; exact g y_20
          have e3 : b ≠ n_27 := fun e => by subst e; rw [uk_n e2, e0] at y_27; exact g y_27
          rw [uk_n e2, uk_n e1, uk_n e3, uk_n e3, uk_n e2]; exact e0
        · by_cases e2 : b = n_20
          · rw [e2, uk_p]; exact Or.inr (Or.inr (Or.inr (Or.inl rfl)))
          · rw [uk_n e2] at g ⊢
            by_cases e1 : b = x
            · rw [e1, uk_p]; exact Or.inr (Or.inl rfl)
            · rw [uk_n e1] at g ⊢
              by_cases e3 : b = n_27
              · rw [e3, uk_p]; exact Or.inr (Or.inr (Or.inr (Or.inr rfl)))
              · rw [uk_n e3, uk_n e3, uk_n e2] at g ⊢; exact N1.2 b e1 g
      · rw [val t j (by omega) (by omega), q0 t j (by omega) (by omega)]
        simp only [q_us_ap, rtC_ap, viC_ap, q_zt_ap]
        repeat rw [if_neg (by omega)]
      · rw [rtC_ap, if_neg (by decide), rtC_ap, if_pos rfl, q0 _ _ (by decide) (by decide)]; exact q504.1
      · rw [val _ _ (by decide) (by decide), flC_ap, if_pos ⟨rfl, a, by omega⟩]
      · have v9 : ∀ j, rtC (rtC (flC (flC (q_us (rtC (viC (q_zt (q_us (q_zt (q_us (q_zt (q_us C 504 0 0) 124) 504 1 1) 525) 504 2 1) 901) (-1) 0 (-1) (-1) 0) 901 999) 504 3 1) 525 999 120) 124 (-1) 16) 504 104) 525 125 999 j = (viC (q_zt (q_us (q_zt (q_us (q_zt (q_us C 504 0 0) 124) 504 1 1) 525) 504 2 1) 901) (-1) 0 (-1) (-1) 0) 901 j := fun j => by
          rw [val _ _ (by decide) (by decide), q0 _ _ (by decide) (by decide), us_ne (by decide), rtC_ap, if_pos rfl]
        rw [v9, v9, v9, v9, v9, v9]
        simp only [viC_ap, Int.reduceEq, and_false, and_self, true_and, and_true, if_true, if_false, Int.reduceMul, Int.reduceAdd]
  have H66 : q_E mX5_init 66 [some (q_R x), some (q_R y), some (q_I 120)] [] (q_uk (q_uk (q_uk (q_uk (q_uk K x (6, 0, 504)) n_12 (20, 16, 124)) n_20 (39, 120, 525)) n_27 (10, 0, 901)) n_27 (10, 0, 999)) B (flC (q_us (rtC (viC (q_zt (q_us (q_zt (q_us (q_zt (q_us C 504 0 0) 124) 504 1 1) 525) 504 2 1) 901) (-1) 0 (-1) (-1) 0) 901 999) 504 3 1) 525 999 120) 0 0 (fun o K2 M2 C2 => o = Sum.inl none ∧ M2 = B ∧ q_nx K K2 (fun t => t = 104 ∨ t = 124 ∨ t = 125 ∨ t = 999) ∧ K2 x = (6, 0, 104) ∧ (∀ t j : Int, ¬ (t = 504 ∨ t = 525 ∨ t = 901 ∨ (t = 104 ∨ t = 124 ∨ t = 125 ∨ t = 999)) → C2 t j = C t j) ∧ C2 104 0 = 0 ∧ (∀ f : Int, 0 ≤ f → f < 16 → C2 124 f = -1) ∧ (C2 999 0 = -1 ∧ C2 999 1 = 0 ∧ C2 999 2 = -1 ∧ C2 999 3 = -1 ∧ C2 999 4 = 1000000 ∧ C2 999 5 = 1)) := by
    refine e_iconst dX5_init_66 ?_
    refine e_istore_n (ls2 := [_, _, _]) dX5_init_67 (Nat.le_of_ble_eq_true rfl) rfl ?_
    have l2 := c_5_L2 (y := y) (C := flC (q_us (rtC (viC (q_zt (q_us (q_zt (q_us (q_zt (q_us C 504 0 0) 124) 504 1 1) 525) 504 2 1) 901) (-1) 0 (-1) (-1) 0) 901 999) 504 3 1) 525 999 120) hx (by rw [flC_ap, if_neg (by omega)]; exact q504.2.1) H 16 0 (by omega)
    rw [flC_0] at l2
    exact l2
  have l1 := c_5_L1 (y := y) (C := (q_us (rtC (viC (q_zt (q_us (q_zt (q_us (q_zt (q_us C 504 0 0) 124) 504 1 1) 525) 504 2 1) 901) (-1) 0 (-1) (-1) 0) 901 999) 504 3 1)) hx q504.2.2.1 q504.2.2.2 H66 120 0 (by omega)
  rw [flC_0] at l1
  exact l1
