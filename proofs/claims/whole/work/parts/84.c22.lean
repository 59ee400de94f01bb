set_option maxRecDepth 20000 in
set_option maxHeartbeats 4000000 in
theorem c_2_init {K : q_K} {B C : q_S} {x : Nat} (y0 : (K x).1 = 0) (hf : ∀ t : Int, (t = 503 ∨ (t = 103 ∨ (121 ≤ t ∧ t ≤ 123))) → q_fre K t) : q_E mX2_init 0 [some (q_R x)] [] (q_uk K x (3, 0, 503)) B C 3 1536 (fun o K2 M2 C2 => o = Sum.inl none ∧ M2 = B ∧ q_nx K K2 (fun t => t = 103 ∨ (121 ≤ t ∧ t ≤ 123)) ∧ K2 x = (3, 0, 103) ∧ (∀ t j : Int, ¬ (t = 503 ∨ (t = 103 ∨ (121 ≤ t ∧ t ≤ 123))) → C2 t j = C t j) ∧ C2 103 3 = 0) := by
  have hx : (q_uk K x (3, 0, 503)) x = (3, 0, 503) := uk_p
  refine e_aload_n dX2_init_0 rfl ?_
  refine e_objI dX2_init_1 l_X2_3 (Nat.le_of_ble_eq_true rfl) ⟨by decide, by decide⟩ ?_
  refine e_aload_n dX2_init_4 rfl ?_
  refine e_sipush dX2_init_5 (by decide) ?_
  refine c_newI (t := 121) (n := 512) (c2 := 2) (s2 := 1024) (by decide) (fre_uk (hf 121 (by omega)) (by decide)) dX2_init_8 g_aI rfl (by decide) (by omega) (by omega) (fun n_8 z_8 y_8 => ?_)
  replace hx := uk_k (k := (20, 512, 121)) y_8 hx (Nat.succ_ne_zero _)
  have h_8 : q_uk (q_uk K x (3, 0, 503)) n_8 (20, 512, 121) n_8 = (20, 512, 121) := uk_p
  refine c_putRf 1 (by decide) dX2_init_10 f_X2_9 (Or.inr ⟨rfl, _, _, rfl⟩) hx (by decide) h_8 (Nat.succ_ne_zero _) rfl (Or.inl (by decide)) ?_
  refine e_aload_n dX2_init_13 rfl ?_
  refine e_sipush dX2_init_14 (by decide) ?_
  refine c_newI (t := 122) (n := 512) (c2 := 1) (s2 := 512) (by decide) (fre_uk (fre_uk (hf 122 (by omega)) (by decide)) (by decide)) dX2_init_17 g_aI rfl (by decide) (by omega) (by omega) (fun n_17 z_17 y_17 => ?_)
  replace hx := uk_k (k := (20, 512, 122)) y_17 hx (Nat.succ_ne_zero _)
  have h_17 : q_uk (q_uk (q_uk K x (3, 0, 503)) n_8 (20, 512, 121)) n_17 (20, 512, 122) n_17 = (20, 512, 122) := uk_p
  refine c_putRf 1 (by decide) dX2_init_19 f_X2_15 (Or.inr ⟨rfl, _, _, rfl⟩) hx (by decide) h_17 (Nat.succ_ne_zero _) rfl (Or.inl (by decide)) ?_
  refine e_aload_n dX2_init_22 rfl ?_
  refine e_sipush dX2_init_23 (by decide) ?_
  refine c_newI (t := 123) (n := 512) (c2 := 0) (s2 := 0) (by decide) (fre_uk (fre_uk (fre_uk (hf 123 (by omega)) (by decide)) (by decide)) (by decide)) dX2_init_26 g_aI rfl (by decide) (by omega) (by omega) (fun n_26 z_26 y_26 => ?_)
  replace hx := uk_k (k := (20, 512, 123)) y_26 hx (Nat.succ_ne_zero _)
  have h_26 : q_uk (q_uk (q_uk (q_uk K x (3, 0, 503)) n_8 (20, 512, 121)) n_17 (20, 512, 122)) n_26 (20, 512, 123) n_26 = (20, 512, 123) := uk_p
  refine c_putRf 1 (by decide) dX2_init_28 f_X2_18 (Or.inr ⟨rfl, _, _, rfl⟩) hx (by decide) h_26 (Nat.succ_ne_zero _) rfl (Or.inl (by decide)) ?_
  refine e_aload_n dX2_init_31 rfl ?_
  refine e_iconst dX2_init_32 ?_
  refine c_putI (by decide) dX2_init_33 f_X2_21 rfl hx (by decide) ⟨by omega, by omega⟩ ?_
  refine e_finR (q := x) (k := 3) (n := 0) (t := 503) (t2 := 103) hx (by decide) ⟨by decide, by decide⟩ (by decide) ⟨by decide, by decide⟩ (fre_uk (fre_uk (fre_uk (fre_uk (hf 103 (by omega)) (by decide)) (by decide)) (by decide)) (by decide)) (fun j hj => ?_) ?_
  · rcases isr_2 hj with rfl | rfl | rfl <;> (simp only [q_us_ap, q_zt_ap, rtC_ap, Int.reduceEq, Int.reduceNeg, false_and, and_false, and_self, true_and, and_true, if_true, if_false]; exact ⟨by decide, rfl, by decide⟩)
  exact e_ret dX2_init_36 rfl ⟨rfl, rfl, nz_E (nz_1 (nz_1 (nz_1 (nz_0 y0) y_8 (by decide)) y_17 (by decide)) y_26 (by decide)) y0 (by decide), uk_p, (fun t j g => by simp only [rtC_ap, q_us_ap, q_zt_ap]; repeat rw [if_neg (by omega)]), (by simp only [q_us_ap, q_zt_ap, rtC_ap, Int.reduceEq, Int.reduceNeg, false_and, and_false, and_self, true_and, and_true, if_true, if_false])⟩
set_option maxRecDepth 20000 in
set_option maxHeartbeats 4000000 in
theorem c_3_init {K : q_K} {B C : q_S} {x : Nat} (y0 : (K x).1 = 0) (hf : ∀ t : Int, (t = 508 ∨ (t = 108 ∨ (135 ≤ t ∧ t ≤ 137))) → q_fre K t) : q_E mX3_init 0 [some (q_R x)] [] (q_uk K x (4, 0, 508)) B C 3 30 (fun o K2 M2 C2 => o = Sum.inl none ∧ M2 = B ∧ q_nx K K2 (fun t => t = 108 ∨ (135 ≤ t ∧ t ≤ 137)) ∧ K2 x = (4, 0, 108) ∧ (∀ t j : Int, ¬ (t = 508 ∨ (t = 108 ∨ (135 ≤ t ∧ t ≤ 137))) → C2 t j = C t j) ∧ C2 108 0 = 0) := by
  have hx : (q_uk K x (4, 0, 508)) x = (4, 0, 508) := uk_p
  refine e_aload_n dX3_init_0 rfl ?_
  refine e_objI dX3_init_1 l_X3_3 (Nat.le_of_ble_eq_true rfl) ⟨by decide, by decide⟩ ?_
  refine e_aload_n dX3_init_4 rfl ?_
  refine e_iconst dX3_init_5 ?_
  refine c_putI (by decide) dX3_init_6 f_X3_9 rfl hx (by decide) ⟨by omega, by omega⟩ ?_
  refine e_aload_n dX3_init_9 rfl ?_
  refine e_bipush dX3_init_10 (by decide) ?_
  refine c_newI (t := 135) (n := 10) (c2 := 2) (s2 := 20) (by decide) (fre_uk (hf 135 (by omega)) (by decide)) dX3_init_12 g_aI rfl (by decide) (by omega) (by omega) (fun n_12 z_12 y_12 => ?_)
  replace hx := uk_k (k := (20, 10, 135)) y_12 hx (Nat.succ_ne_zero _)
  have h_12 : q_uk (q_uk K x (4, 0, 508)) n_12 (20, 10, 135) n_12 = (20, 10, 135) := uk_p
  refine c_putRf 1 (by decide) dX3_init_14 f_X3_15 (Or.inr ⟨rfl, _, _, rfl⟩) hx (by decide) h_12 (Nat.succ_ne_zero _) rfl (Or.inl (by decide)) ?_
  refine e_aload_n dX3_init_17 rfl ?_
  refine e_bipush dX3_init_18 (by decide) ?_
  refine c_newI (t := 136) (n := 10) (c2 := 1) (s2 := 10) (by decide) (fre_uk (fre_uk (hf 136 (by omega)) (by decide)) (by decide)) dX3_init_20 g_aI rfl (by decide) (by omega) (by omega) (fun n_20 z_20 y_20 => ?_)
  replace hx := uk_k (k := (20, 10, 136)) y_20 hx (Nat.succ_ne_zero _)
  have h_20 : q_uk (q_uk (q_uk K x (4, 0, 508)) n_12 (20, 10, 135)) n_20 (20, 10, 136) n_20 = (20, 10, 136) := uk_p
  refine c_putRf 1 (by decide) dX3_init_22 f_X3_19 (Or.inr ⟨rfl, _, _, rfl⟩) hx (by decide) h_20 (Nat.succ_ne_zero _) rfl (Or.inl (by decide)) ?_
  refine e_aload_n dX3_init_25 rfl ?_
  refine e_bipush dX3_init_26 (by decide) ?_
  refine c_newI (t := 137) (n := 10) (c2 := 0) (s2 := 0) (by decide) (fre_uk (fre_uk (fre_uk (hf 137 (by omega)) (by decide)) (by decide)) (by decide)) dX3_init_28 g_aI rfl (by decide) (by omega) (by omega) (fun n_28 z_28 y_28 => ?_)
  replace hx := uk_k (k := (20, 10, 137)) y_28 hx (Nat.succ_ne_zero _)
  have h_28 : q_uk (q_uk (q_uk (q_uk K x (4, 0, 508)) n_12 (20, 10, 135)) n_20 (20, 10, 136)) n_28 (20, 10, 137) n_28 = (20, 10, 137) := uk_p
  refine c_putRf 1 (by decide) dX3_init_30 f_X3_22 (Or.inr ⟨rfl, _, _, rfl⟩) hx (by decide) h_28 (Nat.succ_ne_zero _) rfl (Or.inl (by decide)) ?_
  refine e_finR (q := x) (k := 4) (n := 0) (t := 508) (t2 := 108) hx (by decide) ⟨by decide, by decide⟩ (by decide) ⟨by decide, by decide⟩ (fre_uk (fre_uk (fre_uk (fre_uk (hf 108 (by omega)) (by decide)) (by decide)) (by decide)) (by decide)) (fun j hj => ?_) ?_
  · rcases isr_3 hj with rfl | rfl | rfl <;> (simp only [q_us_ap, q_zt_ap, rtC_ap, Int.reduceEq, Int.reduceNeg, false_and, and_false, and_self, true_and, and_true, if_true, if_false]; exact ⟨by decide, rfl, by decide⟩)
  exact e_ret dX3_init_33 rfl ⟨rfl, rfl, nz_E (nz_1 (nz_1 (nz_1 (nz_0 y0) y_12 (by decide)) y_20 (by decide)) y_28 (by decide)) y0 (by decide), uk_p, (fun t j g => by simp only [rtC_ap, q_us_ap, q_zt_ap]; repeat rw [if_neg (by omega)]), (by simp only [q_us_ap, q_zt_ap, rtC_ap, Int.reduceEq, Int.reduceNeg, false_and, and_false, and_self, true_and, and_true, if_true, if_false])⟩
set_option maxRecDepth 20000 in
set_option maxHeartbeats 4000000 in
theorem c_4_init {K : q_K} {B C : q_S} {x : Nat} (y0 : (K x).1 = 0) (hf : ∀ t : Int, (t = 506 ∨ (t = 106 ∨ (131 ≤ t ∧ t ≤ 132))) → q_fre K t) : q_E mX4_init 0 [some (q_R x)] [] (q_uk K x (5, 0, 506)) B C 2 32 (fun o K2 M2 C2 => o = Sum.inl none ∧ M2 = B ∧ q_nx K K2 (fun t => t = 106 ∨ (131 ≤ t ∧ t ≤ 132)) ∧ K2 x = (5, 0, 106) ∧ (∀ t j : Int, ¬ (t = 506 ∨ (t = 106 ∨ (131 ≤ t ∧ t ≤ 132))) → C2 t j = C t j) ∧ (∀ f, C2 131 f = 0 ∧ C2 132 f = 0)) := by
  have hx : (q_uk K x (5, 0, 506)) x = (5, 0, 506) := uk_p
  refine e_aload_n dX4_init_0 rfl ?_
  refine e_objI dX4_init_1 l_X4_3 (Nat.le_of_ble_eq_true rfl) ⟨by decide, by decide⟩ ?_
  refine e_aload_n dX4_init_4 rfl ?_
  refine e_bipush dX4_init_5 (by decide) ?_
  refine c_newI (t := 131) (n := 16) (c2 := 1) (s2 := 16) (by decide) (fre_uk (hf 131 (by omega)) (by decide)) dX4_init_7 g_aI rfl (by decide) (by omega) (by omega) (fun n_7 z_7 y_7 => ?_)
  replace hx := uk_k (k := (20, 16, 131)) y_7 hx (Nat.succ_ne_zero _)
  have h_7 : q_uk (q_uk K x (5, 0, 506)) n_7 (20, 16, 131) n_7 = (20, 16, 131) := uk_p
  refine c_putRf 1 (by decide) dX4_init_9 f_X4_9 (Or.inr ⟨rfl, _, _, rfl⟩) hx (by decide) h_7 (Nat.succ_ne_zero _) rfl (Or.inl (by decide)) ?_
  refine e_aload_n dX4_init_12 rfl ?_
  refine e_bipush dX4_init_13 (by decide) ?_
  refine c_newI (t := 132) (n := 16) (c2 := 0) (s2 := 0) (by decide) (fre_uk (fre_uk (hf 132 (by omega)) (by decide)) (by decide)) dX4_init_15 g_aI rfl (by decide) (by omega) (by omega) (fun n_15 z_15 y_15 => ?_)
  replace hx := uk_k (k := (20, 16, 132)) y_15 hx (Nat.succ_ne_zero _)
  have h_15 : q_uk (q_uk (q_uk K x (5, 0, 506)) n_7 (20, 16, 131)) n_15 (20, 16, 132) n_15 = (20, 16, 132) := uk_p
  refine c_putRf 1 (by decide) dX4_init_17 f_X4_15 (Or.inr ⟨rfl, _, _, rfl⟩) hx (by decide) h_15 (Nat.succ_ne_zero _) rfl (Or.inl (by decide)) ?_
  refine e_finR (q := x) (k := 5) (n := 0) (t := 506) (t2 := 106) hx (by decide) ⟨by decide, by decide⟩ (by decide) ⟨by decide, by decide⟩ (fre_uk (fre_uk (fre_uk (hf 106 (by omega)) (by decide)) (by decide)) (by decide)) (fun j hj => ?_) ?_
  · rcases isr_4 hj with rfl | rfl <;> (simp only [q_us_ap, q_zt_ap, rtC_ap, Int.reduceEq, Int.reduceNeg, false_and, and_false, and_self, true_and, and_true, if_true, if_false]; exact ⟨by decide, rfl, by decide⟩)
  exact e_ret dX4_init_20 rfl ⟨rfl, rfl, nz_E (nz_1 (nz_1 (nz_0 y0) y_7 (by decide)) y_15 (by decide)) y0 (by decide), uk_p, (fun t j g => by simp only [rtC_ap, q_us_ap, q_zt_ap]; repeat rw [if_neg (by omega)]), (fun f => ⟨by simp only [q_us_ap, q_zt_ap, rtC_ap, Int.reduceEq, Int.reduceNeg, false_and, and_false, and_self, true_and, and_true, if_true, if_false], by simp only [q_us_ap, q_zt_ap, rtC_ap, Int.reduceEq, Int.reduceNeg, false_and, and_false, and_self, true_and, and_true, if_true, if_false]⟩)⟩
set_option maxRecDepth 20000 in
set_option maxHeartbeats 4000000 in
theorem c_8_init {K : q_K} {B C : q_S} {x : Nat} (y0 : (K x).1 = 0) (hf : ∀ t : Int, (t = 505 ∨ (t = 105 ∨ (126 ≤ t ∧ t ≤ 130))) → q_fre K t) : q_E mX8_init 0 [some (q_R x)] [] (q_uk K x (9, 0, 505)) B C 5 2560 (fun o K2 M2 C2 => o = Sum.inl none ∧ M2 = B ∧ q_nx K K2 (fun t => t = 105 ∨ (126 ≤ t ∧ t ≤ 130)) ∧ K2 x = (9, 0, 105) ∧ (∀ t j : Int, ¬ (t = 505 ∨ (t = 105 ∨ (126 ≤ t ∧ t ≤ 130))) → C2 t j = C t j) ∧ C2 105 0 = 0 ∧ C2 105 1 = 0 ∧ C2 105 2 = 0) := by
  have hx : (q_uk K x (9, 0, 505)) x = (9, 0, 505) := uk_p
  refine e_aload_n dX8_init_0 rfl ?_
  refine e_objI dX8_init_1 l_X8_3 (Nat.le_of_ble_eq_true rfl) ⟨by decide, by decide⟩ ?_
  refine e_aload_n dX8_init_4 rfl ?_
  refine e_iconst dX8_init_5 ?_
  refine c_putI (by decide) dX8_init_6 f_X8_9 rfl hx (by decide) ⟨by omega, by omega⟩ ?_
  refine e_aload_n dX8_init_9 rfl ?_
  refine e_iconst dX8_init_10 ?_
  refine c_putI (by decide) dX8_init_11 f_X8_15 rfl hx (by decide) ⟨by omega, by omega⟩ ?_
  refine e_aload_n dX8_init_14 rfl ?_
  refine e_iconst dX8_init_15 ?_
  refine c_putI (by decide) dX8_init_16 f_X8_18 rfl hx (by decide) ⟨by omega, by omega⟩ ?_
  refine e_aload_n dX8_init_19 rfl ?_
  refine e_sipush dX8_init_20 (by decide) ?_
  refine c_newI (t := 126) (n := 512) (c2 := 4) (s2 := 2048) (by decide) (fre_uk (hf 126 (by omega)) (by decide)) dX8_init_23 g_aI rfl (by decide) (by omega) (by omega) (fun n_23 z_23 y_23 => ?_)
  replace hx := uk_k (k := (20, 512, 126)) y_23 hx (Nat.succ_ne_zero _)
  have h_23 : q_uk (q_uk K x (9, 0, 505)) n_23 (20, 512, 126) n_23 = (20, 512, 126) := uk_p
  refine c_putRf 1 (by decide) dX8_init_25 f_X8_21 (Or.inr ⟨rfl, _, _, rfl⟩) hx (by decide) h_23 (Nat.succ_ne_zero _) rfl (Or.inl (by decide)) ?_
  refine e_aload_n dX8_init_28 rfl ?_
  refine e_sipush dX8_init_29 (by decide) ?_
  refine c_newI (t := 127) (n := 512) (c2 := 3) (s2 := 1536) (by decide) (fre_uk (fre_uk (hf 127 (by omega)) (by decide)) (by decide)) dX8_init_32 g_aI rfl (by decide) (by omega) (by omega) (fun n_32 z_32 y_32 => ?_)
  replace hx := uk_k (k := (20, 512, 127)) y_32 hx (Nat.succ_ne_zero _)
  have h_32 : q_uk (q_uk (q_uk K x (9, 0, 505)) n_23 (20, 512, 126)) n_32 (20, 512, 127) n_32 = (20, 512, 127) := uk_p
  refine c_putRf 1 (by decide) dX8_init_34 f_X8_25 (Or.inr ⟨rfl, _, _, rfl⟩) hx (by decide) h_32 (Nat.succ_ne_zero _) rfl (Or.inl (by decide)) ?_
  refine e_aload_n dX8_init_37 rfl ?_
  refine e_sipush dX8_init_38 (by decide) ?_
  refine c_newZ (t := 128) (n := 512) (c2 := 2) (s2 := 1024) (by decide) (fre_uk (fre_uk (fre_uk (hf 128 (by omega)) (by decide)) (by decide)) (by decide)) dX8_init_41 g_aZ rfl (by decide) (by omega) (by omega) (fun n_41 z_41 y_41 => ?_)
  replace hx := uk_k (k := (22, 512, 128)) y_41 hx (Nat.succ_ne_zero _)
  have h_41 : q_uk (q_uk (q_uk (q_uk K x (9, 0, 505)) n_23 (20, 512, 126)) n_32 (20, 512, 127)) n_41 (22, 512, 128) n_41 = (22, 512, 128) := uk_p
  refine c_putRf 1 (by decide) dX8_init_43 f_X8_28 (Or.inr ⟨rfl, _, _, rfl⟩) hx (by decide) h_41 (Nat.succ_ne_zero _) rfl (Or.inl (by decide)) ?_
  refine e_aload_n dX8_init_46 rfl ?_
  refine e_sipush dX8_init_47 (by decide) ?_
  refine c_newZ (t := 129) (n := 512) (c2 := 1) (s2 := 512) (by decide) (fre_uk (fre_uk (fre_uk (fre_uk (hf 129 (by omega)) (by decide)) (by decide)) (by decide)) (by decide)) dX8_init_50 g_aZ rfl (by decide) (by omega) (by omega) (fun n_50 z_50 y_50 => ?_)
  replace hx := uk_k (k := (22, 512, 129)) y_50 hx (Nat.succ_ne_zero _)
  have h_50 : q_uk (q_uk (q_uk (q_uk (q_uk K x (9, 0, 505)) n_23 (20, 512, 126)) n_32 (20, 512, 127)) n_41 (22, 512, 128)) n_50 (22, 512, 129) n_50 = (22, 512, 129) := uk_p
  refine c_putRf 1 (by decide) dX8_init_52 f_X8_32 (Or.inr ⟨rfl, _, _, rfl⟩) hx (by decide) h_50 (Nat.succ_ne_zero _) rfl (Or.inl (by decide)) ?_
  refine e_aload_n dX8_init_55 rfl ?_
  refine e_sipush dX8_init_56 (by decide) ?_
  refine c_newZ (t := 130) (n := 512) (c2 := 0) (s2 := 0) (by decide) (fre_uk (fre_uk (fre_uk (fre_uk (fre_uk (hf 130 (by omega)) (by decide)) (by decide)) (by decide)) (by decide)) (by decide)) dX8_init_59 g_aZ rfl (by decide) (by omega) (by omega) (fun n_59 z_59 y_59 => ?_)
  replace hx := uk_k (k := (22, 512, 130)) y_59 hx (Nat.succ_ne_zero _)
  have h_59 : q_uk (q_uk (q_uk (q_uk (q_uk (q_uk K x (9, 0, 505)) n_23 (20, 512, 126)) n_32 (20, 512, 127)) n_41 (22, 512, 128)) n_50 (22, 512, 129)) n_59 (22, 512, 130) n_59 = (22, 512, 130) := uk_p
  refine c_putRf 1 (by decide) dX8_init_61 f_X8_35 (Or.inr ⟨rfl, _, _, rfl⟩) hx (by decide) h_59 (Nat.succ_ne_zero _) rfl (Or.inl (by decide)) ?_
  refine e_finR (q := x) (k := 9) (n := 0) (t := 505) (t2 := 105) hx (by decide) ⟨by decide, by decide⟩ (by decide) ⟨by decide, by decide⟩ (fre_uk (fre_uk (fre_uk (fre_uk (fre_uk (fre_uk (hf 105 (by omega)) (by decide)) (by decide)) (by decide)) (by decide)) (by decide)) (by decide)) (fun j hj => ?_) ?_
  · rcases isr_8 hj with rfl | rfl | rfl | rfl | rfl <;> (simp only [q_us_ap, q_zt_ap, rtC_ap, Int.reduceEq, Int.reduceNeg, false_and, and_false, and_self, true_and, and_true, if_true, if_false]; exact ⟨by decide, rfl, by decide⟩)
  exact e_ret dX8_init_64 rfl ⟨rfl, rfl, nz_E (nz_1 (nz_1 (nz_1 (nz_1 (nz_1 (nz_0 y0) y_23 (by decide)) y_32 (by decide)) y_41 (by decide)) y_50 (by decide)) y_59 (by decide)) y0 (by decide), uk_p, (fun t j g => by simp only [rtC_ap, q_us_ap, q_zt_ap]; repeat rw [if_neg (by omega)]), ⟨(by simp only [q_us_ap, q_zt_ap, rtC_ap, Int.reduceEq, Int.reduceNeg, false_and, and_false, and_self, true_and, and_true, if_true, if_false]), (by simp only [q_us_ap, q_zt_ap, rtC_ap, Int.reduceEq, Int.reduceNeg, false_and, and_false, and_self, true_and, and_true, if_true, if_false]), (by simp only [q_us_ap, q_zt_ap, rtC_ap, Int.reduceEq, Int.reduceNeg, false_and, and_false, and_self, true_and, and_true, if_true, if_false])⟩⟩
