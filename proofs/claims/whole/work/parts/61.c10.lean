set_option maxRecDepth 20000 in
set_option maxHeartbeats 4000000 in
theorem c_10_acknowledge {K : q_K} {B M C : q_S} {a : Nat} (hT : K a = (11, 0, 100)) (hR : RC M C) (hI : MI M) (hW : WR M) (hB : q_tb K (M 50 16)) {m f : Int} (hm : 0 ≤ m ∧ m ≤ 2) (hf : 0 ≤ f ∧ f ≤ 15) (hn : M 50 16 < 120) : q_E mX10_acknowledge 0 [some (q_R a), some (q_I m), some (q_I f), none] [] K B C 1 6 (PX none (ackF M m f) K B) := by
  have h16 := rs_16 hW
  have hp9 : 0 ≤ (16 * m + f) ∧ (16 * m + f) < 48 := by omega
  have g3 := mi_3 hI hp9
  refine e_aload_n dX10_acknowledge_0 rfl ?_
  refine c_getR (kt := (36, 3, 102)) (by decide) (Or.inl (by decide)) dX10_acknowledge_1 f_X10_15 hT rfl (Nat.succ_ne_zero _) (fun q_1 h_1 => ?_)
  refine e_iload_n dX10_acknowledge_4 rfl ?_
  refine c_aald (ci := 6) (kt := (7, 0, (110 + m))) (by decide) (Or.inl (by decide)) dX10_acknowledge_5 h_1 (by decide) (by omega) (by omega) (kl_m ⟨by omega, by omega⟩) (Nat.succ_ne_zero _) (fun q_5 h_5 => ?_)
  refine c_getR (kt := (31, 16, (140 + m))) (by omega) (Or.inl (by omega)) dX10_acknowledge_6 f_X10_105 h_5 (kl_c ⟨by omega, by omega⟩) (Nat.succ_ne_zero _) (fun q_6 h_6 => ?_)
  refine e_iload_n dX10_acknowledge_9 rfl ?_
  refine c_aald (ci := 1) (kt := (2, 0, (200 + (16 * m + f)))) (by omega) (Or.inl (by omega)) dX10_acknowledge_10 h_6 (by decide) (by omega) (by omega) (kl_p ⟨by omega, by omega⟩ ⟨by omega, by omega⟩) (Nat.succ_ne_zero _) (fun q_10 h_10 => ?_)
  refine e_astore_n (ls2 := [_, _, _, _]) dX10_acknowledge_11 (Nat.le_of_ble_eq_true rfl) rfl ?_
  refine e_aload_n dX10_acknowledge_12 rfl ?_
  refine e_aload_n dX10_acknowledge_13 rfl ?_
  refine c_getR (kt := (6, 0, 104)) (by decide) (Or.inl (by decide)) dX10_acknowledge_14 f_X10_83 hT rfl (Nat.succ_ne_zero _) (fun q_14 h_14 => ?_)
  refine e_new (t := 901) (c2 := 0) (s2 := 0) (by decide) (tb_fre hB (by decide) (by decide)) (Or.inl (by decide)) dX10_acknowledge_17 n_X10_242 (by omega) (by have e9 : q_sz 9 = 6 := rfl; omega) (fun n_17 z_17 y_17 => ?_)
  replace hT := uk_k (k := (10, 0, 901)) y_17 hT (Nat.succ_ne_zero _)
  replace h_10 := uk_k (k := (10, 0, 901)) y_17 h_10 (Nat.succ_ne_zero _)
  replace h_14 := uk_k (k := (10, 0, 901)) y_17 h_14 (Nat.succ_ne_zero _)
  have h_17 : q_uk K n_17 (10, 0, 901) n_17 = (10, 0, 901) := uk_p
  have hR0 := hR
  replace hR := rc_zt (t := 901) hR h16 ⟨by decide, by decide⟩
  refine e_dup dX10_acknowledge_20 rfl ?_
  refine e_iload_n dX10_acknowledge_21 rfl ?_
  refine e_aload_n dX10_acknowledge_22 rfl ?_
  refine c_getI (by decide) dX10_acknowledge_23 f_X10_58 (Or.inl rfl) hT ?_
  rw [rs_now hR]
  have g_23 := rs_1 hW
  refine e_iload_n dX10_acknowledge_26 rfl ?_
  refine e_aload_n dX10_acknowledge_27 rfl ?_
  refine c_getI (by omega) dX10_acknowledge_28 f_X10_114 (Or.inl rfl) h_10 ?_
  rw [rp_1 hR (p := (16 * m + f)) ⟨by omega, by omega⟩]
  have g_28 := cfo_rg hW (16 * m + f)
  refine e_aload_n dX10_acknowledge_31 rfl ?_
  have hv_32 : vcode (M 3 (16 * m + f)) := mi_3 hI ⟨by omega, by omega⟩
  have hg_32 := hv_32.1
  refine c_getR (kt := (1, 0, (1000000 + 3 * M 3 (16 * m + f)))) (by omega) (Or.inl (by omega)) dX10_acknowledge_32 f_X10_165 h_10 (kl_pc ⟨by omega, by omega⟩ (by omega) (rp_2 hR ⟨by omega, by omega⟩)) (Nat.succ_ne_zero _) (fun q_32 h_32 => ?_)
  refine e_cI (as := [_, _, _, _, _]) dX10_acknowledge_35 k_X9_init rfl rfl (Or.inl l_X10_386) i_X9_init h_17 (Nat.succ_ne_zero _) rfl rfl rfl (Nat.le_of_ble_eq_true rfl) ⟨by decide, by decide⟩ (Nat.le_of_ble_eq_true rfl) (by decide) (c_9_init h_17 h_32 hg_32 ⟨by omega, by omega⟩ ⟨by omega, by omega⟩ ⟨by omega, by omega⟩ ⟨by omega, by omega⟩) ?_
  refine e_finV hB ⟨h16.1, by omega⟩ (cc := M 3 (16 * m + f)) hg_32 rfl ?_
  replace hT := uk_re (k3 := (10, 0, 1000 + M 50 16)) hT (fun h => absurd (congrArg (fun z => z.1) h) (by simp))
  replace h_10 := uk_re (k3 := (10, 0, 1000 + M 50 16)) h_10 (fun h => absurd (congrArg (fun z => z.1) h) (by simp))
  replace h_14 := uk_re (k3 := (10, 0, 1000 + M 50 16)) h_14 (fun h => absurd (congrArg (fun z => z.1) h) (by simp))
  have h_38 : q_uk K n_17 (10, 0, 1000 + M 50 16) n_17 = (10, 0, 1000 + M 50 16) := uk_p
  refine e_cV (as := [_]) (ci := 5) dX10_acknowledge_38 k_X5_add l_X10_389 i_X5_add v_X5_add h_14 rfl (by decide) ⟨_, _, rfl⟩ rfl rfl rfl rfl (Nat.le_of_ble_eq_true rfl) ⟨by decide, by decide⟩ (Nat.le_of_ble_eq_true rfl) (by decide) (c_5_add h_14 h_38 hf ⟨h16.1, hn⟩ (by rw [vnC_ap, if_neg (by omega), viC_ap, if_neg (by decide), if_neg (by decide), if_neg (by decide), if_neg (by decide), if_neg (by decide), if_neg (by decide)]; exact rs_made hR) (by rw [vnC_ap, if_pos rfl]; rfl)) ?_
  refine c_putI (by omega) dX10_acknowledge_41 f_X10_294 rfl h_10 (by omega) ⟨by omega, by omega⟩ ?_
  refine e_ret dX10_acknowledge_44 rfl ?_
  have e16 : ackF M m f 50 16 = M 50 16 + 1 := by show makesF M f m (M 3 (16 * m + f)) (M 4 (16 * m + f)) 50 16 = _; unfold makesF; simp only [q_us_ap, and_self, if_true]
  exact ⟨rfl, ⟨xt_uk y_17, by rw [e16]; exact tb_uk hB h16.1 (Or.inr (Or.inl ⟨by omega, by omega⟩))⟩, rfl, rc_ack hR0 hW hI hm hf hn⟩
theorem same_eq {M : q_S} (hW : WR M) {f t : Int} (hi : ¬ asOfT M f t = -1) : (vfo M (latestOf M f) = vfo M (asOfT M f t) ∧ vco M (latestOf M f) = vco M (asOfT M f t)) ↔ (M 21 (asOfT M f t) = M 21 (latestOf M f) ∧ (M 21 (asOfT M f t) = 0 ∨ M 20 (asOfT M f t) = M 20 (latestOf M f))) := by
  have hr := asOfT_rg hW f t
  have g1 : 0 ≤ M 20 (latestOf M f) := (hW 20 _).1
  have g2 : 0 ≤ M 20 (asOfT M f t) := (hW 20 _).1
  have hl : ¬ latestOf M f = -1 := by omega
  have e1 : ∀ v, ¬ v = -1 → vco M v = M 21 v := fun v h => by unfold vco; rw [if_neg h]
  have e2 : ∀ v, ¬ v = -1 → vfo M v = if M 21 v = 0 then -1 else M 20 v := fun v h => by
    unfold vfo
    by_cases e : M 21 v = 0
    · rw [if_pos (Or.inr e), if_pos e]
    · rw [if_neg (fun g => g.elim h e), if_neg e]
  rw [e1 _ hl, e1 _ hi, e2 _ hl, e2 _ hi]
  by_cases e : M 21 (asOfT M f t) = 0
  · rw [if_pos e]
    by_cases e3 : M 21 (latestOf M f) = 0
    · rw [if_pos e3]; omega
    · rw [if_neg e3]; omega
  · rw [if_neg e]
    by_cases e3 : M 21 (latestOf M f) = 0
    · rw [if_pos e3]; omega
    · rw [if_neg e3]; omega
set_option maxRecDepth 20000 in
set_option maxHeartbeats 4000000 in
theorem c_10_makeAsOf {K : q_K} {B M C : q_S} {a : Nat} (hT : K a = (11, 0, 100)) (hR : RC M C) (hI : MI M) (hW : WR M) (hB : q_tb K (M 50 16)) {f t : Int} (hf : 0 ≤ f ∧ f ≤ 15) (ht : 0 ≤ t ∧ t ≤ 2000) (hn : M 50 16 < 120) : q_E mX10_makeAsOf 0 [some (q_R a), some (q_I f), some (q_I t), none, none] [] K B C 1 6 (PX (some (q_I (restoresF M f t).1)) (restoresF M f t).2 K B) := by
  have h16 := rs_16 hW
  have hr := asOfT_rg hW f t
  have hlr := latestOf_rg hW f
  have hvf := vfo_rg hW (asOfT M f t)
  have hsm := fun h => same_eq hW (f := f) (t := t) h
  have hvc := vco_ok hI (v := (asOfT M f t)) ⟨by omega, by omega⟩
  have hvc0 := hvc.1
  refine e_aload_n dX10_makeAsOf_0 rfl ?_
  refine c_getR (kt := (6, 0, 104)) (by decide) (Or.inl (by decide)) dX10_makeAsOf_1 f_X10_83 hT rfl (Nat.succ_ne_zero _) (fun q_1 h_1 => ?_)
  refine e_iload_n dX10_makeAsOf_4 rfl ?_
  refine e_iload_n dX10_makeAsOf_5 rfl ?_
  refine e_cV (as := [_, _]) (ci := 5) dX10_makeAsOf_6 k_X5_lastUpTo l_X10_255 i_X5_lastUpTo v_X5_lastUpTo h_1 rfl (by decide) ⟨_, _, rfl⟩ rfl rfl rfl rfl (Nat.le_of_ble_eq_true rfl) ⟨by decide, by decide⟩ (Nat.le_of_ble_eq_true rfl) (by decide) (c_5_lastUpTo h_1 hR hI hW hf ht) ?_
  refine e_istore_n (ls2 := [_, _, _, _, _]) dX10_makeAsOf_9 (Nat.le_of_ble_eq_true rfl) rfl ?_
  refine e_aload_n dX10_makeAsOf_10 rfl ?_
  refine c_getR (kt := (6, 0, 104)) (by decide) (Or.inl (by decide)) dX10_makeAsOf_11 f_X10_83 hT rfl (Nat.succ_ne_zero _) (fun q_11 h_11 => ?_)
  refine e_iload_n dX10_makeAsOf_14 rfl ?_
  refine e_cVR (as := [_]) (ci := 5) (kr := (10, 0, (vtag (asOfT M f t)))) dX10_makeAsOf_15 k_X5_at l_X10_186 i_X5_at v_X5_at h_11 rfl (by decide) ⟨_, _, rfl⟩ rfl rfl rfl rfl (Nat.le_of_ble_eq_true rfl) ⟨by decide, by decide⟩ (Nat.le_of_ble_eq_true rfl) (by decide) (c_5_at h_11 hR hI hW ⟨by omega, by omega⟩) (fun q_15 h_15 => ?_)
  refine e_astore (ls2 := [_, _, _, _, _]) dX10_makeAsOf_18 (Nat.le_of_ble_eq_true rfl) rfl ?_
  refine e_iload_n dX10_makeAsOf_20 rfl ?_
  refine e_iconst dX10_makeAsOf_21 ?_
  refine e_icmp_eq (tgt := 56) dX10_makeAsOf_22 (by decide) ⟨by omega, by omega⟩ ⟨by omega, by omega⟩ (fun c_22 => ?_) (fun c_22 => ?_)
  · refine e_iconst dX10_makeAsOf_56 ?_
    refine e_iret dX10_makeAsOf_57 (Or.inl rfl) ?_
    have er : restoresF M f t = (-1, M) := by
      unfold restoresF
      rw [if_pos]
      by_cases e : asOfT M f t = -1
      · exact Or.inl e
      · exact Or.inr ((hsm e).mp (by first | exact c_53 | exact absurd c_22 e))
    rw [er]
    exact ⟨rfl, ⟨q_xt.rfl, hB⟩, rfl, hR⟩
  · refine e_aload_n dX10_makeAsOf_25 rfl ?_
    refine c_getR (kt := (6, 0, 104)) (by decide) (Or.inl (by decide)) dX10_makeAsOf_26 f_X10_83 hT rfl (Nat.succ_ne_zero _) (fun q_26 h_26 => ?_)
    refine e_aload_n dX10_makeAsOf_29 rfl ?_
    refine c_getR (kt := (6, 0, 104)) (by decide) (Or.inl (by decide)) dX10_makeAsOf_30 f_X10_83 hT rfl (Nat.succ_ne_zero _) (fun q_30 h_30 => ?_)
    refine e_iload_n dX10_makeAsOf_33 rfl ?_
    refine e_cV (as := [_]) (ci := 5) dX10_makeAsOf_34 k_X5_latestOf l_X10_183 i_X5_latestOf v_X5_latestOf h_30 rfl (by decide) ⟨_, _, rfl⟩ rfl rfl rfl rfl (Nat.le_of_ble_eq_true rfl) ⟨by decide, by decide⟩ (Nat.le_of_ble_eq_true rfl) (by decide) (c_5_latestOf h_30 hR hI hW hf) ?_
    have g_34 := latestOf_rg hW f
    refine e_cVR (as := [_]) (ci := 5) (kr := (10, 0, (vtag (latestOf M f)))) dX10_makeAsOf_37 k_X5_at l_X10_186 i_X5_at v_X5_at h_26 rfl (by decide) ⟨_, _, rfl⟩ rfl rfl rfl rfl (Nat.le_of_ble_eq_true rfl) ⟨by decide, by decide⟩ (Nat.le_of_ble_eq_true rfl) (by decide) (c_5_at h_26 hR hI hW ⟨by omega, by omega⟩) (fun q_37 h_37 => ?_)
    refine e_aload dX10_makeAsOf_40 rfl ?_
    refine c_getI (by have := vtag_rg (v := (asOfT M f t)) (by omega); omega) dX10_makeAsOf_42 f_X10_258 (Or.inl rfl) h_15 ?_
    rw [rv_3 hR (v := (asOfT M f t)) ⟨by omega, by omega⟩]
    have g_42 := vfo_rg hW (asOfT M f t)
    refine e_aload dX10_makeAsOf_45 rfl ?_
    have hv_47 : vcode (vco M (asOfT M f t)) := vco_ok hI ⟨by omega, by omega⟩
    have hg_47 := hv_47.1
    refine c_getR (kt := (1, 0, (1000000 + 3 * vco M (asOfT M f t)))) (by have := vtag_rg (v := (asOfT M f t)) (by omega); omega) (Or.inl (by have := vtag_rg (v := (asOfT M f t)) (by omega); omega)) dX10_makeAsOf_47 f_X10_269 h_15 (kl_vc ⟨by omega, by omega⟩ (by omega) (rv_4 hR ⟨by omega, by omega⟩)) (Nat.succ_ne_zero _) (fun q_47 h_47 => ?_)
    refine e_cV (as := [_, _]) (ci := 9) dX10_makeAsOf_50 k_X9_isAs l_X10_337 i_X9_isAs v_X9_isAs h_37 rfl (by decide) ⟨_, _, rfl⟩ rfl rfl rfl rfl (Nat.le_of_ble_eq_true rfl) ⟨by decide, by decide⟩ (Nat.le_of_ble_eq_true rfl) (by decide) (c_9_isAs h_37 ⟨by omega, by omega⟩ h_47 hvc hR hI hW hvf) ?_
    refine e_if_eq (tgt := 58) dX10_makeAsOf_53 (by decide) bi_iI (fun c_53 => ?_) (fun c_53 => ?_)
    · simp only [bi_z, Classical.not_not] at c_53
      refine e_aload_n dX10_makeAsOf_58 rfl ?_
      refine c_getR (kt := (6, 0, 104)) (by decide) (Or.inl (by decide)) dX10_makeAsOf_59 f_X10_83 hT rfl (Nat.succ_ne_zero _) (fun q_59 h_59 => ?_)
      refine e_new (t := 901) (c2 := 0) (s2 := 0) (by decide) (tb_fre hB (by decide) (by decide)) (Or.inl (by decide)) dX10_makeAsOf_62 n_X10_242 (by omega) (by have e9 : q_sz 9 = 6 := rfl; omega) (fun n_62 z_62 y_62 => ?_)
      replace hT := uk_k (k := (10, 0, 901)) y_62 hT (Nat.succ_ne_zero _)
      replace h_15 := uk_k (k := (10, 0, 901)) y_62 h_15 (Nat.succ_ne_zero _)
      replace h_59 := uk_k (k := (10, 0, 901)) y_62 h_59 (Nat.succ_ne_zero _)
      have h_62 : q_uk K n_62 (10, 0, 901) n_62 = (10, 0, 901) := uk_p
      have hR0 := hR
      replace hR := rc_zt (t := 901) hR h16 ⟨by decide, by decide⟩
      refine e_dup dX10_makeAsOf_65 rfl ?_
      refine e_iload_n dX10_makeAsOf_66 rfl ?_
      refine e_aload_n dX10_makeAsOf_67 rfl ?_
      refine c_getI (by decide) dX10_makeAsOf_68 f_X10_58 (Or.inl rfl) hT ?_
      rw [rs_now hR]
      have g_68 := rs_1 hW
      refine e_iconst dX10_makeAsOf_71 ?_
      refine e_aload dX10_makeAsOf_72 rfl ?_
      refine c_getI (by have := vtag_rg (v := (asOfT M f t)) (by omega); omega) dX10_makeAsOf_74 f_X10_258 (Or.inl rfl) h_15 ?_
      rw [rv_3 hR (v := (asOfT M f t)) ⟨by omega, by omega⟩]
      have g_74 := vfo_rg hW (asOfT M f t)
      refine e_aload dX10_makeAsOf_77 rfl ?_
      have hv_79 : vcode (vco M (asOfT M f t)) := vco_ok hI ⟨by omega, by omega⟩
      have hg_79 := hv_79.1
      refine c_getR (kt := (1, 0, (1000000 + 3 * vco M (asOfT M f t)))) (by have := vtag_rg (v := (asOfT M f t)) (by omega); omega) (Or.inl (by have := vtag_rg (v := (asOfT M f t)) (by omega); omega)) dX10_makeAsOf_79 f_X10_269 h_15 (kl_vc ⟨by omega, by omega⟩ (by omega) (rv_4 hR ⟨by omega, by omega⟩)) (Nat.succ_ne_zero _) (fun q_79 h_79 => ?_)
      refine e_cI (as := [_, _, _, _, _]) dX10_makeAsOf_82 k_X9_init rfl rfl (Or.inl l_X10_386) i_X9_init h_62 (Nat.succ_ne_zero _) rfl rfl rfl (Nat.le_of_ble_eq_true rfl) ⟨by decide, by decide⟩ (Nat.le_of_ble_eq_true rfl) (by decide) (c_9_init h_62 h_79 hg_79 ⟨by omega, by omega⟩ ⟨by omega, by omega⟩ ⟨by decide, by decide⟩ ⟨by omega, by omega⟩) ?_
      refine e_finV hB ⟨h16.1, by omega⟩ (cc := vco M (asOfT M f t)) hg_79 rfl ?_
      replace h_59 := uk_re (k3 := (10, 0, 1000 + M 50 16)) h_59 (fun h => absurd (congrArg (fun z => z.1) h) (by simp))
      have h_85 : q_uk K n_62 (10, 0, 1000 + M 50 16) n_62 = (10, 0, 1000 + M 50 16) := uk_p
      refine e_cV (as := [_]) (ci := 5) dX10_makeAsOf_85 k_X5_add l_X10_389 i_X5_add v_X5_add h_59 rfl (by decide) ⟨_, _, rfl⟩ rfl rfl rfl rfl (Nat.le_of_ble_eq_true rfl) ⟨by decide, by decide⟩ (Nat.le_of_ble_eq_true rfl) (by decide) (c_5_add h_59 h_85 hf ⟨h16.1, hn⟩ (by rw [vnC_ap, if_neg (by omega), viC_ap, if_neg (by decide), if_neg (by decide), if_neg (by decide), if_neg (by decide), if_neg (by decide), if_neg (by decide)]; exact rs_made hR) (by rw [vnC_ap, if_pos rfl]; rfl)) ?_
      refine e_iret dX10_makeAsOf_88 (Or.inl rfl) ?_
      have ev : vco M (asOfT M f t) = M 21 (asOfT M f t) := by unfold vco; rw [if_neg c_22]
      have er : restoresF M f t = (M 50 16, makesF M f (-1) (M 21 (asOfT M f t)) (M 20 (asOfT M f t))) := by
        unfold restoresF
        rw [if_neg (fun g => g.elim c_22 (fun g => c_53 ((hsm c_22).mpr g)))]
      have e16 : makesF M f (-1) (M 21 (asOfT M f t)) (M 20 (asOfT M f t)) 50 16 = M 50 16 + 1 := by unfold makesF; simp only [q_us_ap, and_self, if_true]
      have rm := rc_mv hR0 hW (f := f) (m := -1) (c := M 21 (asOfT M f t)) (d := M 20 (asOfT M f t)) (fo := vfo M (asOfT M f t)) hf hn (by
        unfold vfo
        by_cases e : M 21 (asOfT M f t) = 0
        · rw [if_pos (Or.inr e), if_pos e]
        · rw [if_neg (fun g => g.elim c_22 e), if_neg e])
      rw [← ev] at rm
      rw [er]
      rw [← ev] at e16 ⊢
      exact ⟨rfl, ⟨xt_uk y_62, by show q_tb _ (makesF M f (-1) (vco M (asOfT M f t)) (M 20 (asOfT M f t)) 50 16); rw [e16]; exact tb_uk hB h16.1 (Or.inr (Or.inl ⟨by omega, by omega⟩))⟩, rfl, rm⟩
    · simp only [bi_z, Classical.not_not] at c_53
      refine e_iconst dX10_makeAsOf_56 ?_
      refine e_iret dX10_makeAsOf_57 (Or.inl rfl) ?_
      have er : restoresF M f t = (-1, M) := by
        unfold restoresF
        rw [if_pos]
        by_cases e : asOfT M f t = -1
        · exact Or.inl e
        · exact Or.inr ((hsm e).mp (by first | exact c_53 | exact absurd c_22 e))
      rw [er]
      exact ⟨rfl, ⟨q_xt.rfl, hB⟩, rfl, hR⟩
