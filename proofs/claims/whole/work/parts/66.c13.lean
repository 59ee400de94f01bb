set_option maxRecDepth 20000 in
set_option maxHeartbeats 4000000 in
theorem c_1_fallBack {K : q_K} {B M C : q_S} {x z : Nat} {p v : Int} (hx : K x = (2, 0, 200 + p)) (hp : 0 ≤ p ∧ p < 48) (hz : K z = (10, 0, vtag v)) (hv : -1 ≤ v ∧ v < M 50 16) (hR : RC M C) (hI : MI M) (hW : WR M) : q_E mX1_fallBack 0 [some (q_R x), some (q_I v), some (q_R z)] [] K B C 0 0 (e_is none K B (fbC M C p v)) := by
  have h16 := rs_16 hW
  have hvc := vco_ok hI hv
  have hvc0 := hvc.1
  have hvf := vfo_rg hW v
  refine e_aload_n dX1_fallBack_0 rfl ?_
  refine e_aload_n dX1_fallBack_1 rfl ?_
  refine e_cV (as := []) (ci := 9) dX1_fallBack_2 k_X9_isDeletion l_X1_35 i_X9_isDeletion v_X9_isDeletion hz rfl (by decide) ⟨_, _, rfl⟩ rfl rfl rfl rfl (Nat.le_of_ble_eq_true rfl) ⟨by decide, by decide⟩ (Nat.le_of_ble_eq_true rfl) (by decide) (c_9_isDeletion hz hv hR hI hW) ?_
  refine e_if_eq (tgt := 12) dX1_fallBack_5 (by decide) bi_iI (fun c_5 => ?_) (fun c_5 => ?_)
  · simp only [bi_z, Classical.not_not] at c_5
    refine e_iconst dX1_fallBack_12 ?_
    refine c_putI (by omega) dX1_fallBack_13 f_X1_9 rfl hx (by omega) ⟨by omega, by omega⟩ ?_
    refine e_aload_n dX1_fallBack_16 rfl ?_
    refine e_aload_n dX1_fallBack_17 rfl ?_
    refine c_getI (by have := vtag_rg (v := v) (by omega); omega) dX1_fallBack_18 f_X1_41 (Or.inl rfl) hz ?_
    try simp only [q_us_ap, editsF_3, Int.reduceEq, Int.reduceNeg, false_and, and_false, and_self, if_true, if_false, true_and, and_true, ite_self]
    rw [rv_3 hR (v := v) ⟨by omega, by omega⟩]
    have g_18 := vfo_rg hW v
    refine c_putI (by omega) dX1_fallBack_21 f_X1_15 rfl hx (by omega) ⟨by omega, by omega⟩ ?_
    refine e_aload_n dX1_fallBack_24 rfl ?_
    refine e_aload_n dX1_fallBack_25 rfl ?_
    refine c_getR (kt := (1, 0, (1000000 + 3 * vco M v))) (by have := vtag_rg (v := v) (by omega); omega) (Or.inl (by have := vtag_rg (v := v) (by omega); omega)) dX1_fallBack_26 f_X1_42 hz (kl_vc ⟨by omega, by omega⟩ hvc0 (by simp only [q_us_ap]; rw [if_neg (by omega), if_neg (by omega)]; exact rv_4 hR ⟨by omega, by omega⟩)) (Nat.succ_ne_zero _) (fun q_26 h_26 => ?_)
    refine c_putR (1000000 + 3 * vco M v) (by omega) dX1_fallBack_29 f_X1_32 rfl hx (by omega) h_26 (Nat.succ_ne_zero _) (kl_pc ⟨by omega, by omega⟩ hvc0 rfl) (Or.inl (ls_pc ⟨by omega, by omega⟩ hvc0)) ?_
    refine e_aload_n dX1_fallBack_32 rfl ?_
    refine e_iload_n dX1_fallBack_33 rfl ?_
    refine c_putI (by omega) dX1_fallBack_34 f_X1_18 rfl hx (by omega) ⟨by omega, by omega⟩ ?_
    exact e_ret dX1_fallBack_37 rfl (e_ok rfl rfl (by unfold fbC puC; first | rw [if_pos c_5] | rw [if_neg c_5]))
  · simp only [bi_z, Classical.not_not] at c_5
    refine e_iconst dX1_fallBack_8 ?_
    refine e_goto (tgt := 13) dX1_fallBack_9 (by decide) ?_
    refine c_putI (by omega) dX1_fallBack_13 f_X1_9 rfl hx (by omega) ⟨by omega, by omega⟩ ?_
    refine e_aload_n dX1_fallBack_16 rfl ?_
    refine e_aload_n dX1_fallBack_17 rfl ?_
    refine c_getI (by have := vtag_rg (v := v) (by omega); omega) dX1_fallBack_18 f_X1_41 (Or.inl rfl) hz ?_
    try simp only [q_us_ap, editsF_3, Int.reduceEq, Int.reduceNeg, false_and, and_false, and_self, if_true, if_false, true_and, and_true, ite_self]
    rw [rv_3 hR (v := v) ⟨by omega, by omega⟩]
    have g_18 := vfo_rg hW v
    refine c_putI (by omega) dX1_fallBack_21 f_X1_15 rfl hx (by omega) ⟨by omega, by omega⟩ ?_
    refine e_aload_n dX1_fallBack_24 rfl ?_
    refine e_aload_n dX1_fallBack_25 rfl ?_
    refine c_getR (kt := (1, 0, (1000000 + 3 * vco M v))) (by have := vtag_rg (v := v) (by omega); omega) (Or.inl (by have := vtag_rg (v := v) (by omega); omega)) dX1_fallBack_26 f_X1_42 hz (kl_vc ⟨by omega, by omega⟩ hvc0 (by simp only [q_us_ap]; rw [if_neg (by omega), if_neg (by omega)]; exact rv_4 hR ⟨by omega, by omega⟩)) (Nat.succ_ne_zero _) (fun q_26 h_26 => ?_)
    refine c_putR (1000000 + 3 * vco M v) (by omega) dX1_fallBack_29 f_X1_32 rfl hx (by omega) h_26 (Nat.succ_ne_zero _) (kl_pc ⟨by omega, by omega⟩ hvc0 rfl) (Or.inl (ls_pc ⟨by omega, by omega⟩ hvc0)) ?_
    refine e_aload_n dX1_fallBack_32 rfl ?_
    refine e_iload_n dX1_fallBack_33 rfl ?_
    refine c_putI (by omega) dX1_fallBack_34 f_X1_18 rfl hx (by omega) ⟨by omega, by omega⟩ ?_
    exact e_ret dX1_fallBack_37 rfl (e_ok rfl rfl (by unfold fbC puC; first | rw [if_pos c_5] | rw [if_neg c_5]))
set_option maxRecDepth 20000 in
set_option maxHeartbeats 4000000 in
theorem c_1_catchUp {K : q_K} {B M C : q_S} {x z : Nat} {p v : Int} (hx : K x = (2, 0, 200 + p)) (hp : 0 ≤ p ∧ p < 48) (hz : K z = (10, 0, vtag v)) (hv : -1 ≤ v ∧ v < M 50 16) (hR : RC M C) (hI : MI M) (hW : WR M) : q_E mX1_catchUp 0 [some (q_R x), some (q_I v), some (q_R z), none, none, none] [] K B C 0 0 (e_is (some (q_I (bi (¬ isAsP M p v)))) K B (cuC M C p v)) := by
  have h16 := rs_16 hW
  have hvc := vco_ok hI hv
  have hvc0 := hvc.1
  have hcf := cfo_rg hW p
  have hq := isAs_eq hI hW (v := v) hp hv
  refine e_aload_n dX1_catchUp_0 rfl ?_
  refine e_aload_n dX1_catchUp_1 rfl ?_
  refine c_getI (by omega) dX1_catchUp_2 f_X1_15 (Or.inl rfl) hx ?_
  rw [rp_1 hR (p := p) ⟨by omega, by omega⟩]
  have g_2 := cfo_rg hW p
  refine e_aload_n dX1_catchUp_5 rfl ?_
  have hv_6 : vcode (M 3 p) := mi_3 hI ⟨by omega, by omega⟩
  have hg_6 := hv_6.1
  refine c_getR (kt := (1, 0, (1000000 + 3 * M 3 p))) (by omega) (Or.inl (by omega)) dX1_catchUp_6 f_X1_32 hx (kl_pc ⟨by omega, by omega⟩ (by omega) (rp_2 hR ⟨by omega, by omega⟩)) (Nat.succ_ne_zero _) (fun q_6 h_6 => ?_)
  refine e_cV (as := [_, _]) (ci := 9) dX1_catchUp_9 k_X9_isAs l_X1_43 i_X9_isAs v_X9_isAs hz rfl (by decide) ⟨_, _, rfl⟩ rfl rfl rfl rfl (Nat.le_of_ble_eq_true rfl) ⟨by decide, by decide⟩ (Nat.le_of_ble_eq_true rfl) (by decide) (c_9_isAs hz ⟨by omega, by omega⟩ h_6 hv_6 hR hI hW hcf) ?_
  refine e_if_ne (tgt := 19) dX1_catchUp_12 (by decide) bi_iI (fun c_12 => ?_) (fun c_12 => ?_)
  · simp only [bi_z, Classical.not_not] at c_12
    refine e_iconst dX1_catchUp_19 ?_
    refine e_istore_n (ls2 := [_, _, _, _, _, _]) dX1_catchUp_20 (Nat.le_of_ble_eq_true rfl) rfl ?_
    refine e_aload_n dX1_catchUp_21 rfl ?_
    have hv_22 : vcode (M 3 p) := mi_3 hI ⟨by omega, by omega⟩
    have hg_22 := hv_22.1
    refine c_getR (kt := (1, 0, (1000000 + 3 * M 3 p))) (by omega) (Or.inl (by omega)) dX1_catchUp_22 f_X1_32 hx (kl_pc ⟨by omega, by omega⟩ (by omega) (rp_2 hR ⟨by omega, by omega⟩)) (Nat.succ_ne_zero _) (fun q_22 h_22 => ?_)
    refine e_aload_n dX1_catchUp_25 rfl ?_
    have hv_26 : vcode (vco M v) := vco_ok hI ⟨by omega, by omega⟩
    have hg_26 := hv_26.1
    refine c_getR (kt := (1, 0, (1000000 + 3 * vco M v))) (by have := vtag_rg (v := v) (by omega); omega) (Or.inl (by have := vtag_rg (v := v) (by omega); omega)) dX1_catchUp_26 f_X1_42 hz (kl_vc ⟨by omega, by omega⟩ (by omega) (rv_4 hR ⟨by omega, by omega⟩)) (Nat.succ_ne_zero _) (fun q_26 h_26 => ?_)
    refine e_cV (as := [_]) (ci := 0) dX1_catchUp_29 k_X0_isSame l_X1_47 i_X0_isSame v_X0_isSame h_22 rfl (by decide) ⟨_, _, rfl⟩ rfl rfl rfl rfl (Nat.le_of_ble_eq_true rfl) ⟨by decide, by decide⟩ (Nat.le_of_ble_eq_true rfl) (by decide) (c_0_isSame h_22 hv_22 h_26 hv_26 hR hI hW) ?_
    refine e_istore (ls2 := [_, _, _, _, _, _]) dX1_catchUp_32 (Nat.le_of_ble_eq_true rfl) rfl ?_
    refine e_aload_n dX1_catchUp_34 rfl ?_
    refine c_getI (by omega) dX1_catchUp_35 f_X1_9 (Or.inl rfl) hx ?_
    rw [rp_0 hR (p := p) ⟨by omega, by omega⟩]
    have g_35 : 0 ≤ M 2 p ∧ M 2 p ≤ 2 := hW 2 p
    refine e_istore (ls2 := [_, _, _, _, _, _]) dX1_catchUp_38 (Nat.le_of_ble_eq_true rfl) rfl ?_
    refine e_aload_n dX1_catchUp_40 rfl ?_
    refine e_iload_n dX1_catchUp_41 rfl ?_
    refine e_aload_n dX1_catchUp_42 rfl ?_
    refine e_cV (as := [_, _]) (ci := 1) dX1_catchUp_43 k_X1_fallBack l_X1_53 i_X1_fallBack v_X1_fallBack hx rfl (by decide) ⟨_, _, rfl⟩ rfl rfl rfl rfl (Nat.le_of_ble_eq_true rfl) ⟨by decide, by decide⟩ (Nat.le_of_ble_eq_true rfl) (by decide) (c_1_fallBack hx hp hz hv hR hI hW) ?_
    refine e_iload dX1_catchUp_46 rfl ?_
    refine e_if_eq (tgt := 57) dX1_catchUp_48 (by decide) bi_iI (fun c_48 => ?_) (fun c_48 => ?_)
    · simp only [bi_z, Classical.not_not, q_us_ap, editsF_3, Int.reduceEq, Int.reduceNeg, false_and, and_false, and_self, if_true, if_false, true_and, and_true, ite_self, lockF_thr, rightF_thr, latestOf_thr, asOfT_thr] at c_48
      refine e_iload_n dX1_catchUp_57 rfl ?_
      refine e_iret dX1_catchUp_58 (Or.inr ⟨rfl, by omega⟩) ?_
      refine e_ok ?_ rfl ?_
      · first
        | rw [bi_f (show ¬ ¬ isAsP M p v from fun g => g (hq.mp c_12))]
        | rw [bi_t (show ¬ isAsP M p v from fun g => c_12 (hq.mpr g))]
      · unfold cuC; first | rw [if_pos c_48] | rw [if_neg c_48]
    · simp only [bi_z, Classical.not_not, q_us_ap, editsF_3, Int.reduceEq, Int.reduceNeg, false_and, and_false, and_self, if_true, if_false, true_and, and_true, ite_self, lockF_thr, rightF_thr, latestOf_thr, asOfT_thr] at c_48
      refine e_aload_n dX1_catchUp_51 rfl ?_
      refine e_iload dX1_catchUp_52 rfl ?_
      refine c_putI (by omega) dX1_catchUp_54 f_X1_9 rfl hx (by omega) ⟨by omega, by omega⟩ ?_
      refine e_iload_n dX1_catchUp_57 rfl ?_
      refine e_iret dX1_catchUp_58 (Or.inr ⟨rfl, by omega⟩) ?_
      refine e_ok ?_ rfl ?_
      · first
        | rw [bi_f (show ¬ ¬ isAsP M p v from fun g => g (hq.mp c_12))]
        | rw [bi_t (show ¬ isAsP M p v from fun g => c_12 (hq.mpr g))]
      · unfold cuC; first | rw [if_pos c_48] | rw [if_neg c_48]
  · simp only [bi_z, Classical.not_not] at c_12
    refine e_iconst dX1_catchUp_15 ?_
    refine e_goto (tgt := 20) dX1_catchUp_16 (by decide) ?_
    refine e_istore_n (ls2 := [_, _, _, _, _, _]) dX1_catchUp_20 (Nat.le_of_ble_eq_true rfl) rfl ?_
    refine e_aload_n dX1_catchUp_21 rfl ?_
    have hv_22 : vcode (M 3 p) := mi_3 hI ⟨by omega, by omega⟩
    have hg_22 := hv_22.1
    refine c_getR (kt := (1, 0, (1000000 + 3 * M 3 p))) (by omega) (Or.inl (by omega)) dX1_catchUp_22 f_X1_32 hx (kl_pc ⟨by omega, by omega⟩ (by omega) (rp_2 hR ⟨by omega, by omega⟩)) (Nat.succ_ne_zero _) (fun q_22 h_22 => ?_)
    refine e_aload_n dX1_catchUp_25 rfl ?_
    have hv_26 : vcode (vco M v) := vco_ok hI ⟨by omega, by omega⟩
    have hg_26 := hv_26.1
    refine c_getR (kt := (1, 0, (1000000 + 3 * vco M v))) (by have := vtag_rg (v := v) (by omega); omega) (Or.inl (by have := vtag_rg (v := v) (by omega); omega)) dX1_catchUp_26 f_X1_42 hz (kl_vc ⟨by omega, by omega⟩ (by omega) (rv_4 hR ⟨by omega, by omega⟩)) (Nat.succ_ne_zero _) (fun q_26 h_26 => ?_)
    refine e_cV (as := [_]) (ci := 0) dX1_catchUp_29 k_X0_isSame l_X1_47 i_X0_isSame v_X0_isSame h_22 rfl (by decide) ⟨_, _, rfl⟩ rfl rfl rfl rfl (Nat.le_of_ble_eq_true rfl) ⟨by decide, by decide⟩ (Nat.le_of_ble_eq_true rfl) (by decide) (c_0_isSame h_22 hv_22 h_26 hv_26 hR hI hW) ?_
    refine e_istore (ls2 := [_, _, _, _, _, _]) dX1_catchUp_32 (Nat.le_of_ble_eq_true rfl) rfl ?_
    refine e_aload_n dX1_catchUp_34 rfl ?_
    refine c_getI (by omega) dX1_catchUp_35 f_X1_9 (Or.inl rfl) hx ?_
    rw [rp_0 hR (p := p) ⟨by omega, by omega⟩]
    have g_35 : 0 ≤ M 2 p ∧ M 2 p ≤ 2 := hW 2 p
    refine e_istore (ls2 := [_, _, _, _, _, _]) dX1_catchUp_38 (Nat.le_of_ble_eq_true rfl) rfl ?_
    refine e_aload_n dX1_catchUp_40 rfl ?_
    refine e_iload_n dX1_catchUp_41 rfl ?_
    refine e_aload_n dX1_catchUp_42 rfl ?_
    refine e_cV (as := [_, _]) (ci := 1) dX1_catchUp_43 k_X1_fallBack l_X1_53 i_X1_fallBack v_X1_fallBack hx rfl (by decide) ⟨_, _, rfl⟩ rfl rfl rfl rfl (Nat.le_of_ble_eq_true rfl) ⟨by decide, by decide⟩ (Nat.le_of_ble_eq_true rfl) (by decide) (c_1_fallBack hx hp hz hv hR hI hW) ?_
    refine e_iload dX1_catchUp_46 rfl ?_
    refine e_if_eq (tgt := 57) dX1_catchUp_48 (by decide) bi_iI (fun c_48 => ?_) (fun c_48 => ?_)
    · simp only [bi_z, Classical.not_not, q_us_ap, editsF_3, Int.reduceEq, Int.reduceNeg, false_and, and_false, and_self, if_true, if_false, true_and, and_true, ite_self, lockF_thr, rightF_thr, latestOf_thr, asOfT_thr] at c_48
      refine e_iload_n dX1_catchUp_57 rfl ?_
      refine e_iret dX1_catchUp_58 (Or.inr ⟨rfl, by omega⟩) ?_
      refine e_ok ?_ rfl ?_
      · first
        | rw [bi_f (show ¬ ¬ isAsP M p v from fun g => g (hq.mp c_12))]
        | rw [bi_t (show ¬ isAsP M p v from fun g => c_12 (hq.mpr g))]
      · unfold cuC; first | rw [if_pos c_48] | rw [if_neg c_48]
    · simp only [bi_z, Classical.not_not, q_us_ap, editsF_3, Int.reduceEq, Int.reduceNeg, false_and, and_false, and_self, if_true, if_false, true_and, and_true, ite_self, lockF_thr, rightF_thr, latestOf_thr, asOfT_thr] at c_48
      refine e_aload_n dX1_catchUp_51 rfl ?_
      refine e_iload dX1_catchUp_52 rfl ?_
      refine c_putI (by omega) dX1_catchUp_54 f_X1_9 rfl hx (by omega) ⟨by omega, by omega⟩ ?_
      refine e_iload_n dX1_catchUp_57 rfl ?_
      refine e_iret dX1_catchUp_58 (Or.inr ⟨rfl, by omega⟩) ?_
      refine e_ok ?_ rfl ?_
      · first
        | rw [bi_f (show ¬ ¬ isAsP M p v from fun g => g (hq.mp c_12))]
        | rw [bi_t (show ¬ isAsP M p v from fun g => c_12 (hq.mpr g))]
      · unfold cuC; first | rw [if_pos c_48] | rw [if_neg c_48]
theorem rc_refu {M C : q_S} (hR : RC M C) (h16 : 0 ≤ M 50 16) : RC (q_us M 50 38 (M 50 38 + 1)) (q_us C 100 12 (M 50 38 + 1)) :=
  ⟨(by have h9 := hR.1; unfold RS at h9 ⊢; simp only [q_us_ap, Int.reduceEq, Int.reduceNeg, false_and, and_false, and_self, true_and, and_true, if_true, if_false]; omega), RD_fr (rc_D hR) (by intros; first | rfl | (simp only [q_us_ap]; repeat rw [if_neg (by omega)])) (by intros; first | rfl | (simp only [q_us_ap]; repeat rw [if_neg (by omega)])) (by intros; first | rfl | (simp only [q_us_ap]; repeat rw [if_neg (by omega)])), RP_fr (rc_P hR) (by intros; first | rfl | (simp only [q_us_ap]; repeat rw [if_neg (by omega)])) (by intros; first | rfl | (simp only [q_us_ap]; repeat rw [if_neg (by omega)])) (by intros; first | rfl | (simp only [q_us_ap]; repeat rw [if_neg (by omega)])) (by intros; first | rfl | (simp only [q_us_ap]; repeat rw [if_neg (by omega)])) (by intros; first | rfl | (simp only [q_us_ap]; repeat rw [if_neg (by omega)])) (by intros; first | rfl | (simp only [q_us_ap]; repeat rw [if_neg (by omega)])) (by intros; first | rfl | (simp only [q_us_ap]; repeat rw [if_neg (by omega)])), RM_fr (rc_M hR) (by intros; first | rfl | (simp only [q_us_ap]; repeat rw [if_neg (by omega)])) (by intros; first | rfl | (simp only [q_us_ap]; repeat rw [if_neg (by omega)])) (by intros; first | rfl | (simp only [q_us_ap]; repeat rw [if_neg (by omega)])), RL_fr (rc_L hR) (by intros; first | rfl | (simp only [q_us_ap]; repeat rw [if_neg (by omega)])) (by intros; first | rfl | (simp only [q_us_ap]; repeat rw [if_neg (by omega)])) (by intros; first | rfl | (simp only [q_us_ap]; repeat rw [if_neg (by omega)])), RV_fr (rc_V hR) (by intros; first | rfl | (simp only [q_us_ap]; repeat rw [if_neg (by omega)])) (by intros; first | rfl | (simp only [q_us_ap]; repeat rw [if_neg (by omega)])) (by intros; first | rfl | (simp only [q_us_ap]; repeat rw [if_neg (by omega)])) (by intros; first | rfl | (simp only [q_us_ap]; repeat rw [if_neg (by omega)])) (by intros; first | rfl | (simp only [q_us_ap]; repeat rw [if_neg (by omega)])) (by intros; first | rfl | (simp only [q_us_ap]; repeat rw [if_neg (by omega)])) (by intros; first | rfl | (simp only [q_us_ap]; repeat rw [if_neg (by omega)])) (by intros; first | rfl | (simp only [q_us_ap]; repeat rw [if_neg (by omega)])) (by intros; first | rfl | (simp only [q_us_ap]; repeat rw [if_neg (by omega)])) (by intros; first | rfl | (simp only [q_us_ap]; repeat rw [if_neg (by omega)])), RK_fr (rc_K hR) (by first | exact Int.le_refl _ | (simp only [q_us_ap, Int.reduceEq, false_and, and_false, if_false]; omega)) (by intros; first | rfl | (simp only [q_us_ap]; repeat rw [if_neg (by omega)])) (by intros; first | rfl | (simp only [q_us_ap]; repeat rw [if_neg (by omega)])) (by intros; first | rfl | (simp only [q_us_ap]; repeat rw [if_neg (by omega)])) (by intros; first | rfl | (simp only [q_us_ap]; repeat rw [if_neg (by omega)])), RH_fr (rc_H hR) (by intros; first | rfl | (simp only [q_us_ap]; repeat rw [if_neg (by omega)])) (by intros; first | rfl | (simp only [q_us_ap]; repeat rw [if_neg (by omega)])) (by intros; first | rfl | (simp only [q_us_ap]; repeat rw [if_neg (by omega)])) (by intros; first | rfl | (simp only [q_us_ap]; repeat rw [if_neg (by omega)])), RO_fr (rc_O hR) (by intros; first | rfl | (simp only [q_us_ap]; repeat rw [if_neg (by omega)])) (by intros; first | rfl | (simp only [q_us_ap]; repeat rw [if_neg (by omega)])) (by intros; first | rfl | (simp only [q_us_ap]; repeat rw [if_neg (by omega)])) (by intros; first | rfl | (simp only [q_us_ap]; repeat rw [if_neg (by omega)])) (by intros; first | rfl | (simp only [q_us_ap]; repeat rw [if_neg (by omega)])) (by intros; first | rfl | (simp only [q_us_ap]; repeat rw [if_neg (by omega)])) (by intros; first | rfl | (simp only [q_us_ap]; repeat rw [if_neg (by omega)])), RT_fr (rc_T hR) (by intros; first | rfl | (simp only [q_us_ap]; repeat rw [if_neg (by omega)])) (by intros; first | rfl | (simp only [q_us_ap]; repeat rw [if_neg (by omega)])) (by intros; first | rfl | (simp only [q_us_ap]; repeat rw [if_neg (by omega)])) (by intros; first | rfl | (simp only [q_us_ap]; repeat rw [if_neg (by omega)])) (by intros; first | rfl | (simp only [q_us_ap]; repeat rw [if_neg (by omega)])) (by intros; first | rfl | (simp only [q_us_ap]; repeat rw [if_neg (by omega)])) (by intros; first | rfl | (simp only [q_us_ap]; repeat rw [if_neg (by omega)])) (by intros; first | rfl | (simp only [q_us_ap]; repeat rw [if_neg (by omega)])), RE_fr (rc_E hR) (by intros; first | rfl | (simp only [q_us_ap]; repeat rw [if_neg (by omega)])) (by intros; first | rfl | (simp only [q_us_ap]; repeat rw [if_neg (by omega)])) (by intros; first | rfl | (simp only [q_us_ap]; repeat rw [if_neg (by omega)])) (by intros; first | rfl | (simp only [q_us_ap]; repeat rw [if_neg (by omega)])) (by intros; first | rfl | (simp only [q_us_ap]; repeat rw [if_neg (by omega)])) (by intros; first | rfl | (simp only [q_us_ap]; repeat rw [if_neg (by omega)])) (by intros; first | rfl | (simp only [q_us_ap]; repeat rw [if_neg (by omega)])), CC_fr (rc_C hR) (by intros; first | rfl | (simp only [q_us_ap]; repeat rw [if_neg (by omega)]))⟩
theorem rc_conf {M C : q_S} (hR : RC M C) (h16 : 0 ≤ M 50 16) : RC (q_us M 50 37 (M 50 37 + 1)) (q_us C 100 11 (M 50 37 + 1)) :=
  ⟨(by have h9 := hR.1; unfold RS at h9 ⊢; simp only [q_us_ap, Int.reduceEq, Int.reduceNeg, false_and, and_false, and_self, true_and, and_true, if_true, if_false]; omega), RD_fr (rc_D hR) (by intros; first | rfl | (simp only [q_us_ap]; repeat rw [if_neg (by omega)])) (by intros; first | rfl | (simp only [q_us_ap]; repeat rw [if_neg (by omega)])) (by intros; first | rfl | (simp only [q_us_ap]; repeat rw [if_neg (by omega)])), RP_fr (rc_P hR) (by intros; first | rfl | (simp only [q_us_ap]; repeat rw [if_neg (by omega)])) (by intros; first | rfl | (simp only [q_us_ap]; repeat rw [if_neg (by omega)])) (by intros; first | rfl | (simp only [q_us_ap]; repeat rw [if_neg (by omega)])) (by intros; first | rfl | (simp only [q_us_ap]; repeat rw [if_neg (by omega)])) (by intros; first | rfl | (simp only [q_us_ap]; repeat rw [if_neg (by omega)])) (by intros; first | rfl | (simp only [q_us_ap]; repeat rw [if_neg (by omega)])) (by intros; first | rfl | (simp only [q_us_ap]; repeat rw [if_neg (by omega)])), RM_fr (rc_M hR) (by intros; first | rfl | (simp only [q_us_ap]; repeat rw [if_neg (by omega)])) (by intros; first | rfl | (simp only [q_us_ap]; repeat rw [if_neg (by omega)])) (by intros; first | rfl | (simp only [q_us_ap]; repeat rw [if_neg (by omega)])), RL_fr (rc_L hR) (by intros; first | rfl | (simp only [q_us_ap]; repeat rw [if_neg (by omega)])) (by intros; first | rfl | (simp only [q_us_ap]; repeat rw [if_neg (by omega)])) (by intros; first | rfl | (simp only [q_us_ap]; repeat rw [if_neg (by omega)])), RV_fr (rc_V hR) (by intros; first | rfl | (simp only [q_us_ap]; repeat rw [if_neg (by omega)])) (by intros; first | rfl | (simp only [q_us_ap]; repeat rw [if_neg (by omega)])) (by intros; first | rfl | (simp only [q_us_ap]; repeat rw [if_neg (by omega)])) (by intros; first | rfl | (simp only [q_us_ap]; repeat rw [if_neg (by omega)])) (by intros; first | rfl | (simp only [q_us_ap]; repeat rw [if_neg (by omega)])) (by intros; first | rfl | (simp only [q_us_ap]; repeat rw [if_neg (by omega)])) (by intros; first | rfl | (simp only [q_us_ap]; repeat rw [if_neg (by omega)])) (by intros; first | rfl | (simp only [q_us_ap]; repeat rw [if_neg (by omega)])) (by intros; first | rfl | (simp only [q_us_ap]; repeat rw [if_neg (by omega)])) (by intros; first | rfl | (simp only [q_us_ap]; repeat rw [if_neg (by omega)])), RK_fr (rc_K hR) (by first | exact Int.le_refl _ | (simp only [q_us_ap, Int.reduceEq, false_and, and_false, if_false]; omega)) (by intros; first | rfl | (simp only [q_us_ap]; repeat rw [if_neg (by omega)])) (by intros; first | rfl | (simp only [q_us_ap]; repeat rw [if_neg (by omega)])) (by intros; first | rfl | (simp only [q_us_ap]; repeat rw [if_neg (by omega)])) (by intros; first | rfl | (simp only [q_us_ap]; repeat rw [if_neg (by omega)])), RH_fr (rc_H hR) (by intros; first | rfl | (simp only [q_us_ap]; repeat rw [if_neg (by omega)])) (by intros; first | rfl | (simp only [q_us_ap]; repeat rw [if_neg (by omega)])) (by intros; first | rfl | (simp only [q_us_ap]; repeat rw [if_neg (by omega)])) (by intros; first | rfl | (simp only [q_us_ap]; repeat rw [if_neg (by omega)])), RO_fr (rc_O hR) (by intros; first | rfl | (simp only [q_us_ap]; repeat rw [if_neg (by omega)])) (by intros; first | rfl | (simp only [q_us_ap]; repeat rw [if_neg (by omega)])) (by intros; first | rfl | (simp only [q_us_ap]; repeat rw [if_neg (by omega)])) (by intros; first | rfl | (simp only [q_us_ap]; repeat rw [if_neg (by omega)])) (by intros; first | rfl | (simp only [q_us_ap]; repeat rw [if_neg (by omega)])) (by intros; first | rfl | (simp only [q_us_ap]; repeat rw [if_neg (by omega)])) (by intros; first | rfl | (simp only [q_us_ap]; repeat rw [if_neg (by omega)])), RT_fr (rc_T hR) (by intros; first | rfl | (simp only [q_us_ap]; repeat rw [if_neg (by omega)])) (by intros; first | rfl | (simp only [q_us_ap]; repeat rw [if_neg (by omega)])) (by intros; first | rfl | (simp only [q_us_ap]; repeat rw [if_neg (by omega)])) (by intros; first | rfl | (simp only [q_us_ap]; repeat rw [if_neg (by omega)])) (by intros; first | rfl | (simp only [q_us_ap]; repeat rw [if_neg (by omega)])) (by intros; first | rfl | (simp only [q_us_ap]; repeat rw [if_neg (by omega)])) (by intros; first | rfl | (simp only [q_us_ap]; repeat rw [if_neg (by omega)])) (by intros; first | rfl | (simp only [q_us_ap]; repeat rw [if_neg (by omega)])), RE_fr (rc_E hR) (by intros; first | rfl | (simp only [q_us_ap]; repeat rw [if_neg (by omega)])) (by intros; first | rfl | (simp only [q_us_ap]; repeat rw [if_neg (by omega)])) (by intros; first | rfl | (simp only [q_us_ap]; repeat rw [if_neg (by omega)])) (by intros; first | rfl | (simp only [q_us_ap]; repeat rw [if_neg (by omega)])) (by intros; first | rfl | (simp only [q_us_ap]; repeat rw [if_neg (by omega)])) (by intros; first | rfl | (simp only [q_us_ap]; repeat rw [if_neg (by omega)])) (by intros; first | rfl | (simp only [q_us_ap]; repeat rw [if_neg (by omega)])), CC_fr (rc_C hR) (by intros; first | rfl | (simp only [q_us_ap]; repeat rw [if_neg (by omega)]))⟩
theorem mi_50 {M : q_S} (h : MI M) {j z : Int} (hj : j = 37 ∨ j = 38 ∨ j = 36 ∨ j = 9 ∨ j = 34 ∨ j = 39 ∨ j = 27) : MI (q_us M 50 j z) :=
  mi_copy (M' := q_us M 50 j z) (M := q_us M 50 j z) (p := 0) (by
    have f : ∀ i, i ≠ j → q_us M 50 j z 50 i = M 50 i := fun i g => if_neg (fun y => g y.2)
    have fo : ∀ t i, t ≠ 50 → q_us M 50 j z t i = M t i := fun t i g => if_neg (fun y => g y.1)
    refine ⟨by rw [f 0 (by omega)]; exact h.1, fun p a b => ?_, fun v a b => ?_, fun k a b => ?_⟩
    · rw [f 16 (by omega), f 10 (by omega), fo 3 p (by decide), fo 2 p (by decide), fo 5 p (by decide), fo 17 _ (by decide), fo 8 p (by decide)]; exact h.2.1 p a b
    · rw [f 16 (by omega)] at b
      rw [fo 21 v (by decide), fo 18 v (by decide), fo 17 v (by decide), f 1 (by omega), lat_eq (M' := q_us M 50 j z) (M := M) (fun i => fo 17 i (by decide)) (fun i => fo 22 i (by decide)) (f 16 (by omega))]; exact h.2.2.1 v a b
    · rw [f 13 (by omega)] at b
      rw [fo 15 k (by decide), f 1 (by omega)]; exact h.2.2.2 k a b) ⟨by decide, by decide⟩ (fun _ _ _ => rfl) (by rw [show q_us M 50 j z 3 0 = M 3 0 from rfl]; exact (h.2.1 0 (by decide) (by decide)).1) (by rw [show q_us M 50 j z 3 0 = M 3 0 from rfl, show q_us M 50 j z 2 0 = M 2 0 from rfl]; exact (h.2.1 0 (by decide) (by decide)).2.1) (by rw [show q_us M 50 j z 5 0 = M 5 0 from rfl, show q_us M 50 j z 50 16 = M 50 16 from if_neg (by omega)]; exact (h.2.1 0 (by decide) (by decide)).2.2.1) (by rw [show q_us M 50 j z 5 0 = M 5 0 from rfl]; exact (h.2.1 0 (by decide) (by decide)).2.2.2.1)
theorem put_ok {M C : q_S} (hR : RC M C) (hW : WR M) (hI : MI M) {q p : Int} (hq : 0 ≤ q ∧ q < 48) (hp : 0 ≤ p ∧ p < 48) (h2 : ¬ M 2 p = 0) :
    RC (q_us (q_us (q_us M 4 q (M 4 p)) 2 q 2) 3 q (M 3 p)) (puC C q 2 (cfo M p) (M 3 p)) ∧ MI (q_us (q_us (q_us M 4 q (M 4 p)) 2 q 2) 3 q (M 3 p)) ∧ WR (q_us (q_us (q_us M 4 q (M 4 p)) 2 q 2) 3 q (M 3 p)) := by
  have h16 := rs_16 hW
  have g := rc_P hR q hq.1 hq.2
  have gi := hI.2.1 q hq.1 hq.2
  have gp := hI.2.1 p hp.1 hp.2
  have n3 : ¬ M 3 p = 0 := fun e => h2 (gp.2.1.mpr e)
  have g4 : 0 ≤ M 4 p ∧ M 4 p ≤ 3 := hW 4 p
  have g3 : 0 ≤ M 3 p ∧ M 3 p ≤ 9999999999999 := hW 3 p
  have fM : ∀ t j : Int, ¬ ((2 ≤ t ∧ t ≤ 7) ∧ j = q ∨ t = 50 ∧ j = 41 ∨ t = 40 ∨ t = 42) → q_us (q_us (q_us M 4 q (M 4 p)) 2 q 2) 3 q (M 3 p) t j = M t j := fun t j x => by
    simp only [q_us_ap]; rw [if_neg (by omega), if_neg (by omega), if_neg (by omega)]
  have e2 : q_us (q_us (q_us M 4 q (M 4 p)) 2 q 2) 3 q (M 3 p) 2 q = 2 := by simp only [q_us_ap, Int.reduceEq, false_and, and_self, if_false, if_true]
  have e3 : q_us (q_us (q_us M 4 q (M 4 p)) 2 q 2) 3 q (M 3 p) 3 q = M 3 p := by simp only [q_us_ap, and_self, if_true]
  have e4 : q_us (q_us (q_us M 4 q (M 4 p)) 2 q 2) 3 q (M 3 p) 4 q = M 4 p := by simp only [q_us_ap, Int.reduceEq, false_and, and_self, if_false, if_true]
  refine ⟨?_, mi_copy hI hq fM (by rw [e3]; exact gp.1) (by rw [e2, e3]; constructor <;> intro x <;> omega) gi.2.2.1 gi.2.2.2.1, WR.up (WR.up (WR.up hW g4) ⟨(show (0 : Int) ≤ 2 by decide), (show (2 : Int) ≤ 2 by decide)⟩) g3⟩
  refine rc_copy hR h16.1 hq fM (fun t j x => by rw [puC_ap, if_neg (by omega), if_neg (by omega), if_neg (by omega)]) ?_ ?_ ?_ ?_ ?_ ?_
  · rw [e2, puC_ap, if_neg (by omega), if_neg (by omega), if_pos ⟨rfl, rfl⟩]
  · unfold cfo; rw [e2, e4, puC_ap, if_neg (by omega), if_pos ⟨rfl, rfl⟩, if_neg h2, if_neg (show ¬ (2 : Int) = 0 by decide)]
  · rw [e3, puC_ap, if_pos ⟨rfl, rfl⟩]
  · rw [puC_ap, if_neg (by omega), if_neg (by omega), if_neg (by omega)]; exact g.2.2.2.1
  · rw [puC_ap, if_neg (by omega), if_neg (by omega), if_neg (by omega)]; exact g.2.2.2.2.1
  · rw [puC_ap, if_neg (by omega), if_neg (by omega), if_neg (by omega)]; exact g.2.2.2.2.2
set_option maxRecDepth 20000 in
set_option maxHeartbeats 4000000 in
theorem c_10_keepBoth2 {K : q_K} {B M C : q_S} {a : Nat} (hT : K a = (11, 0, 100)) (hR : RC M C) (hI : MI M) (hW : WR M) {x : Nat} {m f : Int} (hx : K x = (2, 0, 200 + (16 * m + f))) (hm : 0 ≤ m ∧ m ≤ 2) (hf : 0 ≤ f ∧ f ≤ 15) : q_E mX10_keepBoth 77 [some (q_R a), some (q_I m), some (q_I f), some (q_R x), none] [] K B C 0 0 (e_is (none) K B (fbC M C (16 * m + f) (latestOf M f))) := by
  have h16 := rs_16 hW
  have hlr := latestOf_rg hW f
  refine e_aload_n dX10_keepBoth_77 rfl ?_
  refine e_aload_n dX10_keepBoth_78 rfl ?_
  refine c_getR (kt := (6, 0, 104)) (by decide) (Or.inl (by decide)) dX10_keepBoth_79 f_X10_83 hT rfl (Nat.succ_ne_zero _) (fun q_79 h_79 => ?_)
  refine e_iload_n dX10_keepBoth_82 rfl ?_
  refine e_cV (as := [_]) (ci := 5) dX10_keepBoth_83 k_X5_latestOf l_X10_183 i_X5_latestOf v_X5_latestOf h_79 rfl (by decide) ⟨_, _, rfl⟩ rfl rfl rfl rfl (Nat.le_of_ble_eq_true rfl) ⟨by decide, by decide⟩ (Nat.le_of_ble_eq_true rfl) (by decide) (c_5_latestOf (by assumption) hR hI hW hf) ?_
  have g_83 := latestOf_rg hW f
  refine e_aload_n dX10_keepBoth_86 rfl ?_
  refine c_getR (kt := (6, 0, 104)) (by decide) (Or.inl (by decide)) dX10_keepBoth_87 f_X10_83 hT rfl (Nat.succ_ne_zero _) (fun q_87 h_87 => ?_)
  refine e_aload_n dX10_keepBoth_90 rfl ?_
  refine c_getR (kt := (6, 0, 104)) (by decide) (Or.inl (by decide)) dX10_keepBoth_91 f_X10_83 hT rfl (Nat.succ_ne_zero _) (fun q_91 h_91 => ?_)
  refine e_iload_n dX10_keepBoth_94 rfl ?_
  refine e_cV (as := [_]) (ci := 5) dX10_keepBoth_95 k_X5_latestOf l_X10_183 i_X5_latestOf v_X5_latestOf h_91 rfl (by decide) ⟨_, _, rfl⟩ rfl rfl rfl rfl (Nat.le_of_ble_eq_true rfl) ⟨by decide, by decide⟩ (Nat.le_of_ble_eq_true rfl) (by decide) (c_5_latestOf (by assumption) hR hI hW hf) ?_
  have g_95 := latestOf_rg hW f
  refine e_cVR (as := [_]) (ci := 5) (kr := (10, 0, (vtag (latestOf M f)))) dX10_keepBoth_98 k_X5_at l_X10_186 i_X5_at v_X5_at h_87 rfl (by decide) ⟨_, _, rfl⟩ rfl rfl rfl rfl (Nat.le_of_ble_eq_true rfl) ⟨by decide, by decide⟩ (Nat.le_of_ble_eq_true rfl) (by decide) (c_5_at h_87 hR hI hW ⟨by omega, by omega⟩) (fun q_98 h_98 => ?_)
  refine e_cV (as := [_, _]) (ci := 1) dX10_keepBoth_101 k_X1_fallBack l_X10_372 i_X1_fallBack v_X1_fallBack hx rfl (by decide) ⟨_, _, rfl⟩ rfl rfl rfl rfl (Nat.le_of_ble_eq_true rfl) ⟨by decide, by decide⟩ (Nat.le_of_ble_eq_true rfl) (by decide) (c_1_fallBack hx ⟨by omega, by omega⟩ h_98 ⟨by omega, by omega⟩ hR hI hW) ?_
  exact e_ret dX10_keepBoth_104 rfl (e_ok rfl rfl rfl)
set_option maxRecDepth 20000 in
set_option maxHeartbeats 4000000 in
theorem c_10_keepBoth {K : q_K} {B M C : q_S} {a : Nat} (hT : K a = (11, 0, 100)) (hR : RC M C) (hI : MI M) (hW : WR M) (hB : q_tb K (M 50 16)) {m f : Int} (hm : 0 ≤ m ∧ m ≤ 2) (hf : 0 ≤ f ∧ f ≤ 15) (h2 : ¬ M 2 (16 * m + f) = 0) (hCT : CT (keepsF M (16 * m + f) (latestOf M f)).2) : q_E mX10_keepBoth 0 [some (q_R a), some (q_I m), some (q_I f), none, none] [] K B C 1 6 (PX none (keepsF M (16 * m + f) (latestOf M f)).2 K B) := by
  have h16 := rs_16 hW
  have h38 := rs_38 hW
  have hp9 : 0 ≤ (16 * m + f) ∧ (16 * m + f) < 48 := by omega
  have hfr := freeF_rg M
  have g4 : 0 ≤ M 4 (16 * m + f) ∧ M 4 (16 * m + f) ≤ 3 := hW 4 _
  have ecf : cfo M (16 * m + f) = M 4 (16 * m + f) := by unfold cfo; rw [if_neg h2]
  have hcf : 0 ≤ cfo M (16 * m + f) := by omega
  have e16 : (16 * m + f) / 16 = m := by omega
  have hrr := rightF_rg hW (M 4 (16 * m + f)) m
  by_cases hk : kpF M (16 * m + f) = -1
  · have ek : keepsF M (16 * m + f) (latestOf M f) = (0, q_us M 50 38 (M 50 38 + 1)) := by unfold keepsF; rw [if_pos hk]
    have hk2 : ¬ (rightF M (M 4 (16 * m + f)) m = 2 ∧ ¬ freeF M = -1) := by
      intro h; unfold kpF at hk; rw [e16, if_pos h.1] at hk; exact h.2 hk
    rw [ek]
    refine e_aload_n dX10_keepBoth_0 rfl ?_
    refine c_getR (kt := (36, 3, 102)) (by decide) (Or.inl (by decide)) dX10_keepBoth_1 f_X10_15 hT rfl (Nat.succ_ne_zero _) (fun q_1 h_1 => ?_)
    refine e_iload_n dX10_keepBoth_4 rfl ?_
    refine c_aald (ci := 6) (kt := (7, 0, (110 + m))) (by decide) (Or.inl (by decide)) dX10_keepBoth_5 h_1 (by decide) (by omega) (by omega) (kl_m ⟨by omega, by omega⟩) (Nat.succ_ne_zero _) (fun q_5 h_5 => ?_)
    refine c_getR (kt := (31, 16, (140 + m))) (by omega) (Or.inl (by omega)) dX10_keepBoth_6 f_X10_105 h_5 (kl_c ⟨by omega, by omega⟩) (Nat.succ_ne_zero _) (fun q_6 h_6 => ?_)
    refine e_iload_n dX10_keepBoth_9 rfl ?_
    refine c_aald (ci := 1) (kt := (2, 0, (200 + (16 * m + f)))) (by omega) (Or.inl (by omega)) dX10_keepBoth_10 h_6 (by decide) (by omega) (by omega) (kl_p ⟨by omega, by omega⟩ ⟨by omega, by omega⟩) (Nat.succ_ne_zero _) (fun q_10 h_10 => ?_)
    refine e_astore_n (ls2 := [_, _, _, _, _]) dX10_keepBoth_11 (Nat.le_of_ble_eq_true rfl) rfl ?_
    refine e_aload_n dX10_keepBoth_12 rfl ?_
    refine e_cV (as := []) (ci := 10) dX10_keepBoth_13 k_X10_spareFile l_X10_379 i_X10_spareFile v_X10_spareFile hT rfl (by decide) ⟨_, _, rfl⟩ rfl rfl rfl rfl (Nat.le_of_ble_eq_true rfl) ⟨by decide, by decide⟩ (Nat.le_of_ble_eq_true rfl) (by decide) (c_10_spareFile hT hR hI hW) ?_
    refine e_istore (ls2 := [_, _, _, _, _]) dX10_keepBoth_16 (Nat.le_of_ble_eq_true rfl) rfl ?_
    refine e_iload dX10_keepBoth_18 rfl ?_
    refine e_iconst dX10_keepBoth_20 ?_
    refine e_icmp_eq (tgt := 36) dX10_keepBoth_21 (by decide) ⟨by omega, by omega⟩ ⟨by omega, by omega⟩ (fun c_21 => ?_) (fun c_21 => ?_)
    · refine e_aload_n dX10_keepBoth_36 rfl ?_
      refine e_dup dX10_keepBoth_37 rfl ?_
      refine c_getI (by decide) dX10_keepBoth_38 f_X10_67 (Or.inl rfl) hT ?_
      rw [rs_refu hR]
      have g_38 := rs_38 hW
      refine e_iconst dX10_keepBoth_41 ?_
      refine e_iadd dX10_keepBoth_42 ?_
      refine c_putI (by decide) dX10_keepBoth_43 f_X10_67 rfl hT (by decide) ⟨by omega, by omega⟩ ?_
      exact e_ret dX10_keepBoth_46 rfl ⟨rfl, ⟨q_xt.rfl, hB⟩, rfl, rc_refu hR h16.1⟩
    · refine e_aload_n dX10_keepBoth_24 rfl ?_
      refine e_iload_n dX10_keepBoth_25 rfl ?_
      refine e_aload_n dX10_keepBoth_26 rfl ?_
      refine c_getI (by omega) dX10_keepBoth_27 f_X10_114 (Or.inl rfl) h_10 ?_
      rw [rp_1 hR (p := (16 * m + f)) ⟨by omega, by omega⟩]
      have g_27 := cfo_rg hW (16 * m + f)
      refine e_cV (as := [_, _]) (ci := 10) dX10_keepBoth_30 k_X10_mayWrite l_X10_355 i_X10_mayWrite v_X10_mayWrite hT rfl (by decide) ⟨_, _, rfl⟩ rfl rfl rfl rfl (Nat.le_of_ble_eq_true rfl) ⟨by decide, by decide⟩ (Nat.le_of_ble_eq_true rfl) (by decide) (c_10_mayWrite hT hR hI hW hm ⟨hcf, by omega⟩) ?_
      rw [ecf]
      have hb9 : bi (rightF M (M 4 (16 * m + f)) m = 2) = 0 ∨ bi (rightF M (M 4 (16 * m + f)) m = 2) = 1 := bi_01
      refine e_if_ne (tgt := 47) dX10_keepBoth_33 (by decide) ⟨by omega, by omega⟩ (fun c_33 => ?_) (fun c_33 => ?_)
      · have c33 := c_33
        exfalso
        rw [bi_z] at c33
        exact hk2 ⟨Classical.not_not.mp c33, c_21⟩
      · refine e_aload_n dX10_keepBoth_36 rfl ?_
        refine e_dup dX10_keepBoth_37 rfl ?_
        refine c_getI (by decide) dX10_keepBoth_38 f_X10_67 (Or.inl rfl) hT ?_
        rw [rs_refu hR]
        have g_38 := rs_38 hW
        refine e_iconst dX10_keepBoth_41 ?_
        refine e_iadd dX10_keepBoth_42 ?_
        refine c_putI (by decide) dX10_keepBoth_43 f_X10_67 rfl hT (by decide) ⟨by omega, by omega⟩ ?_
        exact e_ret dX10_keepBoth_46 rfl ⟨rfl, ⟨q_xt.rfl, hB⟩, rfl, rc_refu hR h16.1⟩
  · have hr2 : rightF M (M 4 (16 * m + f)) m = 2 ∧ ¬ freeF M = -1 := by
      unfold kpF at hk; rw [e16] at hk
      by_cases e : rightF M (M 4 (16 * m + f)) m = 2
      · rw [if_pos e] at hk; exact ⟨e, hk⟩
      · rw [if_neg e] at hk; exact absurd rfl hk
    have hkf : kpF M (16 * m + f) = freeF M := by unfold kpF; rw [e16, if_pos hr2.1]
    have hn : M 50 16 < 120 := by
      have ek := hCT
      unfold keepsF at ek
      rw [if_neg hk] at ek
      have ev := ek.2.2.2.2
      simp only [] at ev
      rw [becomesF_50 (t := 50) (by decide)] at ev
      simp only [makesF, q_us_ap, Int.reduceEq, false_and, true_and, and_false, and_true, and_self, if_false, if_true] at ev
      omega
    have hq9 : 0 ≤ (16 * m + (freeF M)) ∧ (16 * m + (freeF M)) < 48 := by omega
    have po := put_ok (q := (16 * m + (freeF M))) hR hW hI hq9 hp9 h2
    have xa16 : (q_us (q_us (q_us M 4 (16 * m + (freeF M)) (M 4 (16 * m + f))) 2 (16 * m + (freeF M)) 2) 3 (16 * m + (freeF M)) (M 3 (16 * m + f))) 50 16 = M 50 16 := rfl
    have hI3 := mi_ack po.2.2 po.2.1 hm (f := freeF M) ⟨by omega, by omega⟩
    have hW3 : WR (ackF (q_us (q_us (q_us M 4 (16 * m + (freeF M)) (M 4 (16 * m + f))) 2 (16 * m + (freeF M)) 2) 3 (16 * m + (freeF M)) (M 3 (16 * m + f))) m (freeF M)) := by
      have g3 : 0 ≤ M 3 (16 * m + f) ∧ M 3 (16 * m + f) ≤ 9999999999999 := hW 3 _
      exact WR.up (po.2.2.makes (by rw [xa16]; exact hn) ⟨by omega, by omega⟩ ⟨by omega, by omega⟩ (po.2.2 3 _) (po.2.2 4 _)) ⟨(show (0 : Int) ≤ M 50 16 + 1 by omega), (show M 50 16 + 1 ≤ (120 : Int) by omega)⟩
    have hne : ¬ f = freeF M := by
      intro e
      have g := frF_rg M 16 0
      have fr0 : ∀ (r : Nat) (f0 : Int), ¬ frF M r f0 = -1 → ¬ frI M (frF M r f0) = 0 := by
        intro r
        induction r with
        | zero => intro f0 h; exact absurd rfl h
        | succ r ih =>
          intro f0 h
          simp only [frF] at h ⊢
          by_cases e9 : ¬ frI M f0 = 0
          · rw [if_pos e9]; exact e9
          · rw [if_neg e9] at h ⊢; exact ih _ h
      have fi0 := fr0 16 0 hr2.2
      have fi1 := ((frI_eq hW (freeF M)).mp fi0).2
      have am : ∀ n : Nat, ¬ frM M (freeF M) 1 n = 0 → ∀ j : Int, 0 ≤ j → j < n → M 2 (16 * j + freeF M) = 0 := by
        intro n
        induction n with
        | zero => intro _ j a b; omega
        | succ n ih =>
          intro h j a b
          simp only [frM] at h
          by_cases e9 : ¬ frM M (freeF M) 1 n = 0 ∧ M 2 (16 * (n : Int) + freeF M) = 0
          · by_cases e8 : j = n
            · rw [e8]; exact e9.2
            · exact ih e9.1 j a (by omega)
          · rw [if_neg e9] at h; exact absurd rfl h
      have := am 3 fi1 m hm.1 (by show m < 3; omega)
      rw [← e] at this
      exact h2 this
    have elat : latestOf (ackF (q_us (q_us (q_us M 4 (16 * m + (freeF M)) (M 4 (16 * m + f))) 2 (16 * m + (freeF M)) 2) 3 (16 * m + (freeF M)) (M 3 (16 * m + f))) m (freeF M)) f = (latestOf M f) := by
      have e1 : latestOf (ackF (q_us (q_us (q_us M 4 (16 * m + (freeF M)) (M 4 (16 * m + f))) 2 (16 * m + (freeF M)) 2) 3 (16 * m + (freeF M)) (M 3 (16 * m + f))) m (freeF M)) f = latestOf (makesF (q_us (q_us (q_us M 4 (16 * m + (freeF M)) (M 4 (16 * m + f))) 2 (16 * m + (freeF M)) 2) 3 (16 * m + (freeF M)) (M 3 (16 * m + f))) (freeF M) m ((q_us (q_us (q_us M 4 (16 * m + (freeF M)) (M 4 (16 * m + f))) 2 (16 * m + (freeF M)) 2) 3 (16 * m + (freeF M)) (M 3 (16 * m + f))) 3 (16 * m + (freeF M))) ((q_us (q_us (q_us M 4 (16 * m + (freeF M)) (M 4 (16 * m + f))) 2 (16 * m + (freeF M)) 2) 3 (16 * m + (freeF M)) (M 3 (16 * m + f))) 4 (16 * m + (freeF M)))) f := lat_eq (M' := ackF (q_us (q_us (q_us M 4 (16 * m + (freeF M)) (M 4 (16 * m + f))) 2 (16 * m + (freeF M)) 2) 3 (16 * m + (freeF M)) (M 3 (16 * m + f))) m (freeF M)) (M := makesF (q_us (q_us (q_us M 4 (16 * m + (freeF M)) (M 4 (16 * m + f))) 2 (16 * m + (freeF M)) 2) 3 (16 * m + (freeF M)) (M 3 (16 * m + f))) (freeF M) m ((q_us (q_us (q_us M 4 (16 * m + (freeF M)) (M 4 (16 * m + f))) 2 (16 * m + (freeF M)) 2) 3 (16 * m + (freeF M)) (M 3 (16 * m + f))) 3 (16 * m + (freeF M))) ((q_us (q_us (q_us M 4 (16 * m + (freeF M)) (M 4 (16 * m + f))) 2 (16 * m + (freeF M)) 2) 3 (16 * m + (freeF M)) (M 3 (16 * m + f))) 4 (16 * m + (freeF M)))) (fun _ => rfl) (fun _ => rfl) rfl f
      rw [e1, lat_makes _ (by rw [xa16]; exact h16.1), if_neg hne]
      exact lat_eq (M' := (q_us (q_us (q_us M 4 (16 * m + (freeF M)) (M 4 (16 * m + f))) 2 (16 * m + (freeF M)) 2) 3 (16 * m + (freeF M)) (M 3 (16 * m + f)))) (M := M) (fun _ => rfl) (fun _ => rfl) rfl f
    have ekf : (keepsF M (16 * m + f) (latestOf M f)).2 = becomesF (ackF (q_us (q_us (q_us M 4 (16 * m + (freeF M)) (M 4 (16 * m + f))) 2 (16 * m + (freeF M)) 2) 3 (16 * m + (freeF M)) (M 3 (16 * m + f))) m (freeF M)) (16 * m + f) (latestOf M f) := by
      unfold keepsF
      rw [if_neg hk, hkf]
      have ke := keeps_eq (M := M) (p := (16 * m + f)) (fr := freeF M) hp9 h16.1
      rw [e16] at ke
      simp only []
      rw [e16, ke]
    refine e_aload_n dX10_keepBoth_0 rfl ?_
    refine c_getR (kt := (36, 3, 102)) (by decide) (Or.inl (by decide)) dX10_keepBoth_1 f_X10_15 hT rfl (Nat.succ_ne_zero _) (fun q_1 h_1 => ?_)
    refine e_iload_n dX10_keepBoth_4 rfl ?_
    refine c_aald (ci := 6) (kt := (7, 0, (110 + m))) (by decide) (Or.inl (by decide)) dX10_keepBoth_5 h_1 (by decide) (by omega) (by omega) (kl_m ⟨by omega, by omega⟩) (Nat.succ_ne_zero _) (fun q_5 h_5 => ?_)
    refine c_getR (kt := (31, 16, (140 + m))) (by omega) (Or.inl (by omega)) dX10_keepBoth_6 f_X10_105 h_5 (kl_c ⟨by omega, by omega⟩) (Nat.succ_ne_zero _) (fun q_6 h_6 => ?_)
    refine e_iload_n dX10_keepBoth_9 rfl ?_
    refine c_aald (ci := 1) (kt := (2, 0, (200 + (16 * m + f)))) (by omega) (Or.inl (by omega)) dX10_keepBoth_10 h_6 (by decide) (by omega) (by omega) (kl_p ⟨by omega, by omega⟩ ⟨by omega, by omega⟩) (Nat.succ_ne_zero _) (fun q_10 h_10 => ?_)
    refine e_astore_n (ls2 := [_, _, _, _, _]) dX10_keepBoth_11 (Nat.le_of_ble_eq_true rfl) rfl ?_
    refine e_aload_n dX10_keepBoth_12 rfl ?_
    refine e_cV (as := []) (ci := 10) dX10_keepBoth_13 k_X10_spareFile l_X10_379 i_X10_spareFile v_X10_spareFile hT rfl (by decide) ⟨_, _, rfl⟩ rfl rfl rfl rfl (Nat.le_of_ble_eq_true rfl) ⟨by decide, by decide⟩ (Nat.le_of_ble_eq_true rfl) (by decide) (c_10_spareFile hT hR hI hW) ?_
    refine e_istore (ls2 := [_, _, _, _, _]) dX10_keepBoth_16 (Nat.le_of_ble_eq_true rfl) rfl ?_
    refine e_iload dX10_keepBoth_18 rfl ?_
    refine e_iconst dX10_keepBoth_20 ?_
    refine e_icmp_eq (tgt := 36) dX10_keepBoth_21 (by decide) ⟨by omega, by omega⟩ ⟨by omega, by omega⟩ (fun c_21 => ?_) (fun c_21 => ?_)
    · exfalso; omega
    · refine e_aload_n dX10_keepBoth_24 rfl ?_
      refine e_iload_n dX10_keepBoth_25 rfl ?_
      refine e_aload_n dX10_keepBoth_26 rfl ?_
      refine c_getI (by omega) dX10_keepBoth_27 f_X10_114 (Or.inl rfl) h_10 ?_
      rw [rp_1 hR (p := (16 * m + f)) ⟨by omega, by omega⟩]
      have g_27 := cfo_rg hW (16 * m + f)
      refine e_cV (as := [_, _]) (ci := 10) dX10_keepBoth_30 k_X10_mayWrite l_X10_355 i_X10_mayWrite v_X10_mayWrite hT rfl (by decide) ⟨_, _, rfl⟩ rfl rfl rfl rfl (Nat.le_of_ble_eq_true rfl) ⟨by decide, by decide⟩ (Nat.le_of_ble_eq_true rfl) (by decide) (c_10_mayWrite hT hR hI hW hm ⟨hcf, by omega⟩) ?_
      rw [ecf]
      have hb9 : bi (rightF M (M 4 (16 * m + f)) m = 2) = 0 ∨ bi (rightF M (M 4 (16 * m + f)) m = 2) = 1 := bi_01
      refine e_if_ne (tgt := 47) dX10_keepBoth_33 (by decide) ⟨by omega, by omega⟩ (fun c_33 => ?_) (fun c_33 => ?_)
      · refine e_aload_n dX10_keepBoth_47 rfl ?_
        refine c_getR (kt := (36, 3, 102)) (by decide) (Or.inl (by decide)) dX10_keepBoth_48 f_X10_15 hT rfl (Nat.succ_ne_zero _) (fun q_48 h_48 => ?_)
        refine e_iload_n dX10_keepBoth_51 rfl ?_
        refine c_aald (ci := 6) (kt := (7, 0, (110 + m))) (by decide) (Or.inl (by decide)) dX10_keepBoth_52 h_48 (by decide) (by omega) (by omega) (kl_m ⟨by omega, by omega⟩) (Nat.succ_ne_zero _) (fun q_52 h_52 => ?_)
        refine c_getR (kt := (31, 16, (140 + m))) (by omega) (Or.inl (by omega)) dX10_keepBoth_53 f_X10_105 h_52 (kl_c ⟨by omega, by omega⟩) (Nat.succ_ne_zero _) (fun q_53 h_53 => ?_)
        refine e_iload dX10_keepBoth_56 rfl ?_
        refine c_aald (ci := 1) (kt := (2, 0, (200 + (16 * m + (freeF M))))) (by omega) (Or.inl (by omega)) dX10_keepBoth_58 h_53 (by decide) (by omega) (by omega) (kl_p ⟨by omega, by omega⟩ ⟨by omega, by omega⟩) (Nat.succ_ne_zero _) (fun q_58 h_58 => ?_)
        refine e_aload_n dX10_keepBoth_59 rfl ?_
        refine c_getI (by omega) dX10_keepBoth_60 f_X10_114 (Or.inl rfl) h_10 ?_
        rw [rp_1 hR (p := (16 * m + f)) ⟨by omega, by omega⟩]
        have g_60 := cfo_rg hW (16 * m + f)
        refine e_aload_n dX10_keepBoth_63 rfl ?_
        have hv_64 : vcode (M 3 (16 * m + f)) := mi_3 hI ⟨by omega, by omega⟩
        have hg_64 := hv_64.1
        refine c_getR (kt := (1, 0, (1000000 + 3 * M 3 (16 * m + f)))) (by omega) (Or.inl (by omega)) dX10_keepBoth_64 f_X10_165 h_10 (kl_pc ⟨by omega, by omega⟩ (by omega) (rp_2 hR ⟨by omega, by omega⟩)) (Nat.succ_ne_zero _) (fun q_64 h_64 => ?_)
        refine e_cV (as := [_, _]) (ci := 1) dX10_keepBoth_67 k_X1_put l_X10_117 i_X1_put v_X1_put h_58 rfl (by decide) ⟨_, _, rfl⟩ rfl rfl rfl rfl (Nat.le_of_ble_eq_true rfl) ⟨by decide, by decide⟩ (Nat.le_of_ble_eq_true rfl) (by decide) (c_1_put h_58 hq9 h_64 hg_64 ⟨by omega, by omega⟩) ?_
        refine e_aload_n dX10_keepBoth_70 rfl ?_
        refine e_iload_n dX10_keepBoth_71 rfl ?_
        refine e_iload dX10_keepBoth_72 rfl ?_
        refine e_cVX (as := [_, _]) (ci := 10) (c1 := 1) (s1 := 6) (c2 := 0) (s2 := 0) dX10_keepBoth_74 k_X10_acknowledge l_X10_365 i_X10_acknowledge v_X10_acknowledge hT rfl (by decide) ⟨_, _, rfl⟩ rfl rfl rfl rfl (Nat.le_of_ble_eq_true rfl) ⟨by decide, by decide⟩ (by omega) (by omega) (Nat.le_of_ble_eq_true rfl) (by decide) (c_10_acknowledge hT po.1 po.2.1 po.2.2 hB hm ⟨by omega, by omega⟩ (by rw [xa16]; exact hn)) (fun K2 C2 x2 hB2 hR2 => ?_)
        replace hT := xt_get x2 hT (Nat.succ_ne_zero _)
        have hx9 := xt_get x2 h_10 (Nat.succ_ne_zero _)
        refine e_drop (k := 4) (ls2 := [_, _, _, _, _]) rfl ?_
        refine e_conseq (Q1 := e_is none K2 B (fbC (ackF (q_us (q_us (q_us M 4 (16 * m + (freeF M)) (M 4 (16 * m + f))) 2 (16 * m + (freeF M)) 2) 3 (16 * m + (freeF M)) (M 3 (16 * m + f))) m (freeF M)) C2 (16 * m + f) (latestOf (ackF (q_us (q_us (q_us M 4 (16 * m + (freeF M)) (M 4 (16 * m + f))) 2 (16 * m + (freeF M)) 2) 3 (16 * m + (freeF M)) (M 3 (16 * m + f))) m (freeF M)) f))) (fun o K1 M1 C1 g => ?_) (c_10_keepBoth2 (B := B) hT hR2 hI3 hW3 hx9 hm hf)
        obtain ⟨rfl, rfl, rfl, rfl⟩ := g
        rw [ekf]
        exact ⟨rfl, ⟨x2, by rw [bec_o (by omega)]; exact hB2⟩, rfl, by rw [← elat]; exact rc_becomes hR2 hW3 hp9⟩
      · have c33 := c_33
        exfalso
        rw [bi_t hr2.1] at c33
        omega
