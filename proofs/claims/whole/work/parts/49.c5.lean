set_option maxRecDepth 20000 in
set_option maxHeartbeats 4000000 in
theorem c_10_breakLock {K : q_K} {B M C : q_S} {a : Nat} (hT : K a = (11, 0, 100)) (hR : RC M C) (hI : MI M) (hW : WR M) (hB : q_tb K (M 50 16)) {c s : Nat} (hc : 1 ≤ c) (hs : 6 ≤ s) {f : Int} (hf : q_iI f)  : q_E mX10_breakLock 0 [some (q_R a), some (q_I f), none] [] K B C c s (PB (breakF M f) "java/lang/IndexOutOfBoundsException" "java/lang/IllegalStateException" "" K B) := by
  have h01 := rs_1 hW
  have hlr := lockF_rg hW f
  have hf1 := hf.1
  have hf2 := hf.2
  by_cases e0 : 0 ≤ f ∧ f < 16
  · by_cases e1 : ¬ lockF M f = -1
    · refine e_iload_n dX10_breakLock_0 rfl ?_
      refine e_bipush dX10_breakLock_1 (by decide) ?_
      refine e_cS (as := [_, _]) dX10_breakLock_3 k_X10_needIndex l_X10_99 s_X10_needIndex rfl rfl rfl rfl (Nat.le_of_ble_eq_true rfl) ⟨by decide, by decide⟩ (Nat.le_of_ble_eq_true rfl) (by decide) (c_nI1 hf ⟨by decide, by decide⟩ (by omega)) ?_
      refine e_aload_n dX10_breakLock_6 rfl ?_
      refine c_getR (kt := (5, 0, 106)) (by decide) (Or.inl (by decide)) dX10_breakLock_7 f_X10_36 hT rfl (Nat.succ_ne_zero _) (fun q_7 h_7 => ?_)
      refine e_iload_n dX10_breakLock_10 rfl ?_
      refine e_aload_n dX10_breakLock_11 rfl ?_
      refine c_getI (by decide) dX10_breakLock_12 f_X10_58 (Or.inl rfl) hT ?_
      rw [rs_now hR]
      have g_12 := rs_1 hW
      refine e_cV (as := [_, _]) (ci := 4) dX10_breakLock_15 k_X4_holderAt l_X10_223 i_X4_holderAt v_X4_holderAt h_7 rfl (by decide) ⟨_, _, rfl⟩ rfl rfl rfl rfl (Nat.le_of_ble_eq_true rfl) ⟨by decide, by decide⟩ (Nat.le_of_ble_eq_true rfl) (by decide) (c_4_holderAt h_7 hR hI hW ⟨by omega, by omega⟩) ?_
      refine e_istore_n (ls2 := [_, _, _]) dX10_breakLock_18 (Nat.le_of_ble_eq_true rfl) rfl ?_
      refine e_iload_n dX10_breakLock_19 rfl ?_
      refine e_iconst dX10_breakLock_20 ?_
      refine e_icmp_ne (tgt := 34) dX10_breakLock_21 (by decide) ⟨by omega, by omega⟩ ⟨by omega, by omega⟩ (fun c_21 => ?_) (fun c_21 => ?_)
      · refine e_aload_n dX10_breakLock_34 rfl ?_
        refine c_getR (kt := (5, 0, 106)) (by decide) (Or.inl (by decide)) dX10_breakLock_35 f_X10_36 hT rfl (Nat.succ_ne_zero _) (fun q_35 h_35 => ?_)
        refine e_iload_n dX10_breakLock_38 rfl ?_
        refine e_iconst dX10_breakLock_39 ?_
        refine e_aload_n dX10_breakLock_40 rfl ?_
        refine c_getI (by decide) dX10_breakLock_41 f_X10_58 (Or.inl rfl) hT ?_
        rw [rs_now hR]
        have g_41 := rs_1 hW
        refine e_cV (as := [_, _, _]) (ci := 4) dX10_breakLock_44 k_X4_take l_X10_220 i_X4_take v_X4_take h_35 rfl (by decide) ⟨_, _, rfl⟩ rfl rfl rfl rfl (Nat.le_of_ble_eq_true rfl) ⟨by decide, by decide⟩ (Nat.le_of_ble_eq_true rfl) (by decide) (c_4_take h_35 hR hI hW ⟨by omega, by omega⟩ ⟨by omega, by omega⟩ ⟨by omega, by omega⟩) ?_
        refine e_iload_n dX10_breakLock_47 rfl ?_
        exact e_iret dX10_breakLock_48 (Or.inl rfl) (pbm0 (X := q_us (thr M 0) 23 f 0) (by unfold breakF; rw [if_neg (by omega), if_neg (by omega)]) hB rfl ⟨(by have h9 := hR.1; unfold RS at h9 ⊢; simp only [q_us_ap, Int.reduceEq, Int.reduceNeg, false_and, and_false, and_self, true_and, and_true, if_true, if_false]; omega), RD_fr (rc_D hR) (by intros; first | rfl | (simp only [q_us_ap]; repeat rw [if_neg (by omega)])) (by intros; first | rfl | (simp only [q_us_ap]; repeat rw [if_neg (by omega)])) (by intros; first | rfl | (simp only [q_us_ap]; repeat rw [if_neg (by omega)])), RP_fr (rc_P hR) (by intros; first | rfl | (simp only [q_us_ap]; repeat rw [if_neg (by omega)])) (by intros; first | rfl | (simp only [q_us_ap]; repeat rw [if_neg (by omega)])) (by intros; first | rfl | (simp only [q_us_ap]; repeat rw [if_neg (by omega)])) (by intros; first | rfl | (simp only [q_us_ap]; repeat rw [if_neg (by omega)])) (by intros; first | rfl | (simp only [q_us_ap]; repeat rw [if_neg (by omega)])) (by intros; first | rfl | (simp only [q_us_ap]; repeat rw [if_neg (by omega)])) (by intros; first | rfl | (simp only [q_us_ap]; repeat rw [if_neg (by omega)])), RM_fr (rc_M hR) (by intros; first | rfl | (simp only [q_us_ap]; repeat rw [if_neg (by omega)])) (by intros; first | rfl | (simp only [q_us_ap]; repeat rw [if_neg (by omega)])) (by intros; first | rfl | (simp only [q_us_ap]; repeat rw [if_neg (by omega)])), RL_fr (rc_L hR) (by intros; first | rfl | (simp only [q_us_ap]; repeat rw [if_neg (by omega)])) (by intros; first | rfl | (simp only [q_us_ap]; repeat rw [if_neg (by omega)])) (by intros; first | rfl | (simp only [q_us_ap]; repeat rw [if_neg (by omega)])), RV_fr (rc_V hR) (by intros; first | rfl | (simp only [q_us_ap]; repeat rw [if_neg (by omega)])) (by intros; first | rfl | (simp only [q_us_ap]; repeat rw [if_neg (by omega)])) (by intros; first | rfl | (simp only [q_us_ap]; repeat rw [if_neg (by omega)])) (by intros; first | rfl | (simp only [q_us_ap]; repeat rw [if_neg (by omega)])) (by intros; first | rfl | (simp only [q_us_ap]; repeat rw [if_neg (by omega)])) (by intros; first | rfl | (simp only [q_us_ap]; repeat rw [if_neg (by omega)])) (by intros; first | rfl | (simp only [q_us_ap]; repeat rw [if_neg (by omega)])) (by intros; first | rfl | (simp only [q_us_ap]; repeat rw [if_neg (by omega)])) (by intros; first | rfl | (simp only [q_us_ap]; repeat rw [if_neg (by omega)])) (by intros; first | rfl | (simp only [q_us_ap]; repeat rw [if_neg (by omega)])), (by
            intro f2 h1 h2
            have h9 := rc_K hR f2 h1 h2
            have h8 := rs_1 hW
            simp only [q_us_ap, Int.reduceEq, Int.reduceNeg, and_false, false_and, and_true, true_and, and_self, if_false, if_true]
            by_cases ef : f2 = f
            · subst ef
              rw [if_pos rfl, if_pos rfl]
              refine ⟨⟨⟨by omega, by omega⟩, by omega, by omega⟩, fun t ht => ?_⟩
              try rw [if_pos rfl]
              repeat' split
              all_goals omega
            · rw [if_neg ef, if_neg ef]
              refine ⟨h9.1, fun t ht => ?_⟩
              have h10 := h9.2 t ht
              try rw [if_neg ef]
              exact h10), RH_fr (rc_H hR) (by intros; first | rfl | (simp only [q_us_ap]; repeat rw [if_neg (by omega)])) (by intros; first | rfl | (simp only [q_us_ap]; repeat rw [if_neg (by omega)])) (by intros; first | rfl | (simp only [q_us_ap]; repeat rw [if_neg (by omega)])) (by intros; first | rfl | (simp only [q_us_ap]; repeat rw [if_neg (by omega)])), RO_fr (rc_O hR) (by intros; first | rfl | (simp only [q_us_ap]; repeat rw [if_neg (by omega)])) (by intros; first | rfl | (simp only [q_us_ap]; repeat rw [if_neg (by omega)])) (by intros; first | rfl | (simp only [q_us_ap]; repeat rw [if_neg (by omega)])) (by intros; first | rfl | (simp only [q_us_ap]; repeat rw [if_neg (by omega)])) (by intros; first | rfl | (simp only [q_us_ap]; repeat rw [if_neg (by omega)])) (by intros; first | rfl | (simp only [q_us_ap]; repeat rw [if_neg (by omega)])) (by intros; first | rfl | (simp only [q_us_ap]; repeat rw [if_neg (by omega)])), RT_fr (rc_T hR) (by intros; first | rfl | (simp only [q_us_ap]; repeat rw [if_neg (by omega)])) (by intros; first | rfl | (simp only [q_us_ap]; repeat rw [if_neg (by omega)])) (by intros; first | rfl | (simp only [q_us_ap]; repeat rw [if_neg (by omega)])) (by intros; first | rfl | (simp only [q_us_ap]; repeat rw [if_neg (by omega)])) (by intros; first | rfl | (simp only [q_us_ap]; repeat rw [if_neg (by omega)])) (by intros; first | rfl | (simp only [q_us_ap]; repeat rw [if_neg (by omega)])) (by intros; first | rfl | (simp only [q_us_ap]; repeat rw [if_neg (by omega)])) (by intros; first | rfl | (simp only [q_us_ap]; repeat rw [if_neg (by omega)])), RE_fr (rc_E hR) (by intros; first | rfl | (simp only [q_us_ap]; repeat rw [if_neg (by omega)])) (by intros; first | rfl | (simp only [q_us_ap]; repeat rw [if_neg (by omega)])) (by intros; first | rfl | (simp only [q_us_ap]; repeat rw [if_neg (by omega)])) (by intros; first | rfl | (simp only [q_us_ap]; repeat rw [if_neg (by omega)])) (by intros; first | rfl | (simp only [q_us_ap]; repeat rw [if_neg (by omega)])) (by intros; first | rfl | (simp only [q_us_ap]; repeat rw [if_neg (by omega)])) (by intros; first | rfl | (simp only [q_us_ap]; repeat rw [if_neg (by omega)])), CC_fr (rc_C hR) (by intros; first | rfl | (simp only [q_us_ap]; repeat rw [if_neg (by omega)]))⟩)
      · exfalso; omega
    · refine e_iload_n dX10_breakLock_0 rfl ?_
      refine e_bipush dX10_breakLock_1 (by decide) ?_
      refine e_cS (as := [_, _]) dX10_breakLock_3 k_X10_needIndex l_X10_99 s_X10_needIndex rfl rfl rfl rfl (Nat.le_of_ble_eq_true rfl) ⟨by decide, by decide⟩ (Nat.le_of_ble_eq_true rfl) (by decide) (c_nI1 hf ⟨by decide, by decide⟩ (by omega)) ?_
      refine e_aload_n dX10_breakLock_6 rfl ?_
      refine c_getR (kt := (5, 0, 106)) (by decide) (Or.inl (by decide)) dX10_breakLock_7 f_X10_36 hT rfl (Nat.succ_ne_zero _) (fun q_7 h_7 => ?_)
      refine e_iload_n dX10_breakLock_10 rfl ?_
      refine e_aload_n dX10_breakLock_11 rfl ?_
      refine c_getI (by decide) dX10_breakLock_12 f_X10_58 (Or.inl rfl) hT ?_
      rw [rs_now hR]
      have g_12 := rs_1 hW
      refine e_cV (as := [_, _]) (ci := 4) dX10_breakLock_15 k_X4_holderAt l_X10_223 i_X4_holderAt v_X4_holderAt h_7 rfl (by decide) ⟨_, _, rfl⟩ rfl rfl rfl rfl (Nat.le_of_ble_eq_true rfl) ⟨by decide, by decide⟩ (Nat.le_of_ble_eq_true rfl) (by decide) (c_4_holderAt h_7 hR hI hW ⟨by omega, by omega⟩) ?_
      refine e_istore_n (ls2 := [_, _, _]) dX10_breakLock_18 (Nat.le_of_ble_eq_true rfl) rfl ?_
      refine e_iload_n dX10_breakLock_19 rfl ?_
      refine e_iconst dX10_breakLock_20 ?_
      refine e_icmp_ne (tgt := 34) dX10_breakLock_21 (by decide) ⟨by omega, by omega⟩ ⟨by omega, by omega⟩ (fun c_21 => ?_) (fun c_21 => ?_)
      · exfalso; omega
      · exact e_thrS dX10_breakLock_24 dX10_breakLock_27 dX10_breakLock_28 dX10_breakLock_30 dX10_breakLock_33 x_sta y_nobo rfl (Nat.le_of_ble_eq_true rfl) ⟨by decide, by decide⟩ hc hs (pbq2 hB hR (by unfold breakF; rw [if_neg (by omega), if_pos (by omega)]))
  · refine e_iload_n dX10_breakLock_0 rfl ?_
    refine e_bipush dX10_breakLock_1 (by decide) ?_
    exact e_cST (as := [_, _]) dX10_breakLock_3 k_X10_needIndex l_X10_99 s_X10_needIndex rfl rfl rfl rfl (Nat.le_of_ble_eq_true rfl) ⟨by decide, by decide⟩ (Nat.le_of_ble_eq_true rfl) (by decide) (c_nI0 hf ⟨by decide, by decide⟩ hc hs (by omega)) (pbq1 hB hR (by unfold breakF; rw [if_pos (by omega)]))
set_option maxRecDepth 20000 in
set_option maxHeartbeats 4000000 in
theorem c_7_set {K : q_K} {B M C : q_S} {l : Nat} (hL : K l = (8, 0, 107)) (hR : RC M C) (hI : MI M) (hW : WR M) {d m r e : Int} (hd : 0 ≤ d ∧ d ≤ 3) (hm : 0 ≤ m ∧ m ≤ 2) (hr : 0 ≤ r ∧ r ≤ 2) (he : 0 ≤ e ∧ e ≤ 4100) : q_E mX7_set 0 [some (q_R l), some (q_I d), some (q_I m), some (q_I r), some (q_I e), none] [] K B C 0 0 (e_is none K B (q_us (q_us C 133 (d * 3 + m) r) 134 (d * 3 + m) e)) := by
  refine e_iload_n dX7_set_0 rfl ?_
  refine e_iconst dX7_set_1 ?_
  refine e_imul dX7_set_2 ?_
  refine e_iload_n dX7_set_3 rfl ?_
  refine e_iadd dX7_set_4 ?_
  refine e_istore (ls2 := [_, _, _, _, _, _]) dX7_set_5 (Nat.le_of_ble_eq_true rfl) rfl ?_
  refine e_aload_n dX7_set_7 rfl ?_
  refine c_getR (kt := (20, 12, 133)) (by decide) (Or.inl (by decide)) dX7_set_8 f_X7_9 hL rfl (Nat.succ_ne_zero _) (fun q_8 h_8 => ?_)
  refine e_iload dX7_set_11 rfl ?_
  refine e_iload_n dX7_set_13 rfl ?_
  refine c_iast (by decide) dX7_set_14 h_8 (by omega) (by omega) (by decide) ⟨by omega, by omega⟩ ?_
  refine e_aload_n dX7_set_15 rfl ?_
  refine c_getR (kt := (20, 12, 134)) (by decide) (Or.inl (by decide)) dX7_set_16 f_X7_15 hL rfl (Nat.succ_ne_zero _) (fun q_16 h_16 => ?_)
  refine e_iload dX7_set_19 rfl ?_
  refine e_iload dX7_set_21 rfl ?_
  refine c_iast (by decide) dX7_set_23 h_16 (by omega) (by omega) (by decide) ⟨by omega, by omega⟩ ?_
  exact e_ret dX7_set_24 rfl (e_ok rfl rfl rfl)
set_option maxRecDepth 20000 in
set_option maxHeartbeats 4000000 in
theorem c_10_share {K : q_K} {B M C : q_S} {a : Nat} (hT : K a = (11, 0, 100)) (hR : RC M C) (hI : MI M) (hW : WR M) (hB : q_tb K (M 50 16)) {c s : Nat} (hc : 1 ≤ c) (hs : 6 ≤ s) {d m r h : Int} (hd : q_iI d) (hm : q_iI m) (hr : q_iI r) (hh : q_iI h)  : q_E mX10_share 0 [some (q_R a), some (q_I d), some (q_I m), some (q_I r), some (q_I h)] [] K B C c s (PBv (shareF M d m r h) "java/lang/IndexOutOfBoundsException" "java/lang/IllegalArgumentException" "" K B) := by
  have h01 := rs_1 hW
  have hd1 := hd.1
  have hd2 := hd.2
  have hm1 := hm.1
  have hm2 := hm.2
  have hr1 := hr.1
  have hr2 := hr.2
  have hh1 := hh.1
  have hh2 := hh.2
  by_cases e0 : 0 ≤ d ∧ d < 4
  · by_cases e1 : 0 ≤ m ∧ m < 3
    · by_cases e2 : 0 ≤ r ∧ r ≤ 2
      · by_cases e3 : 1 ≤ h ∧ h ≤ 2000
        · refine e_iload_n dX10_share_0 rfl ?_
          refine e_iconst dX10_share_1 ?_
          refine e_cS (as := [_, _]) dX10_share_2 k_X10_needIndex l_X10_99 s_X10_needIndex rfl rfl rfl rfl (Nat.le_of_ble_eq_true rfl) ⟨by decide, by decide⟩ (Nat.le_of_ble_eq_true rfl) (by decide) (c_nI1 hd ⟨by decide, by decide⟩ (by omega)) ?_
          refine e_iload_n dX10_share_5 rfl ?_
          refine e_iconst dX10_share_6 ?_
          refine e_cS (as := [_, _]) dX10_share_7 k_X10_needIndex l_X10_99 s_X10_needIndex rfl rfl rfl rfl (Nat.le_of_ble_eq_true rfl) ⟨by decide, by decide⟩ (Nat.le_of_ble_eq_true rfl) (by decide) (c_nI1 hm ⟨by decide, by decide⟩ (by omega)) ?_
          refine e_iload_n dX10_share_10 rfl ?_
          refine e_iconst dX10_share_11 ?_
          refine e_iconst dX10_share_12 ?_
          refine e_cS (as := [_, _, _]) dX10_share_13 k_X10_needRange l_X10_88 s_X10_needRange rfl rfl rfl rfl (Nat.le_of_ble_eq_true rfl) ⟨by decide, by decide⟩ (Nat.le_of_ble_eq_true rfl) (by decide) (c_nR1 hr ⟨by decide, by decide⟩ ⟨by decide, by decide⟩ (by omega)) ?_
          refine e_iload dX10_share_16 rfl ?_
          refine e_iconst dX10_share_18 ?_
          refine e_sipush dX10_share_19 (by decide) ?_
          refine e_cS (as := [_, _, _]) dX10_share_22 k_X10_needRange l_X10_88 s_X10_needRange rfl rfl rfl rfl (Nat.le_of_ble_eq_true rfl) ⟨by decide, by decide⟩ (Nat.le_of_ble_eq_true rfl) (by decide) (c_nR1 hh ⟨by decide, by decide⟩ ⟨by decide, by decide⟩ (by omega)) ?_
          refine e_aload_n dX10_share_25 rfl ?_
          refine c_getR (kt := (8, 0, 107)) (by decide) (Or.inl (by decide)) dX10_share_26 f_X10_43 hT rfl (Nat.succ_ne_zero _) (fun q_26 h_26 => ?_)
          refine e_iload_n dX10_share_29 rfl ?_
          refine e_iload_n dX10_share_30 rfl ?_
          refine e_iload_n dX10_share_31 rfl ?_
          refine e_aload_n dX10_share_32 rfl ?_
          refine c_getI (by decide) dX10_share_33 f_X10_58 (Or.inl rfl) hT ?_
          rw [rs_now hR]
          have g_33 := rs_1 hW
          refine e_iload dX10_share_36 rfl ?_
          refine e_iadd dX10_share_38 ?_
          refine e_cV (as := [_, _, _, _]) (ci := 7) dX10_share_39 k_X7_set l_X10_229 i_X7_set v_X7_set h_26 rfl (by decide) ⟨_, _, rfl⟩ rfl rfl rfl rfl (Nat.le_of_ble_eq_true rfl) ⟨by decide, by decide⟩ (Nat.le_of_ble_eq_true rfl) (by decide) (c_7_set h_26 hR hI hW ⟨by omega, by omega⟩ ⟨by omega, by omega⟩ ⟨by omega, by omega⟩ ⟨by omega, by omega⟩) ?_
          exact e_ret dX10_share_42 rfl (pbv0 (X := q_us (q_us (thr M 0) 25 (3 * d + m) r) 26 (3 * d + m) (M 50 1 + h)) (by unfold shareF; rw [if_neg (by omega), if_neg (by omega)]) hB rfl ⟨(by have h9 := hR.1; unfold RS at h9 ⊢; simp only [q_us_ap, Int.reduceEq, Int.reduceNeg, false_and, and_false, and_self, true_and, and_true, if_true, if_false]; omega), RD_fr (rc_D hR) (by intros; first | rfl | (simp only [q_us_ap]; repeat rw [if_neg (by omega)])) (by intros; first | rfl | (simp only [q_us_ap]; repeat rw [if_neg (by omega)])) (by intros; first | rfl | (simp only [q_us_ap]; repeat rw [if_neg (by omega)])), RP_fr (rc_P hR) (by intros; first | rfl | (simp only [q_us_ap]; repeat rw [if_neg (by omega)])) (by intros; first | rfl | (simp only [q_us_ap]; repeat rw [if_neg (by omega)])) (by intros; first | rfl | (simp only [q_us_ap]; repeat rw [if_neg (by omega)])) (by intros; first | rfl | (simp only [q_us_ap]; repeat rw [if_neg (by omega)])) (by intros; first | rfl | (simp only [q_us_ap]; repeat rw [if_neg (by omega)])) (by intros; first | rfl | (simp only [q_us_ap]; repeat rw [if_neg (by omega)])) (by intros; first | rfl | (simp only [q_us_ap]; repeat rw [if_neg (by omega)])), RM_fr (rc_M hR) (by intros; first | rfl | (simp only [q_us_ap]; repeat rw [if_neg (by omega)])) (by intros; first | rfl | (simp only [q_us_ap]; repeat rw [if_neg (by omega)])) (by intros; first | rfl | (simp only [q_us_ap]; repeat rw [if_neg (by omega)])), RL_fr (rc_L hR) (by intros; first | rfl | (simp only [q_us_ap]; repeat rw [if_neg (by omega)])) (by intros; first | rfl | (simp only [q_us_ap]; repeat rw [if_neg (by omega)])) (by intros; first | rfl | (simp only [q_us_ap]; repeat rw [if_neg (by omega)])), RV_fr (rc_V hR) (by intros; first | rfl | (simp only [q_us_ap]; repeat rw [if_neg (by omega)])) (by intros; first | rfl | (simp only [q_us_ap]; repeat rw [if_neg (by omega)])) (by intros; first | rfl | (simp only [q_us_ap]; repeat rw [if_neg (by omega)])) (by intros; first | rfl | (simp only [q_us_ap]; repeat rw [if_neg (by omega)])) (by intros; first | rfl | (simp only [q_us_ap]; repeat rw [if_neg (by omega)])) (by intros; first | rfl | (simp only [q_us_ap]; repeat rw [if_neg (by omega)])) (by intros; first | rfl | (simp only [q_us_ap]; repeat rw [if_neg (by omega)])) (by intros; first | rfl | (simp only [q_us_ap]; repeat rw [if_neg (by omega)])) (by intros; first | rfl | (simp only [q_us_ap]; repeat rw [if_neg (by omega)])) (by intros; first | rfl | (simp only [q_us_ap]; repeat rw [if_neg (by omega)])), RK_fr (rc_K hR) (by first | exact Int.le_refl _ | (simp only [q_us_ap, Int.reduceEq, false_and, and_false, if_false]; omega)) (by intros; first | rfl | (simp only [q_us_ap]; repeat rw [if_neg (by omega)])) (by intros; first | rfl | (simp only [q_us_ap]; repeat rw [if_neg (by omega)])) (by intros; first | rfl | (simp only [q_us_ap]; repeat rw [if_neg (by omega)])) (by intros; first | rfl | (simp only [q_us_ap]; repeat rw [if_neg (by omega)])), (by
              intro k h1 h2
              have h9 := rc_H hR k h1 h2
              simp only [q_us_ap, Int.reduceEq, Int.reduceNeg, and_false, false_and, and_true, true_and, and_self, if_false, if_true]
              refine ⟨?_, ?_⟩
              all_goals (repeat' split)
              all_goals omega), RO_fr (rc_O hR) (by intros; first | rfl | (simp only [q_us_ap]; repeat rw [if_neg (by omega)])) (by intros; first | rfl | (simp only [q_us_ap]; repeat rw [if_neg (by omega)])) (by intros; first | rfl | (simp only [q_us_ap]; repeat rw [if_neg (by omega)])) (by intros; first | rfl | (simp only [q_us_ap]; repeat rw [if_neg (by omega)])) (by intros; first | rfl | (simp only [q_us_ap]; repeat rw [if_neg (by omega)])) (by intros; first | rfl | (simp only [q_us_ap]; repeat rw [if_neg (by omega)])) (by intros; first | rfl | (simp only [q_us_ap]; repeat rw [if_neg (by omega)])), RT_fr (rc_T hR) (by intros; first | rfl | (simp only [q_us_ap]; repeat rw [if_neg (by omega)])) (by intros; first | rfl | (simp only [q_us_ap]; repeat rw [if_neg (by omega)])) (by intros; first | rfl | (simp only [q_us_ap]; repeat rw [if_neg (by omega)])) (by intros; first | rfl | (simp only [q_us_ap]; repeat rw [if_neg (by omega)])) (by intros; first | rfl | (simp only [q_us_ap]; repeat rw [if_neg (by omega)])) (by intros; first | rfl | (simp only [q_us_ap]; repeat rw [if_neg (by omega)])) (by intros; first | rfl | (simp only [q_us_ap]; repeat rw [if_neg (by omega)])) (by intros; first | rfl | (simp only [q_us_ap]; repeat rw [if_neg (by omega)])), RE_fr (rc_E hR) (by intros; first | rfl | (simp only [q_us_ap]; repeat rw [if_neg (by omega)])) (by intros; first | rfl | (simp only [q_us_ap]; repeat rw [if_neg (by omega)])) (by intros; first | rfl | (simp only [q_us_ap]; repeat rw [if_neg (by omega)])) (by intros; first | rfl | (simp only [q_us_ap]; repeat rw [if_neg (by omega)])) (by intros; first | rfl | (simp only [q_us_ap]; repeat rw [if_neg (by omega)])) (by intros; first | rfl | (simp only [q_us_ap]; repeat rw [if_neg (by omega)])) (by intros; first | rfl | (simp only [q_us_ap]; repeat rw [if_neg (by omega)])), CC_fr (rc_C hR) (by intros; first | rfl | (simp only [q_us_ap]; repeat rw [if_neg (by omega)]))⟩)
        · refine e_iload_n dX10_share_0 rfl ?_
          refine e_iconst dX10_share_1 ?_
          refine e_cS (as := [_, _]) dX10_share_2 k_X10_needIndex l_X10_99 s_X10_needIndex rfl rfl rfl rfl (Nat.le_of_ble_eq_true rfl) ⟨by decide, by decide⟩ (Nat.le_of_ble_eq_true rfl) (by decide) (c_nI1 hd ⟨by decide, by decide⟩ (by omega)) ?_
          refine e_iload_n dX10_share_5 rfl ?_
          refine e_iconst dX10_share_6 ?_
          refine e_cS (as := [_, _]) dX10_share_7 k_X10_needIndex l_X10_99 s_X10_needIndex rfl rfl rfl rfl (Nat.le_of_ble_eq_true rfl) ⟨by decide, by decide⟩ (Nat.le_of_ble_eq_true rfl) (by decide) (c_nI1 hm ⟨by decide, by decide⟩ (by omega)) ?_
          refine e_iload_n dX10_share_10 rfl ?_
          refine e_iconst dX10_share_11 ?_
          refine e_iconst dX10_share_12 ?_
          refine e_cS (as := [_, _, _]) dX10_share_13 k_X10_needRange l_X10_88 s_X10_needRange rfl rfl rfl rfl (Nat.le_of_ble_eq_true rfl) ⟨by decide, by decide⟩ (Nat.le_of_ble_eq_true rfl) (by decide) (c_nR1 hr ⟨by decide, by decide⟩ ⟨by decide, by decide⟩ (by omega)) ?_
          refine e_iload dX10_share_16 rfl ?_
          refine e_iconst dX10_share_18 ?_
          refine e_sipush dX10_share_19 (by decide) ?_
          exact e_cST (as := [_, _, _]) dX10_share_22 k_X10_needRange l_X10_88 s_X10_needRange rfl rfl rfl rfl (Nat.le_of_ble_eq_true rfl) ⟨by decide, by decide⟩ (Nat.le_of_ble_eq_true rfl) (by decide) (c_nR0 hh ⟨by decide, by decide⟩ ⟨by decide, by decide⟩ hc hs (by omega)) (pbv2 hB hR (by unfold shareF; rw [if_neg (by omega), if_pos (by omega)]))
      · refine e_iload_n dX10_share_0 rfl ?_
        refine e_iconst dX10_share_1 ?_
        refine e_cS (as := [_, _]) dX10_share_2 k_X10_needIndex l_X10_99 s_X10_needIndex rfl rfl rfl rfl (Nat.le_of_ble_eq_true rfl) ⟨by decide, by decide⟩ (Nat.le_of_ble_eq_true rfl) (by decide) (c_nI1 hd ⟨by decide, by decide⟩ (by omega)) ?_
        refine e_iload_n dX10_share_5 rfl ?_
        refine e_iconst dX10_share_6 ?_
        refine e_cS (as := [_, _]) dX10_share_7 k_X10_needIndex l_X10_99 s_X10_needIndex rfl rfl rfl rfl (Nat.le_of_ble_eq_true rfl) ⟨by decide, by decide⟩ (Nat.le_of_ble_eq_true rfl) (by decide) (c_nI1 hm ⟨by decide, by decide⟩ (by omega)) ?_
        refine e_iload_n dX10_share_10 rfl ?_
        refine e_iconst dX10_share_11 ?_
        refine e_iconst dX10_share_12 ?_
        exact e_cST (as := [_, _, _]) dX10_share_13 k_X10_needRange l_X10_88 s_X10_needRange rfl rfl rfl rfl (Nat.le_of_ble_eq_true rfl) ⟨by decide, by decide⟩ (Nat.le_of_ble_eq_true rfl) (by decide) (c_nR0 hr ⟨by decide, by decide⟩ ⟨by decide, by decide⟩ hc hs (by omega)) (pbv2 hB hR (by unfold shareF; rw [if_neg (by omega), if_pos (by omega)]))
    · refine e_iload_n dX10_share_0 rfl ?_
      refine e_iconst dX10_share_1 ?_
      refine e_cS (as := [_, _]) dX10_share_2 k_X10_needIndex l_X10_99 s_X10_needIndex rfl rfl rfl rfl (Nat.le_of_ble_eq_true rfl) ⟨by decide, by decide⟩ (Nat.le_of_ble_eq_true rfl) (by decide) (c_nI1 hd ⟨by decide, by decide⟩ (by omega)) ?_
      refine e_iload_n dX10_share_5 rfl ?_
      refine e_iconst dX10_share_6 ?_
      exact e_cST (as := [_, _]) dX10_share_7 k_X10_needIndex l_X10_99 s_X10_needIndex rfl rfl rfl rfl (Nat.le_of_ble_eq_true rfl) ⟨by decide, by decide⟩ (Nat.le_of_ble_eq_true rfl) (by decide) (c_nI0 hm ⟨by decide, by decide⟩ hc hs (by omega)) (pbv1 hB hR (by unfold shareF; rw [if_pos (by omega)]))
  · refine e_iload_n dX10_share_0 rfl ?_
    refine e_iconst dX10_share_1 ?_
    exact e_cST (as := [_, _]) dX10_share_2 k_X10_needIndex l_X10_99 s_X10_needIndex rfl rfl rfl rfl (Nat.le_of_ble_eq_true rfl) ⟨by decide, by decide⟩ (Nat.le_of_ble_eq_true rfl) (by decide) (c_nI0 hd ⟨by decide, by decide⟩ hc hs (by omega)) (pbv1 hB hR (by unfold shareF; rw [if_pos (by omega)]))
set_option maxRecDepth 20000 in
set_option maxHeartbeats 4000000 in
theorem c_3_add {K : q_K} {B M C : q_S} {l : Nat} (hL : K l = (4, 0, 108)) (hR : RC M C) (hI : MI M) (hW : WR M) {f x y : Int} (hf : 0 ≤ f ∧ f ≤ 15) (hx : 0 ≤ x ∧ x ≤ 2000) (hy : 0 ≤ y ∧ y ≤ 2000) (hn : M 50 27 < 10) : q_E mX3_add 0 [some (q_R l), some (q_I f), some (q_I x), some (q_I y)] [] K B C 0 0 (e_is none K B (q_us (q_us (q_us (q_us C 135 (M 50 27) f) 136 (M 50 27) x) 137 (M 50 27) y) 108 0 (M 50 27 + 1))) := by
  refine e_aload_n dX3_add_0 rfl ?_
  refine c_getI (by decide) dX3_add_1 f_X3_9 (Or.inl rfl) hL ?_
  rw [rs_holds hR]
  have g_1 := rs_27 hW
  refine e_bipush dX3_add_4 (by decide) ?_
  refine e_icmp_ge (tgt := 49) dX3_add_6 (by decide) ⟨by omega, by omega⟩ ⟨by omega, by omega⟩ (fun c_6 => ?_) (fun c_6 => ?_)
  · exfalso; omega
  · refine e_aload_n dX3_add_9 rfl ?_
    refine c_getR (kt := (20, 10, 135)) (by decide) (Or.inl (by decide)) dX3_add_10 f_X3_15 hL rfl (Nat.succ_ne_zero _) (fun q_10 h_10 => ?_)
    refine e_aload_n dX3_add_13 rfl ?_
    refine c_getI (by decide) dX3_add_14 f_X3_9 (Or.inl rfl) hL ?_
    rw [rs_holds hR]
    have g_14 := rs_27 hW
    refine e_iload_n dX3_add_17 rfl ?_
    refine c_iast (by decide) dX3_add_18 h_10 (by omega) (by omega) (by decide) ⟨by omega, by omega⟩ ?_
    refine e_aload_n dX3_add_19 rfl ?_
    refine c_getR (kt := (20, 10, 136)) (by decide) (Or.inl (by decide)) dX3_add_20 f_X3_19 hL rfl (Nat.succ_ne_zero _) (fun q_20 h_20 => ?_)
    refine e_aload_n dX3_add_23 rfl ?_
    refine c_getI (by decide) dX3_add_24 f_X3_9 (Or.inl rfl) hL ?_
    try simp only [q_us_ap, editsF_3, Int.reduceEq, Int.reduceNeg, false_and, and_false, and_self, if_true, if_false, true_and, and_true, ite_self]
    rw [rs_holds hR]
    have g_24 := rs_27 hW
    refine e_iload_n dX3_add_27 rfl ?_
    refine c_iast (by decide) dX3_add_28 h_20 (by omega) (by omega) (by decide) ⟨by omega, by omega⟩ ?_
    refine e_aload_n dX3_add_29 rfl ?_
    refine c_getR (kt := (20, 10, 137)) (by decide) (Or.inl (by decide)) dX3_add_30 f_X3_22 hL rfl (Nat.succ_ne_zero _) (fun q_30 h_30 => ?_)
    refine e_aload_n dX3_add_33 rfl ?_
    refine c_getI (by decide) dX3_add_34 f_X3_9 (Or.inl rfl) hL ?_
    try simp only [q_us_ap, editsF_3, Int.reduceEq, Int.reduceNeg, false_and, and_false, and_self, if_true, if_false, true_and, and_true, ite_self]
    rw [rs_holds hR]
    have g_34 := rs_27 hW
    refine e_iload_n dX3_add_37 rfl ?_
    refine c_iast (by decide) dX3_add_38 h_30 (by omega) (by omega) (by decide) ⟨by omega, by omega⟩ ?_
    refine e_aload_n dX3_add_39 rfl ?_
    refine e_dup dX3_add_40 rfl ?_
    refine c_getI (by decide) dX3_add_41 f_X3_9 (Or.inl rfl) hL ?_
    try simp only [q_us_ap, editsF_3, Int.reduceEq, Int.reduceNeg, false_and, and_false, and_self, if_true, if_false, true_and, and_true, ite_self]
    rw [rs_holds hR]
    have g_41 := rs_27 hW
    refine e_iconst dX3_add_44 ?_
    refine e_iadd dX3_add_45 ?_
    refine c_putI (by decide) dX3_add_46 f_X3_9 rfl hL (by decide) ⟨by omega, by omega⟩ ?_
    exact e_ret dX3_add_49 rfl (e_ok rfl rfl rfl)
set_option maxRecDepth 20000 in
set_option maxHeartbeats 4000000 in
theorem c_10_hold {K : q_K} {B M C : q_S} {a : Nat} (hT : K a = (11, 0, 100)) (hR : RC M C) (hI : MI M) (hW : WR M) (hB : q_tb K (M 50 16)) {c s : Nat} (hc : 1 ≤ c) (hs : 6 ≤ s) {f x y : Int} (hf : q_iI f) (hx : q_iI x) (hy : q_iI y)  : q_E mX10_hold 0 [some (q_R a), some (q_I f), some (q_I x), some (q_I y)] [] K B C c s (PB (holdF M f x y) "java/lang/IndexOutOfBoundsException" "java/lang/IllegalArgumentException" "java/lang/IllegalStateException" K B) := by
  have h27 := rs_27 hW
  have hf1 := hf.1
  have hf2 := hf.2
  have hx1 := hx.1
  have hx2 := hx.2
  have hy1 := hy.1
  have hy2 := hy.2
  by_cases e0 : 0 ≤ f ∧ f < 16
  · by_cases e1 : 0 ≤ x ∧ x ≤ 2000
    · by_cases e2 : x ≤ y ∧ y ≤ 2000
      · by_cases e3 : M 50 27 < 10
        · refine e_iload_n dX10_hold_0 rfl ?_
          refine e_bipush dX10_hold_1 (by decide) ?_
          refine e_cS (as := [_, _]) dX10_hold_3 k_X10_needIndex l_X10_99 s_X10_needIndex rfl rfl rfl rfl (Nat.le_of_ble_eq_true rfl) ⟨by decide, by decide⟩ (Nat.le_of_ble_eq_true rfl) (by decide) (c_nI1 hf ⟨by decide, by decide⟩ (by omega)) ?_
          refine e_iload_n dX10_hold_6 rfl ?_
          refine e_iconst dX10_hold_7 ?_
          refine e_sipush dX10_hold_8 (by decide) ?_
          refine e_cS (as := [_, _, _]) dX10_hold_11 k_X10_needRange l_X10_88 s_X10_needRange rfl rfl rfl rfl (Nat.le_of_ble_eq_true rfl) ⟨by decide, by decide⟩ (Nat.le_of_ble_eq_true rfl) (by decide) (c_nR1 hx ⟨by decide, by decide⟩ ⟨by decide, by decide⟩ (by omega)) ?_
          refine e_iload_n dX10_hold_14 rfl ?_
          refine e_iload_n dX10_hold_15 rfl ?_
          refine e_sipush dX10_hold_16 (by decide) ?_
          refine e_cS (as := [_, _, _]) dX10_hold_19 k_X10_needRange l_X10_88 s_X10_needRange rfl rfl rfl rfl (Nat.le_of_ble_eq_true rfl) ⟨by decide, by decide⟩ (Nat.le_of_ble_eq_true rfl) (by decide) (c_nR1 hy ⟨by omega, by omega⟩ ⟨by decide, by decide⟩ (by omega)) ?_
          refine e_aload_n dX10_hold_22 rfl ?_
          refine c_getR (kt := (4, 0, 108)) (by decide) (Or.inl (by decide)) dX10_hold_23 f_X10_50 hT rfl (Nat.succ_ne_zero _) (fun q_23 h_23 => ?_)
          refine c_getI (by decide) dX10_hold_26 f_X10_233 (Or.inl rfl) h_23 ?_
          rw [rs_holds hR]
          have g_26 := rs_27 hW
          refine e_bipush dX10_hold_29 (by decide) ?_
          refine e_icmp_lt (tgt := 44) dX10_hold_31 (by decide) ⟨by omega, by omega⟩ ⟨by omega, by omega⟩ (fun c_31 => ?_) (fun c_31 => ?_)
          · refine e_aload_n dX10_hold_44 rfl ?_
            refine c_getR (kt := (4, 0, 108)) (by decide) (Or.inl (by decide)) dX10_hold_45 f_X10_50 hT rfl (Nat.succ_ne_zero _) (fun q_45 h_45 => ?_)
            refine e_iload_n dX10_hold_48 rfl ?_
            refine e_iload_n dX10_hold_49 rfl ?_
            refine e_iload_n dX10_hold_50 rfl ?_
            refine e_cV (as := [_, _, _]) (ci := 3) dX10_hold_51 k_X3_add l_X10_238 i_X3_add v_X3_add h_45 rfl (by decide) ⟨_, _, rfl⟩ rfl rfl rfl rfl (Nat.le_of_ble_eq_true rfl) ⟨by decide, by decide⟩ (Nat.le_of_ble_eq_true rfl) (by decide) (c_3_add h_45 hR hI hW ⟨by omega, by omega⟩ ⟨by omega, by omega⟩ ⟨by omega, by omega⟩ (by omega)) ?_
            refine e_aload_n dX10_hold_54 rfl ?_
            refine c_getR (kt := (4, 0, 108)) (by decide) (Or.inl (by decide)) dX10_hold_55 f_X10_50 hT rfl (Nat.succ_ne_zero _) (fun q_55 h_55 => ?_)
            refine c_getI (by decide) dX10_hold_58 f_X10_233 (Or.inl rfl) h_55 ?_
            try simp only [q_us_ap, editsF_3, Int.reduceEq, Int.reduceNeg, false_and, and_false, and_self, if_true, if_false, true_and, and_true, ite_self]
            exact e_iret dX10_hold_61 (Or.inl rfl) (pbm0 (X := q_us (q_us (q_us (q_us (thr M 0) 28 (M 50 27) f) 29 (M 50 27) x) 30 (M 50 27) y) 50 27 (M 50 27 + 1)) (by unfold holdF; rw [if_neg (by omega), if_neg (by omega), if_neg (by omega)]) hB rfl ⟨(by have h9 := hR.1; unfold RS at h9 ⊢; simp only [q_us_ap, Int.reduceEq, Int.reduceNeg, false_and, and_false, and_self, true_and, and_true, if_true, if_false]; omega), RD_fr (rc_D hR) (by intros; first | rfl | (simp only [q_us_ap]; repeat rw [if_neg (by omega)])) (by intros; first | rfl | (simp only [q_us_ap]; repeat rw [if_neg (by omega)])) (by intros; first | rfl | (simp only [q_us_ap]; repeat rw [if_neg (by omega)])), RP_fr (rc_P hR) (by intros; first | rfl | (simp only [q_us_ap]; repeat rw [if_neg (by omega)])) (by intros; first | rfl | (simp only [q_us_ap]; repeat rw [if_neg (by omega)])) (by intros; first | rfl | (simp only [q_us_ap]; repeat rw [if_neg (by omega)])) (by intros; first | rfl | (simp only [q_us_ap]; repeat rw [if_neg (by omega)])) (by intros; first | rfl | (simp only [q_us_ap]; repeat rw [if_neg (by omega)])) (by intros; first | rfl | (simp only [q_us_ap]; repeat rw [if_neg (by omega)])) (by intros; first | rfl | (simp only [q_us_ap]; repeat rw [if_neg (by omega)])), RM_fr (rc_M hR) (by intros; first | rfl | (simp only [q_us_ap]; repeat rw [if_neg (by omega)])) (by intros; first | rfl | (simp only [q_us_ap]; repeat rw [if_neg (by omega)])) (by intros; first | rfl | (simp only [q_us_ap]; repeat rw [if_neg (by omega)])), RL_fr (rc_L hR) (by intros; first | rfl | (simp only [q_us_ap]; repeat rw [if_neg (by omega)])) (by intros; first | rfl | (simp only [q_us_ap]; repeat rw [if_neg (by omega)])) (by intros; first | rfl | (simp only [q_us_ap]; repeat rw [if_neg (by omega)])), RV_fr (rc_V hR) (by intros; first | rfl | (simp only [q_us_ap]; repeat rw [if_neg (by omega)])) (by intros; first | rfl | (simp only [q_us_ap]; repeat rw [if_neg (by omega)])) (by intros; first | rfl | (simp only [q_us_ap]; repeat rw [if_neg (by omega)])) (by intros; first | rfl | (simp only [q_us_ap]; repeat rw [if_neg (by omega)])) (by intros; first | rfl | (simp only [q_us_ap]; repeat rw [if_neg (by omega)])) (by intros; first | rfl | (simp only [q_us_ap]; repeat rw [if_neg (by omega)])) (by intros; first | rfl | (simp only [q_us_ap]; repeat rw [if_neg (by omega)])) (by intros; first | rfl | (simp only [q_us_ap]; repeat rw [if_neg (by omega)])) (by intros; first | rfl | (simp only [q_us_ap]; repeat rw [if_neg (by omega)])) (by intros; first | rfl | (simp only [q_us_ap]; repeat rw [if_neg (by omega)])), RK_fr (rc_K hR) (by first | exact Int.le_refl _ | (simp only [q_us_ap, Int.reduceEq, false_and, and_false, if_false]; omega)) (by intros; first | rfl | (simp only [q_us_ap]; repeat rw [if_neg (by omega)])) (by intros; first | rfl | (simp only [q_us_ap]; repeat rw [if_neg (by omega)])) (by intros; first | rfl | (simp only [q_us_ap]; repeat rw [if_neg (by omega)])) (by intros; first | rfl | (simp only [q_us_ap]; repeat rw [if_neg (by omega)])), RH_fr (rc_H hR) (by intros; first | rfl | (simp only [q_us_ap]; repeat rw [if_neg (by omega)])) (by intros; first | rfl | (simp only [q_us_ap]; repeat rw [if_neg (by omega)])) (by intros; first | rfl | (simp only [q_us_ap]; repeat rw [if_neg (by omega)])) (by intros; first | rfl | (simp only [q_us_ap]; repeat rw [if_neg (by omega)])), (by
                intro k h1 h2
                have h8 := rs_27 hW
                simp only [q_us_ap, Int.reduceEq, Int.reduceNeg, and_false, false_and, and_true, true_and, and_self, if_false, if_true] at h2 ⊢
                have h9 := fun g => rc_O hR k h1 g
                refine ⟨?_, ?_, ?_⟩
                all_goals split
                all_goals first | rfl | exact (h9 (by omega)).1 | exact (h9 (by omega)).2.1 | exact (h9 (by omega)).2.2), RT_fr (rc_T hR) (by intros; first | rfl | (simp only [q_us_ap]; repeat rw [if_neg (by omega)])) (by intros; first | rfl | (simp only [q_us_ap]; repeat rw [if_neg (by omega)])) (by intros; first | rfl | (simp only [q_us_ap]; repeat rw [if_neg (by omega)])) (by intros; first | rfl | (simp only [q_us_ap]; repeat rw [if_neg (by omega)])) (by intros; first | rfl | (simp only [q_us_ap]; repeat rw [if_neg (by omega)])) (by intros; first | rfl | (simp only [q_us_ap]; repeat rw [if_neg (by omega)])) (by intros; first | rfl | (simp only [q_us_ap]; repeat rw [if_neg (by omega)])) (by intros; first | rfl | (simp only [q_us_ap]; repeat rw [if_neg (by omega)])), RE_fr (rc_E hR) (by intros; first | rfl | (simp only [q_us_ap]; repeat rw [if_neg (by omega)])) (by intros; first | rfl | (simp only [q_us_ap]; repeat rw [if_neg (by omega)])) (by intros; first | rfl | (simp only [q_us_ap]; repeat rw [if_neg (by omega)])) (by intros; first | rfl | (simp only [q_us_ap]; repeat rw [if_neg (by omega)])) (by intros; first | rfl | (simp only [q_us_ap]; repeat rw [if_neg (by omega)])) (by intros; first | rfl | (simp only [q_us_ap]; repeat rw [if_neg (by omega)])) (by intros; first | rfl | (simp only [q_us_ap]; repeat rw [if_neg (by omega)])), CC_fr (rc_C hR) (by intros; first | rfl | (simp only [q_us_ap]; repeat rw [if_neg (by omega)]))⟩)
          · exfalso; omega
        · refine e_iload_n dX10_hold_0 rfl ?_
          refine e_bipush dX10_hold_1 (by decide) ?_
          refine e_cS (as := [_, _]) dX10_hold_3 k_X10_needIndex l_X10_99 s_X10_needIndex rfl rfl rfl rfl (Nat.le_of_ble_eq_true rfl) ⟨by decide, by decide⟩ (Nat.le_of_ble_eq_true rfl) (by decide) (c_nI1 hf ⟨by decide, by decide⟩ (by omega)) ?_
          refine e_iload_n dX10_hold_6 rfl ?_
          refine e_iconst dX10_hold_7 ?_
          refine e_sipush dX10_hold_8 (by decide) ?_
          refine e_cS (as := [_, _, _]) dX10_hold_11 k_X10_needRange l_X10_88 s_X10_needRange rfl rfl rfl rfl (Nat.le_of_ble_eq_true rfl) ⟨by decide, by decide⟩ (Nat.le_of_ble_eq_true rfl) (by decide) (c_nR1 hx ⟨by decide, by decide⟩ ⟨by decide, by decide⟩ (by omega)) ?_
          refine e_iload_n dX10_hold_14 rfl ?_
          refine e_iload_n dX10_hold_15 rfl ?_
          refine e_sipush dX10_hold_16 (by decide) ?_
          refine e_cS (as := [_, _, _]) dX10_hold_19 k_X10_needRange l_X10_88 s_X10_needRange rfl rfl rfl rfl (Nat.le_of_ble_eq_true rfl) ⟨by decide, by decide⟩ (Nat.le_of_ble_eq_true rfl) (by decide) (c_nR1 hy ⟨by omega, by omega⟩ ⟨by decide, by decide⟩ (by omega)) ?_
          refine e_aload_n dX10_hold_22 rfl ?_
          refine c_getR (kt := (4, 0, 108)) (by decide) (Or.inl (by decide)) dX10_hold_23 f_X10_50 hT rfl (Nat.succ_ne_zero _) (fun q_23 h_23 => ?_)
          refine c_getI (by decide) dX10_hold_26 f_X10_233 (Or.inl rfl) h_23 ?_
          rw [rs_holds hR]
          have g_26 := rs_27 hW
          refine e_bipush dX10_hold_29 (by decide) ?_
          refine e_icmp_lt (tgt := 44) dX10_hold_31 (by decide) ⟨by omega, by omega⟩ ⟨by omega, by omega⟩ (fun c_31 => ?_) (fun c_31 => ?_)
          · exfalso; omega
          · exact e_thrS dX10_hold_34 dX10_hold_37 dX10_hold_38 dX10_hold_40 dX10_hold_43 x_sta y_tenh rfl (Nat.le_of_ble_eq_true rfl) ⟨by decide, by decide⟩ hc hs (pbq3 hB hR (by unfold holdF; rw [if_neg (by omega), if_neg (by omega), if_pos (by omega)]))
      · refine e_iload_n dX10_hold_0 rfl ?_
        refine e_bipush dX10_hold_1 (by decide) ?_
        refine e_cS (as := [_, _]) dX10_hold_3 k_X10_needIndex l_X10_99 s_X10_needIndex rfl rfl rfl rfl (Nat.le_of_ble_eq_true rfl) ⟨by decide, by decide⟩ (Nat.le_of_ble_eq_true rfl) (by decide) (c_nI1 hf ⟨by decide, by decide⟩ (by omega)) ?_
        refine e_iload_n dX10_hold_6 rfl ?_
        refine e_iconst dX10_hold_7 ?_
        refine e_sipush dX10_hold_8 (by decide) ?_
        refine e_cS (as := [_, _, _]) dX10_hold_11 k_X10_needRange l_X10_88 s_X10_needRange rfl rfl rfl rfl (Nat.le_of_ble_eq_true rfl) ⟨by decide, by decide⟩ (Nat.le_of_ble_eq_true rfl) (by decide) (c_nR1 hx ⟨by decide, by decide⟩ ⟨by decide, by decide⟩ (by omega)) ?_
        refine e_iload_n dX10_hold_14 rfl ?_
        refine e_iload_n dX10_hold_15 rfl ?_
        refine e_sipush dX10_hold_16 (by decide) ?_
        exact e_cST (as := [_, _, _]) dX10_hold_19 k_X10_needRange l_X10_88 s_X10_needRange rfl rfl rfl rfl (Nat.le_of_ble_eq_true rfl) ⟨by decide, by decide⟩ (Nat.le_of_ble_eq_true rfl) (by decide) (c_nR0 hy ⟨by omega, by omega⟩ ⟨by decide, by decide⟩ hc hs (by omega)) (pbq2 hB hR (by unfold holdF; rw [if_neg (by omega), if_pos (by omega)]))
    · refine e_iload_n dX10_hold_0 rfl ?_
      refine e_bipush dX10_hold_1 (by decide) ?_
      refine e_cS (as := [_, _]) dX10_hold_3 k_X10_needIndex l_X10_99 s_X10_needIndex rfl rfl rfl rfl (Nat.le_of_ble_eq_true rfl) ⟨by decide, by decide⟩ (Nat.le_of_ble_eq_true rfl) (by decide) (c_nI1 hf ⟨by decide, by decide⟩ (by omega)) ?_
      refine e_iload_n dX10_hold_6 rfl ?_
      refine e_iconst dX10_hold_7 ?_
      refine e_sipush dX10_hold_8 (by decide) ?_
      exact e_cST (as := [_, _, _]) dX10_hold_11 k_X10_needRange l_X10_88 s_X10_needRange rfl rfl rfl rfl (Nat.le_of_ble_eq_true rfl) ⟨by decide, by decide⟩ (Nat.le_of_ble_eq_true rfl) (by decide) (c_nR0 hx ⟨by decide, by decide⟩ ⟨by decide, by decide⟩ hc hs (by omega)) (pbq2 hB hR (by unfold holdF; rw [if_neg (by omega), if_pos (by omega)]))
  · refine e_iload_n dX10_hold_0 rfl ?_
    refine e_bipush dX10_hold_1 (by decide) ?_
    exact e_cST (as := [_, _]) dX10_hold_3 k_X10_needIndex l_X10_99 s_X10_needIndex rfl rfl rfl rfl (Nat.le_of_ble_eq_true rfl) ⟨by decide, by decide⟩ (Nat.le_of_ble_eq_true rfl) (by decide) (c_nI0 hf ⟨by decide, by decide⟩ hc hs (by omega)) (pbq1 hB hR (by unfold holdF; rw [if_pos (by omega)]))
set_option maxRecDepth 20000 in
set_option maxHeartbeats 4000000 in
theorem c_10_release {K : q_K} {B M C : q_S} {a : Nat} (hT : K a = (11, 0, 100)) (hR : RC M C) (hI : MI M) (hW : WR M) (hB : q_tb K (M 50 16)) {c s : Nat} (hc : 1 ≤ c) (hs : 6 ≤ s)   : q_E mX10_release 0 [some (q_R a), none] [] K B C c s (PB (releaseF M) "" "" "" K B) := by
  refine e_aload_n dX10_release_0 rfl ?_
  refine c_getR (kt := (4, 0, 108)) (by decide) (Or.inl (by decide)) dX10_release_1 f_X10_50 hT rfl (Nat.succ_ne_zero _) (fun q_1 h_1 => ?_)
  refine c_getI (by decide) dX10_release_4 f_X10_233 (Or.inl rfl) h_1 ?_
  rw [rs_holds hR]
  have g_4 := rs_27 hW
  refine e_istore_n (ls2 := [_, _]) dX10_release_7 (Nat.le_of_ble_eq_true rfl) rfl ?_
  refine e_aload_n dX10_release_8 rfl ?_
  refine c_getR (kt := (4, 0, 108)) (by decide) (Or.inl (by decide)) dX10_release_9 f_X10_50 hT rfl (Nat.succ_ne_zero _) (fun q_9 h_9 => ?_)
  refine e_iconst dX10_release_12 ?_
  refine c_putI (by decide) dX10_release_13 f_X10_233 rfl h_9 (by decide) ⟨by omega, by omega⟩ ?_
  refine e_iload_n dX10_release_16 rfl ?_
  exact e_iret dX10_release_17 (Or.inl rfl) (pbm0 (X := q_us (thr M 0) 50 27 0) rfl hB rfl ⟨(by have h9 := hR.1; unfold RS at h9 ⊢; simp only [q_us_ap, Int.reduceEq, Int.reduceNeg, false_and, and_false, and_self, true_and, and_true, if_true, if_false]; omega), RD_fr (rc_D hR) (by intros; first | rfl | (simp only [q_us_ap]; repeat rw [if_neg (by omega)])) (by intros; first | rfl | (simp only [q_us_ap]; repeat rw [if_neg (by omega)])) (by intros; first | rfl | (simp only [q_us_ap]; repeat rw [if_neg (by omega)])), RP_fr (rc_P hR) (by intros; first | rfl | (simp only [q_us_ap]; repeat rw [if_neg (by omega)])) (by intros; first | rfl | (simp only [q_us_ap]; repeat rw [if_neg (by omega)])) (by intros; first | rfl | (simp only [q_us_ap]; repeat rw [if_neg (by omega)])) (by intros; first | rfl | (simp only [q_us_ap]; repeat rw [if_neg (by omega)])) (by intros; first | rfl | (simp only [q_us_ap]; repeat rw [if_neg (by omega)])) (by intros; first | rfl | (simp only [q_us_ap]; repeat rw [if_neg (by omega)])) (by intros; first | rfl | (simp only [q_us_ap]; repeat rw [if_neg (by omega)])), RM_fr (rc_M hR) (by intros; first | rfl | (simp only [q_us_ap]; repeat rw [if_neg (by omega)])) (by intros; first | rfl | (simp only [q_us_ap]; repeat rw [if_neg (by omega)])) (by intros; first | rfl | (simp only [q_us_ap]; repeat rw [if_neg (by omega)])), RL_fr (rc_L hR) (by intros; first | rfl | (simp only [q_us_ap]; repeat rw [if_neg (by omega)])) (by intros; first | rfl | (simp only [q_us_ap]; repeat rw [if_neg (by omega)])) (by intros; first | rfl | (simp only [q_us_ap]; repeat rw [if_neg (by omega)])), RV_fr (rc_V hR) (by intros; first | rfl | (simp only [q_us_ap]; repeat rw [if_neg (by omega)])) (by intros; first | rfl | (simp only [q_us_ap]; repeat rw [if_neg (by omega)])) (by intros; first | rfl | (simp only [q_us_ap]; repeat rw [if_neg (by omega)])) (by intros; first | rfl | (simp only [q_us_ap]; repeat rw [if_neg (by omega)])) (by intros; first | rfl | (simp only [q_us_ap]; repeat rw [if_neg (by omega)])) (by intros; first | rfl | (simp only [q_us_ap]; repeat rw [if_neg (by omega)])) (by intros; first | rfl | (simp only [q_us_ap]; repeat rw [if_neg (by omega)])) (by intros; first | rfl | (simp only [q_us_ap]; repeat rw [if_neg (by omega)])) (by intros; first | rfl | (simp only [q_us_ap]; repeat rw [if_neg (by omega)])) (by intros; first | rfl | (simp only [q_us_ap]; repeat rw [if_neg (by omega)])), RK_fr (rc_K hR) (by first | exact Int.le_refl _ | (simp only [q_us_ap, Int.reduceEq, false_and, and_false, if_false]; omega)) (by intros; first | rfl | (simp only [q_us_ap]; repeat rw [if_neg (by omega)])) (by intros; first | rfl | (simp only [q_us_ap]; repeat rw [if_neg (by omega)])) (by intros; first | rfl | (simp only [q_us_ap]; repeat rw [if_neg (by omega)])) (by intros; first | rfl | (simp only [q_us_ap]; repeat rw [if_neg (by omega)])), RH_fr (rc_H hR) (by intros; first | rfl | (simp only [q_us_ap]; repeat rw [if_neg (by omega)])) (by intros; first | rfl | (simp only [q_us_ap]; repeat rw [if_neg (by omega)])) (by intros; first | rfl | (simp only [q_us_ap]; repeat rw [if_neg (by omega)])) (by intros; first | rfl | (simp only [q_us_ap]; repeat rw [if_neg (by omega)])), (by
      intro k h1 h2
      simp only [q_us_ap, Int.reduceEq, Int.reduceNeg, and_false, false_and, and_true, true_and, and_self, if_false, if_true] at h2
      omega), RT_fr (rc_T hR) (by intros; first | rfl | (simp only [q_us_ap]; repeat rw [if_neg (by omega)])) (by intros; first | rfl | (simp only [q_us_ap]; repeat rw [if_neg (by omega)])) (by intros; first | rfl | (simp only [q_us_ap]; repeat rw [if_neg (by omega)])) (by intros; first | rfl | (simp only [q_us_ap]; repeat rw [if_neg (by omega)])) (by intros; first | rfl | (simp only [q_us_ap]; repeat rw [if_neg (by omega)])) (by intros; first | rfl | (simp only [q_us_ap]; repeat rw [if_neg (by omega)])) (by intros; first | rfl | (simp only [q_us_ap]; repeat rw [if_neg (by omega)])) (by intros; first | rfl | (simp only [q_us_ap]; repeat rw [if_neg (by omega)])), RE_fr (rc_E hR) (by intros; first | rfl | (simp only [q_us_ap]; repeat rw [if_neg (by omega)])) (by intros; first | rfl | (simp only [q_us_ap]; repeat rw [if_neg (by omega)])) (by intros; first | rfl | (simp only [q_us_ap]; repeat rw [if_neg (by omega)])) (by intros; first | rfl | (simp only [q_us_ap]; repeat rw [if_neg (by omega)])) (by intros; first | rfl | (simp only [q_us_ap]; repeat rw [if_neg (by omega)])) (by intros; first | rfl | (simp only [q_us_ap]; repeat rw [if_neg (by omega)])) (by intros; first | rfl | (simp only [q_us_ap]; repeat rw [if_neg (by omega)])), CC_fr (rc_C hR) (by intros; first | rfl | (simp only [q_us_ap]; repeat rw [if_neg (by omega)]))⟩)
set_option maxRecDepth 20000 in
set_option maxHeartbeats 4000000 in
theorem c_10_draft {K : q_K} {B M C : q_S} {a : Nat} (hT : K a = (11, 0, 100)) (hR : RC M C) (hI : MI M) (hW : WR M) (hB : q_tb K (M 50 16)) {c s : Nat} (hc : 1 ≤ c) (hs : 6 ≤ s) {n : Int} (hn : q_iI n)  : q_E mX10_draft 0 [some (q_R a), some (q_I n)] [] K B C c s (PB (draftF M n) "java/lang/IllegalArgumentException" "java/lang/IllegalStateException" "" K B) := by
  have hdl := vcode_len hI.1
  have hn1 := hn.1
  have hn2 := hn.2
  by_cases e0 : 0 ≤ n ∧ n ≤ 9
  · by_cases e1 : ¬ mlen (M 50 0) = 12
    · refine e_iload_n dX10_draft_0 rfl ?_
      refine e_iconst dX10_draft_1 ?_
      refine e_bipush dX10_draft_2 (by decide) ?_
      refine e_cS (as := [_, _, _]) dX10_draft_4 k_X10_needRange l_X10_88 s_X10_needRange rfl rfl rfl rfl (Nat.le_of_ble_eq_true rfl) ⟨by decide, by decide⟩ (Nat.le_of_ble_eq_true rfl) (by decide) (c_nR1 hn ⟨by decide, by decide⟩ ⟨by decide, by decide⟩ (by omega)) ?_
      refine e_aload_n dX10_draft_7 rfl ?_
      refine c_getI (by decide) dX10_draft_8 f_X10_54 (Or.inl rfl) hT ?_
      rw [rs_dcn hR]
      have g_8 := mlen_nn (M 50 0)
      refine e_bipush dX10_draft_11 (by decide) ?_
      refine e_icmp_lt (tgt := 26) dX10_draft_13 (by decide) ⟨by omega, by omega⟩ ⟨by omega, by omega⟩ (fun c_13 => ?_) (fun c_13 => ?_)
      · have hdm := draft_more hI.1 e1 e0
        refine e_aload_n dX10_draft_26 rfl ?_
        refine c_getR (kt := (20, 12, 101)) (by decide) (Or.inl (by decide)) dX10_draft_27 f_X10_9 hT rfl (Nat.succ_ne_zero _) (fun q_27 h_27 => ?_)
        refine e_aload_n dX10_draft_30 rfl ?_
        refine c_getI (by decide) dX10_draft_31 f_X10_54 (Or.inl rfl) hT ?_
        rw [rs_dcn hR]
        have g_31 := mlen_nn (M 50 0)
        refine e_iload_n dX10_draft_34 rfl ?_
        refine c_iast (by decide) dX10_draft_35 h_27 (by omega) (by omega) (by decide) ⟨by omega, by omega⟩ ?_
        refine e_aload_n dX10_draft_36 rfl ?_
        refine e_dup dX10_draft_37 rfl ?_
        refine c_getI (by decide) dX10_draft_38 f_X10_54 (Or.inl rfl) hT ?_
        try simp only [q_us_ap, editsF_3, Int.reduceEq, Int.reduceNeg, false_and, and_false, and_self, if_true, if_false, true_and, and_true, ite_self]
        rw [rs_dcn hR]
        have g_38 := mlen_nn (M 50 0)
        refine e_iconst dX10_draft_41 ?_
        refine e_iadd dX10_draft_42 ?_
        refine c_putI (by decide) dX10_draft_43 f_X10_54 rfl hT (by decide) ⟨by omega, by omega⟩ ?_
        refine e_aload_n dX10_draft_46 rfl ?_
        refine c_getI (by decide) dX10_draft_47 f_X10_54 (Or.inl rfl) hT ?_
        try simp only [q_us_ap, editsF_3, Int.reduceEq, Int.reduceNeg, false_and, and_false, and_self, if_true, if_false, true_and, and_true, ite_self]
        exact e_iret dX10_draft_50 (Or.inl rfl) (pbm0 (X := q_us (thr M 0) 50 0 ((if M 50 0 = 0 then 10 else 10 * M 50 0) + n)) (by unfold draftF; rw [if_neg (by omega), if_neg (by omega), hdm.2.1]) hB rfl ⟨(by have h9 := hR.1; unfold RS at h9 ⊢; simp only [q_us_ap, Int.reduceEq, Int.reduceNeg, false_and, and_false, and_self, true_and, and_true, if_true, if_false]; omega), (by
            refine ⟨?_, fun i h1 h2 => ?_⟩
            · simp only [q_us_ap, and_self, if_true]; exact hdm.2.1.symm
            · have h3 : i < mlen ((if M 50 0 = 0 then 10 else 10 * M 50 0) + n) := h2
              rw [hdm.2.1] at h3
              have h9 := hdm.2.2 i h1 (by omega)
              show _ = fig ((if M 50 0 = 0 then 10 else 10 * M 50 0) + n) i
              rw [h9]
              simp only [q_us_ap, Int.reduceEq, Int.reduceNeg, and_false, false_and, and_true, true_and, and_self, if_false, if_true]
              split
              · rfl
              · exact (rc_D hR).2 i h1 (by omega)), RP_fr (rc_P hR) (by intros; first | rfl | (simp only [q_us_ap]; repeat rw [if_neg (by omega)])) (by intros; first | rfl | (simp only [q_us_ap]; repeat rw [if_neg (by omega)])) (by intros; first | rfl | (simp only [q_us_ap]; repeat rw [if_neg (by omega)])) (by intros; first | rfl | (simp only [q_us_ap]; repeat rw [if_neg (by omega)])) (by intros; first | rfl | (simp only [q_us_ap]; repeat rw [if_neg (by omega)])) (by intros; first | rfl | (simp only [q_us_ap]; repeat rw [if_neg (by omega)])) (by intros; first | rfl | (simp only [q_us_ap]; repeat rw [if_neg (by omega)])), RM_fr (rc_M hR) (by intros; first | rfl | (simp only [q_us_ap]; repeat rw [if_neg (by omega)])) (by intros; first | rfl | (simp only [q_us_ap]; repeat rw [if_neg (by omega)])) (by intros; first | rfl | (simp only [q_us_ap]; repeat rw [if_neg (by omega)])), RL_fr (rc_L hR) (by intros; first | rfl | (simp only [q_us_ap]; repeat rw [if_neg (by omega)])) (by intros; first | rfl | (simp only [q_us_ap]; repeat rw [if_neg (by omega)])) (by intros; first | rfl | (simp only [q_us_ap]; repeat rw [if_neg (by omega)])), RV_fr (rc_V hR) (by intros; first | rfl | (simp only [q_us_ap]; repeat rw [if_neg (by omega)])) (by intros; first | rfl | (simp only [q_us_ap]; repeat rw [if_neg (by omega)])) (by intros; first | rfl | (simp only [q_us_ap]; repeat rw [if_neg (by omega)])) (by intros; first | rfl | (simp only [q_us_ap]; repeat rw [if_neg (by omega)])) (by intros; first | rfl | (simp only [q_us_ap]; repeat rw [if_neg (by omega)])) (by intros; first | rfl | (simp only [q_us_ap]; repeat rw [if_neg (by omega)])) (by intros; first | rfl | (simp only [q_us_ap]; repeat rw [if_neg (by omega)])) (by intros; first | rfl | (simp only [q_us_ap]; repeat rw [if_neg (by omega)])) (by intros; first | rfl | (simp only [q_us_ap]; repeat rw [if_neg (by omega)])) (by intros; first | rfl | (simp only [q_us_ap]; repeat rw [if_neg (by omega)])), RK_fr (rc_K hR) (by first | exact Int.le_refl _ | (simp only [q_us_ap, Int.reduceEq, false_and, and_false, if_false]; omega)) (by intros; first | rfl | (simp only [q_us_ap]; repeat rw [if_neg (by omega)])) (by intros; first | rfl | (simp only [q_us_ap]; repeat rw [if_neg (by omega)])) (by intros; first | rfl | (simp only [q_us_ap]; repeat rw [if_neg (by omega)])) (by intros; first | rfl | (simp only [q_us_ap]; repeat rw [if_neg (by omega)])), RH_fr (rc_H hR) (by intros; first | rfl | (simp only [q_us_ap]; repeat rw [if_neg (by omega)])) (by intros; first | rfl | (simp only [q_us_ap]; repeat rw [if_neg (by omega)])) (by intros; first | rfl | (simp only [q_us_ap]; repeat rw [if_neg (by omega)])) (by intros; first | rfl | (simp only [q_us_ap]; repeat rw [if_neg (by omega)])), RO_fr (rc_O hR) (by intros; first | rfl | (simp only [q_us_ap]; repeat rw [if_neg (by omega)])) (by intros; first | rfl | (simp only [q_us_ap]; repeat rw [if_neg (by omega)])) (by intros; first | rfl | (simp only [q_us_ap]; repeat rw [if_neg (by omega)])) (by intros; first | rfl | (simp only [q_us_ap]; repeat rw [if_neg (by omega)])) (by intros; first | rfl | (simp only [q_us_ap]; repeat rw [if_neg (by omega)])) (by intros; first | rfl | (simp only [q_us_ap]; repeat rw [if_neg (by omega)])) (by intros; first | rfl | (simp only [q_us_ap]; repeat rw [if_neg (by omega)])), RT_fr (rc_T hR) (by intros; first | rfl | (simp only [q_us_ap]; repeat rw [if_neg (by omega)])) (by intros; first | rfl | (simp only [q_us_ap]; repeat rw [if_neg (by omega)])) (by intros; first | rfl | (simp only [q_us_ap]; repeat rw [if_neg (by omega)])) (by intros; first | rfl | (simp only [q_us_ap]; repeat rw [if_neg (by omega)])) (by intros; first | rfl | (simp only [q_us_ap]; repeat rw [if_neg (by omega)])) (by intros; first | rfl | (simp only [q_us_ap]; repeat rw [if_neg (by omega)])) (by intros; first | rfl | (simp only [q_us_ap]; repeat rw [if_neg (by omega)])) (by intros; first | rfl | (simp only [q_us_ap]; repeat rw [if_neg (by omega)])), RE_fr (rc_E hR) (by intros; first | rfl | (simp only [q_us_ap]; repeat rw [if_neg (by omega)])) (by intros; first | rfl | (simp only [q_us_ap]; repeat rw [if_neg (by omega)])) (by intros; first | rfl | (simp only [q_us_ap]; repeat rw [if_neg (by omega)])) (by intros; first | rfl | (simp only [q_us_ap]; repeat rw [if_neg (by omega)])) (by intros; first | rfl | (simp only [q_us_ap]; repeat rw [if_neg (by omega)])) (by intros; first | rfl | (simp only [q_us_ap]; repeat rw [if_neg (by omega)])) (by intros; first | rfl | (simp only [q_us_ap]; repeat rw [if_neg (by omega)])), CC_fr (rc_C hR) (by intros; first | rfl | (simp only [q_us_ap]; repeat rw [if_neg (by omega)]))⟩)
      · exfalso; omega
    · refine e_iload_n dX10_draft_0 rfl ?_
      refine e_iconst dX10_draft_1 ?_
      refine e_bipush dX10_draft_2 (by decide) ?_
      refine e_cS (as := [_, _, _]) dX10_draft_4 k_X10_needRange l_X10_88 s_X10_needRange rfl rfl rfl rfl (Nat.le_of_ble_eq_true rfl) ⟨by decide, by decide⟩ (Nat.le_of_ble_eq_true rfl) (by decide) (c_nR1 hn ⟨by decide, by decide⟩ ⟨by decide, by decide⟩ (by omega)) ?_
      refine e_aload_n dX10_draft_7 rfl ?_
      refine c_getI (by decide) dX10_draft_8 f_X10_54 (Or.inl rfl) hT ?_
      rw [rs_dcn hR]
      have g_8 := mlen_nn (M 50 0)
      refine e_bipush dX10_draft_11 (by decide) ?_
      refine e_icmp_lt (tgt := 26) dX10_draft_13 (by decide) ⟨by omega, by omega⟩ ⟨by omega, by omega⟩ (fun c_13 => ?_) (fun c_13 => ?_)
      · exfalso; omega
      · exact e_thrS dX10_draft_16 dX10_draft_19 dX10_draft_20 dX10_draft_22 dX10_draft_25 x_sta y_full rfl (Nat.le_of_ble_eq_true rfl) ⟨by decide, by decide⟩ hc hs (pbq2 hB hR (by unfold draftF; rw [if_neg (by omega), if_pos (by omega)]))
  · refine e_iload_n dX10_draft_0 rfl ?_
    refine e_iconst dX10_draft_1 ?_
    refine e_bipush dX10_draft_2 (by decide) ?_
    exact e_cST (as := [_, _, _]) dX10_draft_4 k_X10_needRange l_X10_88 s_X10_needRange rfl rfl rfl rfl (Nat.le_of_ble_eq_true rfl) ⟨by decide, by decide⟩ (Nat.le_of_ble_eq_true rfl) (by decide) (c_nR0 hn ⟨by decide, by decide⟩ ⟨by decide, by decide⟩ hc hs (by omega)) (pbq1 hB hR (by unfold draftF; rw [if_pos (by omega)]))
