set_option maxRecDepth 20000 in
set_option maxHeartbeats 4000000 in
theorem c_10_move {K : q_K} {B M C : q_S} {a : Nat} (hT : K a = (11, 0, 100)) (hR : RC M C) (hI : MI M) (hW : WR M) (hB : q_tb K (M 50 16)) {c s : Nat} (hc : 1 ≤ c) (hs : 6 ≤ s) {m f d : Int} (hm : q_iI m) (hf : q_iI f) (hd : q_iI d) (hev : M 50 13 < 512) : q_E mX10_move 0 [some (q_R a), some (q_I m), some (q_I f), some (q_I d), none, none] [] K B C c s (PB (moveF M m f d) "java/lang/IndexOutOfBoundsException" "java/lang/IllegalStateException" "" K B) := by
  have hm1 := hm.1
  have hm2 := hm.2
  have hf1 := hf.1
  have hf2 := hf.2
  have hd1 := hd.1
  have hd2 := hd.2
  by_cases e0 : 0 ≤ m ∧ m < 3
  · by_cases e1 : 0 ≤ f ∧ f < 16
    · by_cases e2 : 0 ≤ d ∧ d < 4
      · by_cases e3 : M 2 (16 * m + f) = 2
        · refine e_iload_n dX10_move_0 rfl ?_
          refine e_iconst dX10_move_1 ?_
          refine e_cS (as := [_, _]) dX10_move_2 k_X10_needIndex l_X10_99 s_X10_needIndex rfl rfl rfl rfl (Nat.le_of_ble_eq_true rfl) ⟨by decide, by decide⟩ (Nat.le_of_ble_eq_true rfl) (by decide) (c_nI1 hm ⟨by decide, by decide⟩ (by omega)) ?_
          refine e_iload_n dX10_move_5 rfl ?_
          refine e_bipush dX10_move_6 (by decide) ?_
          refine e_cS (as := [_, _]) dX10_move_8 k_X10_needIndex l_X10_99 s_X10_needIndex rfl rfl rfl rfl (Nat.le_of_ble_eq_true rfl) ⟨by decide, by decide⟩ (Nat.le_of_ble_eq_true rfl) (by decide) (c_nI1 hf ⟨by decide, by decide⟩ (by omega)) ?_
          refine e_iload_n dX10_move_11 rfl ?_
          refine e_iconst dX10_move_12 ?_
          refine e_cS (as := [_, _]) dX10_move_13 k_X10_needIndex l_X10_99 s_X10_needIndex rfl rfl rfl rfl (Nat.le_of_ble_eq_true rfl) ⟨by decide, by decide⟩ (Nat.le_of_ble_eq_true rfl) (by decide) (c_nI1 hd ⟨by decide, by decide⟩ (by omega)) ?_
          refine e_aload_n dX10_move_16 rfl ?_
          refine c_getR (kt := (36, 3, 102)) (by decide) (Or.inl (by decide)) dX10_move_17 f_X10_15 hT rfl (Nat.succ_ne_zero _) (fun q_17 h_17 => ?_)
          refine e_iload_n dX10_move_20 rfl ?_
          refine c_aald (ci := 6) (kt := (7, 0, (110 + m))) (by decide) (Or.inl (by decide)) dX10_move_21 h_17 (by decide) (by omega) (by omega) (kl_m ⟨by omega, by omega⟩) (Nat.succ_ne_zero _) (fun q_21 h_21 => ?_)
          refine c_getR (kt := (31, 16, (140 + m))) (by omega) (Or.inl (by omega)) dX10_move_22 f_X10_105 h_21 (kl_c ⟨by omega, by omega⟩) (Nat.succ_ne_zero _) (fun q_22 h_22 => ?_)
          refine e_iload_n dX10_move_25 rfl ?_
          refine c_aald (ci := 1) (kt := (2, 0, (200 + (16 * m + f)))) (by omega) (Or.inl (by omega)) dX10_move_26 h_22 (by decide) (by omega) (by omega) (kl_p ⟨by omega, by omega⟩ ⟨by omega, by omega⟩) (Nat.succ_ne_zero _) (fun q_26 h_26 => ?_)
          refine e_astore (ls2 := [_, _, _, _, _, _]) dX10_move_27 (Nat.le_of_ble_eq_true rfl) rfl ?_
          refine e_aload dX10_move_29 rfl ?_
          refine c_getI (by omega) dX10_move_31 f_X10_109 (Or.inl rfl) h_26 ?_
          rw [rp_0 hR (p := (16 * m + f)) ⟨by omega, by omega⟩]
          have g_31 : 0 ≤ M 2 (16 * m + f) ∧ M 2 (16 * m + f) ≤ 2 := hW 2 (16 * m + f)
          refine e_iconst dX10_move_34 ?_
          refine e_icmp_eq (tgt := 48) dX10_move_35 (by decide) ⟨by omega, by omega⟩ ⟨by omega, by omega⟩ (fun c_35 => ?_) (fun c_35 => ?_)
          · refine e_aload dX10_move_48 rfl ?_
            refine c_getI (by omega) dX10_move_50 f_X10_114 (Or.inl rfl) h_26 ?_
            rw [rp_1 hR (p := (16 * m + f)) ⟨by omega, by omega⟩]
            have g_50 := cfo_rg hW (16 * m + f)
            refine e_istore (ls2 := [_, _, _, _, _, _]) dX10_move_53 (Nat.le_of_ble_eq_true rfl) rfl ?_
            refine e_aload dX10_move_55 rfl ?_
            refine e_iload_n dX10_move_57 rfl ?_
            refine c_putI (by omega) dX10_move_58 f_X10_114 rfl h_26 (by omega) ⟨by omega, by omega⟩ ?_
            have hp9 : 0 ≤ (16 * m + f) ∧ (16 * m + f) < 48 := by omega
            have g9 := hI.2.1 (16 * m + f) hp9.1 hp9.2
            have gP := rc_P hR (16 * m + f) hp9.1 hp9.2
            have fM : ∀ t j : Int, ¬ ((2 ≤ t ∧ t ≤ 7) ∧ j = (16 * m + f) ∨ t = 50 ∧ j = 41 ∨ t = 40 ∨ t = 42) → (q_us (thr M 0) 4 (16 * m + f) d) t j = M t j := fun t j x => by simp only [q_us_ap]; rw [if_neg (by omega), if_neg (by omega)]
            have hI2 : MI (q_us (thr M 0) 4 (16 * m + f) d) := mi_copy hI hp9 fM g9.1 g9.2.1 g9.2.2.1 g9.2.2.2.1
            have hW2 : WR (q_us (thr M 0) 4 (16 * m + f) d) := WR.up (hW.thr ⟨by decide, by decide⟩) ⟨(show (0 : Int) ≤ d by omega), (show d ≤ (3 : Int) by omega)⟩
            have ecf : cfo M (16 * m + f) = M 4 (16 * m + f) := by unfold cfo; rw [if_neg (by omega)]
            have cz : ∀ j, j ≠ 1 → q_us C (200 + (16 * m + f)) 1 d (200 + (16 * m + f)) j = C (200 + (16 * m + f)) j := fun j h => if_neg (fun y => h y.2)
            have hR2 : RC (q_us (thr M 0) 4 (16 * m + f) d) (q_us C (200 + (16 * m + f)) 1 d) := by
              refine rc_copy hR (rs_16 hW).1 hp9 fM (fun t j x => if_neg (fun y => x y.1)) ?_ ?_ ?_ ?_ ?_ ?_
              · rw [cz _ (by decide)]; exact gP.1
              · have e2 : (q_us (thr M 0) 4 (16 * m + f) d) 2 (16 * m + f) = M 2 (16 * m + f) := rfl
                have e4 : (q_us (thr M 0) 4 (16 * m + f) d) 4 (16 * m + f) = d := by simp only [q_us_ap, and_self, if_true]
                unfold cfo; rw [e2, e4, if_neg (by omega)]; simp only [q_us_ap, and_self, if_true]
              · rw [cz _ (by decide)]; exact gP.2.2.1
              · rw [cz _ (by decide)]; exact gP.2.2.2.1
              · rw [cz _ (by decide)]; exact gP.2.2.2.2.1
              · rw [cz _ (by decide)]; exact gP.2.2.2.2.2
            refine e_aload_n dX10_move_61 rfl ?_
            refine e_iload_n dX10_move_62 rfl ?_
            refine e_iload_n dX10_move_63 rfl ?_
            refine e_cV (as := [_, _]) (ci := 10) dX10_move_64 k_X10_sendEvent l_X10_121 i_X10_sendEvent v_X10_sendEvent hT rfl (by decide) ⟨_, _, rfl⟩ rfl rfl rfl rfl (Nat.le_of_ble_eq_true rfl) ⟨by decide, by decide⟩ (Nat.le_of_ble_eq_true rfl) (by decide) (c_10_sendEvent hT hR2 hI2 hW2 ⟨by omega, by omega⟩ ⟨by omega, by omega⟩ hev) ?_
            refine e_iload dX10_move_67 rfl ?_
            exact e_iret dX10_move_69 (Or.inl rfl) (pbm0 (X := editsF (q_us (thr M 0) 4 (16 * m + f) d) (16 * m + f)) (by unfold moveF; rw [if_neg (fun g => g (show inMF m f ∧ 0 ≤ d ∧ d ≤ 3 from ⟨⟨⟨by omega, by omega⟩, by omega, by omega⟩, by omega, by omega⟩)), if_neg (fun g => g e3), ecf]) (by rw [editsF_s (by decide) (by decide)]; exact hB) (by rw [editsF_s (by decide) (by decide)]; rfl) (rc_edits hR2 hW2 hI2 ⟨by omega, by omega⟩ ⟨by omega, by omega⟩))
          · exfalso; omega
        · refine e_iload_n dX10_move_0 rfl ?_
          refine e_iconst dX10_move_1 ?_
          refine e_cS (as := [_, _]) dX10_move_2 k_X10_needIndex l_X10_99 s_X10_needIndex rfl rfl rfl rfl (Nat.le_of_ble_eq_true rfl) ⟨by decide, by decide⟩ (Nat.le_of_ble_eq_true rfl) (by decide) (c_nI1 hm ⟨by decide, by decide⟩ (by omega)) ?_
          refine e_iload_n dX10_move_5 rfl ?_
          refine e_bipush dX10_move_6 (by decide) ?_
          refine e_cS (as := [_, _]) dX10_move_8 k_X10_needIndex l_X10_99 s_X10_needIndex rfl rfl rfl rfl (Nat.le_of_ble_eq_true rfl) ⟨by decide, by decide⟩ (Nat.le_of_ble_eq_true rfl) (by decide) (c_nI1 hf ⟨by decide, by decide⟩ (by omega)) ?_
          refine e_iload_n dX10_move_11 rfl ?_
          refine e_iconst dX10_move_12 ?_
          refine e_cS (as := [_, _]) dX10_move_13 k_X10_needIndex l_X10_99 s_X10_needIndex rfl rfl rfl rfl (Nat.le_of_ble_eq_true rfl) ⟨by decide, by decide⟩ (Nat.le_of_ble_eq_true rfl) (by decide) (c_nI1 hd ⟨by decide, by decide⟩ (by omega)) ?_
          refine e_aload_n dX10_move_16 rfl ?_
          refine c_getR (kt := (36, 3, 102)) (by decide) (Or.inl (by decide)) dX10_move_17 f_X10_15 hT rfl (Nat.succ_ne_zero _) (fun q_17 h_17 => ?_)
          refine e_iload_n dX10_move_20 rfl ?_
          refine c_aald (ci := 6) (kt := (7, 0, (110 + m))) (by decide) (Or.inl (by decide)) dX10_move_21 h_17 (by decide) (by omega) (by omega) (kl_m ⟨by omega, by omega⟩) (Nat.succ_ne_zero _) (fun q_21 h_21 => ?_)
          refine c_getR (kt := (31, 16, (140 + m))) (by omega) (Or.inl (by omega)) dX10_move_22 f_X10_105 h_21 (kl_c ⟨by omega, by omega⟩) (Nat.succ_ne_zero _) (fun q_22 h_22 => ?_)
          refine e_iload_n dX10_move_25 rfl ?_
          refine c_aald (ci := 1) (kt := (2, 0, (200 + (16 * m + f)))) (by omega) (Or.inl (by omega)) dX10_move_26 h_22 (by decide) (by omega) (by omega) (kl_p ⟨by omega, by omega⟩ ⟨by omega, by omega⟩) (Nat.succ_ne_zero _) (fun q_26 h_26 => ?_)
          refine e_astore (ls2 := [_, _, _, _, _, _]) dX10_move_27 (Nat.le_of_ble_eq_true rfl) rfl ?_
          refine e_aload dX10_move_29 rfl ?_
          refine c_getI (by omega) dX10_move_31 f_X10_109 (Or.inl rfl) h_26 ?_
          rw [rp_0 hR (p := (16 * m + f)) ⟨by omega, by omega⟩]
          have g_31 : 0 ≤ M 2 (16 * m + f) ∧ M 2 (16 * m + f) ≤ 2 := hW 2 (16 * m + f)
          refine e_iconst dX10_move_34 ?_
          refine e_icmp_eq (tgt := 48) dX10_move_35 (by decide) ⟨by omega, by omega⟩ ⟨by omega, by omega⟩ (fun c_35 => ?_) (fun c_35 => ?_)
          · exfalso; omega
          · exact e_thrS dX10_move_38 dX10_move_41 dX10_move_42 dX10_move_44 dX10_move_47 x_sta y_notc rfl (Nat.le_of_ble_eq_true rfl) ⟨by decide, by decide⟩ hc hs (pbq2 hB hR (by unfold moveF; rw [if_neg (fun g => g (show inMF m f ∧ 0 ≤ d ∧ d ≤ 3 from ⟨⟨⟨by omega, by omega⟩, by omega, by omega⟩, by omega, by omega⟩)), if_pos e3]))
      · refine e_iload_n dX10_move_0 rfl ?_
        refine e_iconst dX10_move_1 ?_
        refine e_cS (as := [_, _]) dX10_move_2 k_X10_needIndex l_X10_99 s_X10_needIndex rfl rfl rfl rfl (Nat.le_of_ble_eq_true rfl) ⟨by decide, by decide⟩ (Nat.le_of_ble_eq_true rfl) (by decide) (c_nI1 hm ⟨by decide, by decide⟩ (by omega)) ?_
        refine e_iload_n dX10_move_5 rfl ?_
        refine e_bipush dX10_move_6 (by decide) ?_
        refine e_cS (as := [_, _]) dX10_move_8 k_X10_needIndex l_X10_99 s_X10_needIndex rfl rfl rfl rfl (Nat.le_of_ble_eq_true rfl) ⟨by decide, by decide⟩ (Nat.le_of_ble_eq_true rfl) (by decide) (c_nI1 hf ⟨by decide, by decide⟩ (by omega)) ?_
        refine e_iload_n dX10_move_11 rfl ?_
        refine e_iconst dX10_move_12 ?_
        exact e_cST (as := [_, _]) dX10_move_13 k_X10_needIndex l_X10_99 s_X10_needIndex rfl rfl rfl rfl (Nat.le_of_ble_eq_true rfl) ⟨by decide, by decide⟩ (Nat.le_of_ble_eq_true rfl) (by decide) (c_nI0 hd ⟨by decide, by decide⟩ hc hs (by omega)) (pbq1 hB hR (by unfold moveF; rw [if_pos (show ¬ (inMF m f ∧ 0 ≤ d ∧ d ≤ 3) from fun h => by have h1 := h.1.1; have h2 := h.1.2; have h3 := h.2; omega)]))
    · refine e_iload_n dX10_move_0 rfl ?_
      refine e_iconst dX10_move_1 ?_
      refine e_cS (as := [_, _]) dX10_move_2 k_X10_needIndex l_X10_99 s_X10_needIndex rfl rfl rfl rfl (Nat.le_of_ble_eq_true rfl) ⟨by decide, by decide⟩ (Nat.le_of_ble_eq_true rfl) (by decide) (c_nI1 hm ⟨by decide, by decide⟩ (by omega)) ?_
      refine e_iload_n dX10_move_5 rfl ?_
      refine e_bipush dX10_move_6 (by decide) ?_
      exact e_cST (as := [_, _]) dX10_move_8 k_X10_needIndex l_X10_99 s_X10_needIndex rfl rfl rfl rfl (Nat.le_of_ble_eq_true rfl) ⟨by decide, by decide⟩ (Nat.le_of_ble_eq_true rfl) (by decide) (c_nI0 hf ⟨by decide, by decide⟩ hc hs (by omega)) (pbq1 hB hR (by unfold moveF; rw [if_pos (show ¬ (inMF m f ∧ 0 ≤ d ∧ d ≤ 3) from fun h => by have h1 := h.1.1; have h2 := h.1.2; have h3 := h.2; omega)]))
  · refine e_iload_n dX10_move_0 rfl ?_
    refine e_iconst dX10_move_1 ?_
    exact e_cST (as := [_, _]) dX10_move_2 k_X10_needIndex l_X10_99 s_X10_needIndex rfl rfl rfl rfl (Nat.le_of_ble_eq_true rfl) ⟨by decide, by decide⟩ (Nat.le_of_ble_eq_true rfl) (by decide) (c_nI0 hm ⟨by decide, by decide⟩ hc hs (by omega)) (pbq1 hB hR (by unfold moveF; rw [if_pos (show ¬ (inMF m f ∧ 0 ≤ d ∧ d ≤ 3) from fun h => by have h1 := h.1.1; have h2 := h.1.2; have h3 := h.2; omega)]))
set_option maxRecDepth 20000 in
set_option maxHeartbeats 4000000 in
theorem c_10_erase {K : q_K} {B M C : q_S} {a : Nat} (hT : K a = (11, 0, 100)) (hR : RC M C) (hI : MI M) (hW : WR M) (hB : q_tb K (M 50 16)) {c s : Nat} (hc : 1 ≤ c) (hs : 6 ≤ s) {m f : Int} (hm : q_iI m) (hf : q_iI f) (hev : M 50 13 < 512) : q_E mX10_erase 0 [some (q_R a), some (q_I m), some (q_I f), none, none] [] K B C c s (PB (eraseF M m f) "java/lang/IndexOutOfBoundsException" "java/lang/IllegalStateException" "" K B) := by
  have hm1 := hm.1
  have hm2 := hm.2
  have hf1 := hf.1
  have hf2 := hf.2
  by_cases e0 : 0 ≤ m ∧ m < 3
  · by_cases e1 : 0 ≤ f ∧ f < 16
    · by_cases e2 : ¬ M 2 (16 * m + f) = 0
      · refine e_iload_n dX10_erase_0 rfl ?_
        refine e_iconst dX10_erase_1 ?_
        refine e_cS (as := [_, _]) dX10_erase_2 k_X10_needIndex l_X10_99 s_X10_needIndex rfl rfl rfl rfl (Nat.le_of_ble_eq_true rfl) ⟨by decide, by decide⟩ (Nat.le_of_ble_eq_true rfl) (by decide) (c_nI1 hm ⟨by decide, by decide⟩ (by omega)) ?_
        refine e_iload_n dX10_erase_5 rfl ?_
        refine e_bipush dX10_erase_6 (by decide) ?_
        refine e_cS (as := [_, _]) dX10_erase_8 k_X10_needIndex l_X10_99 s_X10_needIndex rfl rfl rfl rfl (Nat.le_of_ble_eq_true rfl) ⟨by decide, by decide⟩ (Nat.le_of_ble_eq_true rfl) (by decide) (c_nI1 hf ⟨by decide, by decide⟩ (by omega)) ?_
        refine e_aload_n dX10_erase_11 rfl ?_
        refine c_getR (kt := (36, 3, 102)) (by decide) (Or.inl (by decide)) dX10_erase_12 f_X10_15 hT rfl (Nat.succ_ne_zero _) (fun q_12 h_12 => ?_)
        refine e_iload_n dX10_erase_15 rfl ?_
        refine c_aald (ci := 6) (kt := (7, 0, (110 + m))) (by decide) (Or.inl (by decide)) dX10_erase_16 h_12 (by decide) (by omega) (by omega) (kl_m ⟨by omega, by omega⟩) (Nat.succ_ne_zero _) (fun q_16 h_16 => ?_)
        refine c_getR (kt := (31, 16, (140 + m))) (by omega) (Or.inl (by omega)) dX10_erase_17 f_X10_105 h_16 (kl_c ⟨by omega, by omega⟩) (Nat.succ_ne_zero _) (fun q_17 h_17 => ?_)
        refine e_iload_n dX10_erase_20 rfl ?_
        refine c_aald (ci := 1) (kt := (2, 0, (200 + (16 * m + f)))) (by omega) (Or.inl (by omega)) dX10_erase_21 h_17 (by decide) (by omega) (by omega) (kl_p ⟨by omega, by omega⟩ ⟨by omega, by omega⟩) (Nat.succ_ne_zero _) (fun q_21 h_21 => ?_)
        refine e_astore_n (ls2 := [_, _, _, _, _]) dX10_erase_22 (Nat.le_of_ble_eq_true rfl) rfl ?_
        refine e_aload_n dX10_erase_23 rfl ?_
        refine c_getI (by omega) dX10_erase_24 f_X10_109 (Or.inl rfl) h_21 ?_
        rw [rp_0 hR (p := (16 * m + f)) ⟨by omega, by omega⟩]
        have g_24 : 0 ≤ M 2 (16 * m + f) ∧ M 2 (16 * m + f) ≤ 2 := hW 2 (16 * m + f)
        refine e_istore (ls2 := [_, _, _, _, _]) dX10_erase_27 (Nat.le_of_ble_eq_true rfl) rfl ?_
        refine e_iload dX10_erase_29 rfl ?_
        refine e_if_ne (tgt := 44) dX10_erase_31 (by decide) ⟨by omega, by omega⟩ (fun c_31 => ?_) (fun c_31 => ?_)
        · refine e_aload_n dX10_erase_44 rfl ?_
          refine e_cV (as := []) (ci := 1) dX10_erase_45 k_X1_clear l_X10_128 i_X1_clear v_X1_clear h_21 rfl (by decide) ⟨_, _, rfl⟩ rfl rfl rfl rfl (Nat.le_of_ble_eq_true rfl) ⟨by decide, by decide⟩ (Nat.le_of_ble_eq_true rfl) (by decide) (c_1_clear h_21 ⟨by omega, by omega⟩) ?_
          have hp9 : 0 ≤ (16 * m + f) ∧ (16 * m + f) < 48 := by omega
          have hI2 : MI (leavesF (thr M 0) (16 * m + f)) := mi_leaves (mi_thr hI 0) hp9
          have hW2 : WR (leavesF (thr M 0) (16 * m + f)) := WR.leaves (hW.thr ⟨by decide, by decide⟩) _
          have hR2 : RC (leavesF (thr M 0) (16 * m + f)) (puC C (16 * m + f) 0 (-1) 0) := rc_leaves (rc_thr hR 0) (rs_16 hW).1 hp9
          refine e_aload_n dX10_erase_48 rfl ?_
          refine e_iload_n dX10_erase_49 rfl ?_
          refine e_iload_n dX10_erase_50 rfl ?_
          refine e_cV (as := [_, _]) (ci := 10) dX10_erase_51 k_X10_sendEvent l_X10_121 i_X10_sendEvent v_X10_sendEvent hT rfl (by decide) ⟨_, _, rfl⟩ rfl rfl rfl rfl (Nat.le_of_ble_eq_true rfl) ⟨by decide, by decide⟩ (Nat.le_of_ble_eq_true rfl) (by decide) (c_10_sendEvent hT hR2 hI2 hW2 ⟨by omega, by omega⟩ ⟨by omega, by omega⟩ hev) ?_
          refine e_iload dX10_erase_54 rfl ?_
          exact e_iret dX10_erase_56 (Or.inl rfl) (pbm0 (X := editsF (leavesF (thr M 0) (16 * m + f)) (16 * m + f)) (by unfold eraseF; rw [if_neg (fun g => g (show inMF m f from ⟨⟨by omega, by omega⟩, by omega, by omega⟩)), if_neg (by omega)]) (by rw [editsF_s (by decide) (by decide)]; exact hB) (by rw [editsF_s (by decide) (by decide)]; rfl) (rc_edits hR2 hW2 hI2 ⟨by omega, by omega⟩ ⟨by omega, by omega⟩))
        · exfalso; omega
      · refine e_iload_n dX10_erase_0 rfl ?_
        refine e_iconst dX10_erase_1 ?_
        refine e_cS (as := [_, _]) dX10_erase_2 k_X10_needIndex l_X10_99 s_X10_needIndex rfl rfl rfl rfl (Nat.le_of_ble_eq_true rfl) ⟨by decide, by decide⟩ (Nat.le_of_ble_eq_true rfl) (by decide) (c_nI1 hm ⟨by decide, by decide⟩ (by omega)) ?_
        refine e_iload_n dX10_erase_5 rfl ?_
        refine e_bipush dX10_erase_6 (by decide) ?_
        refine e_cS (as := [_, _]) dX10_erase_8 k_X10_needIndex l_X10_99 s_X10_needIndex rfl rfl rfl rfl (Nat.le_of_ble_eq_true rfl) ⟨by decide, by decide⟩ (Nat.le_of_ble_eq_true rfl) (by decide) (c_nI1 hf ⟨by decide, by decide⟩ (by omega)) ?_
        refine e_aload_n dX10_erase_11 rfl ?_
        refine c_getR (kt := (36, 3, 102)) (by decide) (Or.inl (by decide)) dX10_erase_12 f_X10_15 hT rfl (Nat.succ_ne_zero _) (fun q_12 h_12 => ?_)
        refine e_iload_n dX10_erase_15 rfl ?_
        refine c_aald (ci := 6) (kt := (7, 0, (110 + m))) (by decide) (Or.inl (by decide)) dX10_erase_16 h_12 (by decide) (by omega) (by omega) (kl_m ⟨by omega, by omega⟩) (Nat.succ_ne_zero _) (fun q_16 h_16 => ?_)
        refine c_getR (kt := (31, 16, (140 + m))) (by omega) (Or.inl (by omega)) dX10_erase_17 f_X10_105 h_16 (kl_c ⟨by omega, by omega⟩) (Nat.succ_ne_zero _) (fun q_17 h_17 => ?_)
        refine e_iload_n dX10_erase_20 rfl ?_
        refine c_aald (ci := 1) (kt := (2, 0, (200 + (16 * m + f)))) (by omega) (Or.inl (by omega)) dX10_erase_21 h_17 (by decide) (by omega) (by omega) (kl_p ⟨by omega, by omega⟩ ⟨by omega, by omega⟩) (Nat.succ_ne_zero _) (fun q_21 h_21 => ?_)
        refine e_astore_n (ls2 := [_, _, _, _, _]) dX10_erase_22 (Nat.le_of_ble_eq_true rfl) rfl ?_
        refine e_aload_n dX10_erase_23 rfl ?_
        refine c_getI (by omega) dX10_erase_24 f_X10_109 (Or.inl rfl) h_21 ?_
        rw [rp_0 hR (p := (16 * m + f)) ⟨by omega, by omega⟩]
        have g_24 : 0 ≤ M 2 (16 * m + f) ∧ M 2 (16 * m + f) ≤ 2 := hW 2 (16 * m + f)
        refine e_istore (ls2 := [_, _, _, _, _]) dX10_erase_27 (Nat.le_of_ble_eq_true rfl) rfl ?_
        refine e_iload dX10_erase_29 rfl ?_
        refine e_if_ne (tgt := 44) dX10_erase_31 (by decide) ⟨by omega, by omega⟩ (fun c_31 => ?_) (fun c_31 => ?_)
        · exfalso; omega
        · exact e_thrS dX10_erase_34 dX10_erase_37 dX10_erase_38 dX10_erase_40 dX10_erase_43 x_sta y_nott rfl (Nat.le_of_ble_eq_true rfl) ⟨by decide, by decide⟩ hc hs (pbq2 hB hR (by unfold eraseF; rw [if_neg (fun g => g (show inMF m f from ⟨⟨by omega, by omega⟩, by omega, by omega⟩)), if_pos (by omega)]))
    · refine e_iload_n dX10_erase_0 rfl ?_
      refine e_iconst dX10_erase_1 ?_
      refine e_cS (as := [_, _]) dX10_erase_2 k_X10_needIndex l_X10_99 s_X10_needIndex rfl rfl rfl rfl (Nat.le_of_ble_eq_true rfl) ⟨by decide, by decide⟩ (Nat.le_of_ble_eq_true rfl) (by decide) (c_nI1 hm ⟨by decide, by decide⟩ (by omega)) ?_
      refine e_iload_n dX10_erase_5 rfl ?_
      refine e_bipush dX10_erase_6 (by decide) ?_
      exact e_cST (as := [_, _]) dX10_erase_8 k_X10_needIndex l_X10_99 s_X10_needIndex rfl rfl rfl rfl (Nat.le_of_ble_eq_true rfl) ⟨by decide, by decide⟩ (Nat.le_of_ble_eq_true rfl) (by decide) (c_nI0 hf ⟨by decide, by decide⟩ hc hs (by omega)) (pbq1 hB hR (by unfold eraseF; rw [if_pos (show ¬ inMF m f from fun h => by have h1 := h.1; have h2 := h.2; omega)]))
  · refine e_iload_n dX10_erase_0 rfl ?_
    refine e_iconst dX10_erase_1 ?_
    exact e_cST (as := [_, _]) dX10_erase_2 k_X10_needIndex l_X10_99 s_X10_needIndex rfl rfl rfl rfl (Nat.le_of_ble_eq_true rfl) ⟨by decide, by decide⟩ (Nat.le_of_ble_eq_true rfl) (by decide) (c_nI0 hm ⟨by decide, by decide⟩ hc hs (by omega)) (pbq1 hB hR (by unfold eraseF; rw [if_pos (show ¬ inMF m f from fun h => by have h1 := h.1; have h2 := h.2; omega)]))
theorem sc_inc (M : q_S) (m : Int) (hm : 0 ≤ m) (hW : WR M) (h10 : M 50 10 ≤ 900000) : ∀ k : Nat, k ≤ 16 → (scF M m k).1 = ntF (scF M m k).2 m 16 - ntF M m 16 ∧ WR (scF M m k).2 ∧ (scF M m k).2 50 10 ≤ M 50 10 + k := by
  intro k
  induction k with
  | zero => intro _; exact ⟨by show (0 : Int) = _ - _; simp only [scF]; omega, hW, by show M 50 10 ≤ M 50 10 + ((0 : Nat) : Int); omega⟩
  | succ k ih =>
    intro hk
    have i := ih (by omega)
    simp only [scF]
    split
    next h =>
      have e : notesF (scF M m k).2 (16 * m + k) = q_us (q_us (scF M m k).2 50 10 ((scF M m k).2 50 10 + 1)) 8 (16 * m + k) ((scF M m k).2 50 10 + 1) := by unfold notesF; rw [if_pos h.2]
      have g10 := rs_10 i.2.1
      refine ⟨?_, i.2.1.notes (by omega), ?_⟩
      · show (scF M m k).1 + 1 = ntF (notesF (scF M m k).2 (16 * m + k)) m 16 - ntF M m 16
        rw [e, ntF_up (by show ¬ 0 < (scF M m k).2 8 (16 * m + k); omega) (by omega), if_pos ⟨by omega, by show 16 * m + (k : Int) < 16 * m + ((16 : Nat) : Int); omega⟩, ntF_congr (A := q_us (scF M m k).2 50 10 ((scF M m k).2 50 10 + 1)) (B := (scF M m k).2) (fun _ => rfl), i.1]; omega
      · have := notesF_10 (scF M m k).2 (16 * m + k)
        show notesF (scF M m k).2 (16 * m + k) 50 10 ≤ _
        omega
    next h => exact ⟨i.1, i.2.1, by omega⟩
theorem scF_o {M : q_S} {m t j : Int} (h : t ≠ 8) (h2 : ¬ (t = 50 ∧ j = 10)) : ∀ k, (scF M m k).2 t j = M t j := by
  intro k
  induction k with
  | zero => rfl
  | succ k ih =>
    simp only [scF]; split
    · show notesF _ _ t j = _
      rw [notesF_x _ _ _ _ h h2]; exact ih
    · exact ih
theorem sc_step (M : q_S) (m : Int) (k : Nat) : (scF M m (k + 1)).2 = if isOtherP (scF M m k).2 (16 * m + k) then notesF (scF M m k).2 (16 * m + k) else (scF M m k).2 := by
  simp only [scF]
  by_cases e : isOtherP (scF M m k).2 (16 * m + k)
  · rw [if_pos e]
    by_cases e2 : (scF M m k).2 8 (16 * m + k) = 0
    · rw [if_pos ⟨e, e2⟩]
    · rw [if_neg (fun g => e2 g.2)]; unfold notesF; rw [if_neg e2]
  · rw [if_neg e, if_neg (fun g => e g.1)]
set_option maxRecDepth 20000 in
set_option maxHeartbeats 4000000 in
theorem c_10_scan_l {K : q_K} {B M0 : q_S} {a : Nat} (hT : K a = (11, 0, 100)) {x : Nat} {m : Int} (hx : K x = (7, 0, 110 + m)) (hm : 0 ≤ m ∧ m ≤ 2) (hW0 : WR M0) (h10 : M0 50 10 ≤ 890000) (hB : q_tb K (M0 50 16)) {b : Int} (hb : b = ntF M0 m 16) {c s : Nat} : ∀ (r k : Nat) (i : Int) (M C : q_S), k + r = 16 → i = k → M = (scF (thr M0 0) m k).2 → RC M C → MI M → q_E mX10_scan 20 [some (q_R a), some (q_I m), some (q_R x), some (q_I b), some (q_I i)] [] K B C c s (PB (scanF M0 m) "java/lang/IndexOutOfBoundsException" "" "" K B) := by
  have nt0 := ntF_rg M0 m 16
  intro r
  induction r with
  | zero =>
    intro k i M C h1 h2 h3 hR hI
    have inc := sc_inc (thr M0 0) m hm.1 (hW0.thr ⟨by decide, by decide⟩) (by show M0 50 10 ≤ _; omega) k (by omega)
    have hW : WR M := by rw [h3]; exact inc.2.1
    have hnm := ntF_rg M m 16
    have e16 : k = 16 := by omega
    have ent : ntF (thr M0 0) m 16 = ntF M0 m 16 := ntF_congr (fun _ => rfl) m 16
    have e41 : M 50 41 = 0 := by rw [h3, scF_o (by decide) (by decide)]; rfl
    have em16 : M 50 16 = M0 50 16 := by rw [h3, scF_o (by decide) (by decide)]; rfl
    subst e16
    rw [← h3, ent] at inc
    refine e_iload dX10_scan_20 rfl ?_
    refine e_bipush dX10_scan_22 (by decide) ?_
    refine e_icmp_ge (tgt := 53) dX10_scan_24 (by decide) ⟨by omega, by omega⟩ ⟨by omega, by omega⟩ (fun c_24 => ?_) (fun c_24 => ?_)
    · refine e_aload_n dX10_scan_53 rfl ?_
      refine c_getI (by omega) dX10_scan_54 f_X10_138 (Or.inl rfl) hx ?_
      rw [rm_2 hR (m := m) ⟨by omega, by omega⟩]
      have g_54 := ntF_rg M m 16
      refine e_iload_n dX10_scan_57 rfl ?_
      refine e_isub dX10_scan_58 ?_
      exact e_iret dX10_scan_59 (Or.inl rfl) (pbm0 (X := M) (by unfold scanF; rw [if_neg (fun g => g hm)]; exact Prod.ext (by rw [inc.1, hb]) h3.symm) (by rw [em16]; exact hB) e41 hR)
    · exfalso; omega
  | succ r ih =>
    intro k i M C h1 h2 h3 hR hI
    have inc := sc_inc (thr M0 0) m hm.1 (hW0.thr ⟨by decide, by decide⟩) (by show M0 50 10 ≤ _; omega) k (by omega)
    have hW : WR M := by rw [h3]; exact inc.2.1
    have st := sc_step (thr M0 0) m k
    rw [← h3, ← h2] at st
    refine e_iload dX10_scan_20 rfl ?_
    refine e_bipush dX10_scan_22 (by decide) ?_
    refine e_icmp_ge (tgt := 53) dX10_scan_24 (by decide) ⟨by omega, by omega⟩ ⟨by omega, by omega⟩ (fun c_24 => ?_) (fun c_24 => ?_)
    · exfalso; omega
    · refine e_aload_n dX10_scan_27 rfl ?_
      refine e_aload_n dX10_scan_28 rfl ?_
      refine c_getR (kt := (31, 16, (140 + m))) (by omega) (Or.inl (by omega)) dX10_scan_29 f_X10_105 hx (kl_c ⟨by omega, by omega⟩) (Nat.succ_ne_zero _) (fun q_29 h_29 => ?_)
      refine e_iload dX10_scan_32 rfl ?_
      refine c_aald (ci := 1) (kt := (2, 0, (200 + (16 * m + i)))) (by omega) (Or.inl (by omega)) dX10_scan_34 h_29 (by decide) (by omega) (by omega) (kl_p ⟨by omega, by omega⟩ ⟨by omega, by omega⟩) (Nat.succ_ne_zero _) (fun q_34 h_34 => ?_)
      refine e_cV (as := [_]) (ci := 10) dX10_scan_35 k_X10_isEdited l_X10_141 i_X10_isEdited v_X10_isEdited hT rfl (by decide) ⟨_, _, rfl⟩ rfl rfl rfl rfl (Nat.le_of_ble_eq_true rfl) ⟨by decide, by decide⟩ (Nat.le_of_ble_eq_true rfl) (by decide) (c_10_isEdited hT h_34 ⟨by omega, by omega⟩ hR hI hW) ?_
      refine e_if_eq (tgt := 47) dX10_scan_38 (by decide) bi_iI (fun c_38 => ?_) (fun c_38 => ?_)
      · simp only [bi_z, Classical.not_not] at c_38
        refine e_iinc (ls2 := [_, _, _, _, _]) dX10_scan_47 rfl (Nat.le_of_ble_eq_true rfl) rfl ?_
        refine e_goto (tgt := 20) dX10_scan_50 (by decide) ?_
        first | exact ih (k + 1) _ _ _ (by omega) (by omega) (by rw [st, if_pos c_38]) (rc_note hR hW hI hm ⟨by omega, by omega⟩) (mi_note hI _) | exact ih (k + 1) _ _ _ (by omega) (by omega) (by rw [st, if_neg (fun g => g c_38)]) hR hI | exact ih (k + 1) _ _ _ (by omega) (by omega) (by rw [st, if_neg c_38]) hR hI
      · simp only [bi_z, Classical.not_not] at c_38
        refine e_aload_n dX10_scan_41 rfl ?_
        refine e_iload dX10_scan_42 rfl ?_
        refine e_cV (as := [_]) (ci := 6) dX10_scan_44 k_X6_note l_X10_145 i_X6_note v_X6_note hx rfl (by decide) ⟨_, _, rfl⟩ rfl rfl rfl rfl (Nat.le_of_ble_eq_true rfl) ⟨by decide, by decide⟩ (Nat.le_of_ble_eq_true rfl) (by decide) (c_6_note hx hm (rc_L hR) hW ⟨by omega, by omega⟩) ?_
        refine e_iinc (ls2 := [_, _, _, _, _]) dX10_scan_47 rfl (Nat.le_of_ble_eq_true rfl) rfl ?_
        refine e_goto (tgt := 20) dX10_scan_50 (by decide) ?_
        first | exact ih (k + 1) _ _ _ (by omega) (by omega) (by rw [st, if_pos c_38]) (rc_note hR hW hI hm ⟨by omega, by omega⟩) (mi_note hI _) | exact ih (k + 1) _ _ _ (by omega) (by omega) (by rw [st, if_neg (fun g => g c_38)]) hR hI | exact ih (k + 1) _ _ _ (by omega) (by omega) (by rw [st, if_neg c_38]) hR hI
set_option maxRecDepth 20000 in
set_option maxHeartbeats 4000000 in
theorem c_10_scan {K : q_K} {B M C : q_S} {a : Nat} (hT : K a = (11, 0, 100)) (hR : RC M C) (hI : MI M) (hW : WR M) (hB : q_tb K (M 50 16)) {c s : Nat} (hc : 1 ≤ c) (hs : 6 ≤ s) {m : Int} (hm : q_iI m) (h10 : M 50 10 ≤ 890000) : q_E mX10_scan 0 [some (q_R a), some (q_I m), none, none, none] [] K B C c s (PB (scanF M m) "java/lang/IndexOutOfBoundsException" "" "" K B) := by
  have hm1 := hm.1
  have hm2 := hm.2
  by_cases e0 : 0 ≤ m ∧ m < 3
  · refine e_iload_n dX10_scan_0 rfl ?_
    refine e_iconst dX10_scan_1 ?_
    refine e_cS (as := [_, _]) dX10_scan_2 k_X10_needIndex l_X10_99 s_X10_needIndex rfl rfl rfl rfl (Nat.le_of_ble_eq_true rfl) ⟨by decide, by decide⟩ (Nat.le_of_ble_eq_true rfl) (by decide) (c_nI1 hm ⟨by decide, by decide⟩ (by omega)) ?_
    refine e_aload_n dX10_scan_5 rfl ?_
    refine c_getR (kt := (36, 3, 102)) (by decide) (Or.inl (by decide)) dX10_scan_6 f_X10_15 hT rfl (Nat.succ_ne_zero _) (fun q_6 h_6 => ?_)
    refine e_iload_n dX10_scan_9 rfl ?_
    refine c_aald (ci := 6) (kt := (7, 0, (110 + m))) (by decide) (Or.inl (by decide)) dX10_scan_10 h_6 (by decide) (by omega) (by omega) (kl_m ⟨by omega, by omega⟩) (Nat.succ_ne_zero _) (fun q_10 h_10 => ?_)
    refine e_astore_n (ls2 := [_, _, _, _, _]) dX10_scan_11 (Nat.le_of_ble_eq_true rfl) rfl ?_
    refine e_aload_n dX10_scan_12 rfl ?_
    refine c_getI (by omega) dX10_scan_13 f_X10_138 (Or.inl rfl) h_10 ?_
    rw [rm_2 hR (m := m) ⟨by omega, by omega⟩]
    have g_13 := ntF_rg M m 16
    refine e_istore_n (ls2 := [_, _, _, _, _]) dX10_scan_16 (Nat.le_of_ble_eq_true rfl) rfl ?_
    refine e_iconst dX10_scan_17 ?_
    refine e_istore (ls2 := [_, _, _, _, _]) dX10_scan_18 (Nat.le_of_ble_eq_true rfl) rfl ?_
    exact c_10_scan_l hT h_10 ⟨by omega, by omega⟩ hW h10 hB rfl 16 0 0 (thr M 0) C (by omega) rfl rfl (rc_thr hR 0) (mi_thr hI 0)
  · refine e_iload_n dX10_scan_0 rfl ?_
    refine e_iconst dX10_scan_1 ?_
    exact e_cST (as := [_, _]) dX10_scan_2 k_X10_needIndex l_X10_99 s_X10_needIndex rfl rfl rfl rfl (Nat.le_of_ble_eq_true rfl) ⟨by decide, by decide⟩ (Nat.le_of_ble_eq_true rfl) (by decide) (c_nI0 hm ⟨by decide, by decide⟩ hc hs (by omega)) (pbq1 hB hR (by unfold scanF; rw [if_pos (by omega)]))
set_option maxRecDepth 20000 in
set_option maxHeartbeats 4000000 in
theorem c_10_pass_l {K : q_K} {B M C : q_S} {a : Nat} (hT : K a = (11, 0, 100)) (hR : RC M C) (hI : MI M) (hW : WR M) (hB : q_tb K (M 50 16)) {c s : Nat} (h10 : M 50 10 ≤ 900000) (hn6 : C 103 3 ≤ 512) {h T : Int} (hh : 1 ≤ h ∧ h ≤ 100) (hT2 : T = M 50 1 + h) (hT3 : T ≤ 2000) {z : Int} (hz : 0 ≤ z ∧ z ≤ C 103 3) (hlo : ∀ i : Int, 0 ≤ i → i < z → C 123 i ≤ T) (hhi : z = C 103 3 ∨ T < C 123 z) : ∀ (r k : Nat), k + r = z → q_E mX10_pass 54 [some (q_R a), some (q_I h), some (q_I z), some (q_I (k : Int))] [] K B (nsP M (q_us C 100 9 T) k).2 c s (PB (passF M h) "java/lang/IllegalArgumentException" "java/lang/IllegalStateException" "" K B) := by
  have h01 := rs_1 hW
  intro r
  induction r with
  | zero =>
    intro k h1
    have hE1 : RE M (q_us C 100 9 T) := RE_fr (rc_E hR) (fun _ => rfl) (fun _ => rfl) rfl rfl (fun _ => rfl) (fun _ => rfl) (fun _ => rfl)
    have hC1 : ∀ t j, ¬ (t = 100 ∧ j = 9) → q_us C 100 9 T t j = C t j := fun t j g => if_neg g
    have hL1 : RLn M (q_us C 100 9 T) := RL_fr (rc_L hR) (fun _ => rfl) (fun t a b => hC1 t 2 (by omega)) (fun t j a b => hC1 t j (by omega))
    have hev : evP (q_us C 100 9 T) := fun i a b => by have := re_rg hE1 hW (i := i) ⟨a, b⟩; exact ⟨this.1, this.2.1⟩
    obtain ⟨n1, n2, n3, n4, n5, n6⟩ := ns_ok hL1 hW (fun p a b => (hI.2.1 p a b).2.2.2.2) hev h10 k (by show (k : Int) ≤ C 103 3; omega) (by omega)
    have e9 : (nsP M (q_us C 100 9 T) k).2 100 9 = T := by rw [n6 100 9 (by decide) (by decide)]; exact if_pos ⟨rfl, rfl⟩
    have e3 : (nsP M (q_us C 100 9 T) k).2 103 3 = C 103 3 := n6 103 3 (by decide) (by decide)
    have hE2 : RE M (nsP M (q_us C 100 9 T) k).2 := RE_fr (rc_E hR) (fun _ => rfl) (fun _ => rfl) rfl e3 (fun j => by rw [n6 121 j (by omega) (by omega)]; rfl) (fun j => by rw [n6 122 j (by omega) (by omega)]; rfl) (fun j => by rw [n6 123 j (by omega) (by omega)]; rfl)
    have rp := rc_pass hR hW hI h10 hn6 (hh := h.toNat) (T := T) (by omega) (q := k) (by omega) (fun i a b => hlo i a (by omega)) (by rw [show (k : Int) = z by omega]; exact hhi) rfl
    refine e_iload_n dX10_pass_54 rfl ?_
    refine e_iload_n dX10_pass_55 rfl ?_
    refine e_icmp_ge (tgt := 91) dX10_pass_56 (by decide) ⟨by omega, by omega⟩ ⟨by omega, by omega⟩ (fun c_56 => ?_) (fun c_56 => ?_)
    · refine e_aload_n dX10_pass_91 rfl ?_
      refine c_getR (kt := (3, 0, 103)) (by decide) (Or.inl (by decide)) dX10_pass_92 f_X10_22 hT rfl (Nat.succ_ne_zero _) (fun q_92 h_92 => ?_)
      refine e_iload_n dX10_pass_95 rfl ?_
      refine e_cV (as := [_]) (ci := 2) dX10_pass_96 k_X2_dropFirst l_X10_284 i_X2_dropFirst v_X2_dropFirst h_92 rfl (by decide) ⟨_, _, rfl⟩ rfl rfl rfl rfl (Nat.le_of_ble_eq_true rfl) ⟨by decide, by decide⟩ (Nat.le_of_ble_eq_true rfl) (by decide) (c_2_dropFirst h_92 hE2 hW (by rw [e3]; exact hn6) (by rw [e3]; exact hz)) ?_
      rw [e3]
      refine e_aload_n dX10_pass_99 rfl ?_
      refine c_getI (by decide) dX10_pass_100 f_X10_58 (Or.inl rfl) hT ?_
      try simp only [q_us_ap, editsF_3, Int.reduceEq, Int.reduceNeg, false_and, and_false, and_self, if_true, if_false, true_and, and_true, ite_self]
      rw [show dfC (nsP M (q_us C 100 9 T) k).2 z (C 103 3) 100 9 = T from by unfold dfC; simp only [q_us_ap]; rw [if_neg (by decide), drC_ap, if_neg (by omega)]; exact e9]
      exact e_iret dX10_pass_103 (Or.inl rfl) (pbm0 (X := psF (thr M 0) h.toNat) (by unfold passF; rw [if_neg (by omega), if_neg (by omega), hT2]) (by rw [psF_o (by decide)]; exact hB) (by rw [psF_o (by decide)]; rfl) (by have r1 := rp.1; rw [show (k : Int) = z by omega] at r1; exact r1))
    · exfalso; omega
  | succ r ih =>
    intro k h1
    have hE1 : RE M (q_us C 100 9 T) := RE_fr (rc_E hR) (fun _ => rfl) (fun _ => rfl) rfl rfl (fun _ => rfl) (fun _ => rfl) (fun _ => rfl)
    have hC1 : ∀ t j, ¬ (t = 100 ∧ j = 9) → q_us C 100 9 T t j = C t j := fun t j g => if_neg g
    have hL1 : RLn M (q_us C 100 9 T) := RL_fr (rc_L hR) (fun _ => rfl) (fun t a b => hC1 t 2 (by omega)) (fun t j a b => hC1 t j (by omega))
    have hev : evP (q_us C 100 9 T) := fun i a b => by have := re_rg hE1 hW (i := i) ⟨a, b⟩; exact ⟨this.1, this.2.1⟩
    obtain ⟨n1, n2, n3, n4, n5, n6⟩ := ns_ok hL1 hW (fun p a b => (hI.2.1 p a b).2.2.2.2) hev h10 k (by show (k : Int) ≤ C 103 3; omega) (by omega)
    have e9 : (nsP M (q_us C 100 9 T) k).2 100 9 = T := by rw [n6 100 9 (by decide) (by decide)]; exact if_pos ⟨rfl, rfl⟩
    have e3 : (nsP M (q_us C 100 9 T) k).2 103 3 = C 103 3 := n6 103 3 (by decide) (by decide)
    have er := re_rg (rc_E hR) hW (i := (k : Int)) ⟨by omega, by omega⟩
    have v1 : (nsP M (q_us C 100 9 T) k).2 121 (k : Int) = C 121 (k : Int) := by rw [n6 121 _ (by omega) (by omega)]; rfl
    have v2 : (nsP M (q_us C 100 9 T) k).2 122 (k : Int) = C 122 (k : Int) := by rw [n6 122 _ (by omega) (by omega)]; rfl
    have ihx := ih (k + 1) (by omega)
    simp only [nsP] at ihx
    refine e_iload_n dX10_pass_54 rfl ?_
    refine e_iload_n dX10_pass_55 rfl ?_
    refine e_icmp_ge (tgt := 91) dX10_pass_56 (by decide) ⟨by omega, by omega⟩ ⟨by omega, by omega⟩ (fun c_56 => ?_) (fun c_56 => ?_)
    · exfalso; omega
    · refine e_aload_n dX10_pass_59 rfl ?_
      refine c_getR (kt := (36, 3, 102)) (by decide) (Or.inl (by decide)) dX10_pass_60 f_X10_15 hT rfl (Nat.succ_ne_zero _) (fun q_60 h_60 => ?_)
      refine e_aload_n dX10_pass_63 rfl ?_
      refine c_getR (kt := (3, 0, 103)) (by decide) (Or.inl (by decide)) dX10_pass_64 f_X10_22 hT rfl (Nat.succ_ne_zero _) (fun q_64 h_64 => ?_)
      refine c_getR (kt := (20, 512, 121)) (by decide) (Or.inl (by decide)) dX10_pass_67 f_X10_278 h_64 rfl (Nat.succ_ne_zero _) (fun q_67 h_67 => ?_)
      refine e_iload_n dX10_pass_70 rfl ?_
      refine c_iald (by decide) dX10_pass_71 h_67 (by omega) (by omega) ?_
      rw [v1]
      refine c_aald (ci := 6) (kt := (7, 0, (110 + (C 121 (k : Int))))) (by decide) (Or.inl (by decide)) dX10_pass_72 h_60 (by decide) (by omega) (by omega) (kl_m ⟨by omega, by omega⟩) (Nat.succ_ne_zero _) (fun q_72 h_72 => ?_)
      refine e_aload_n dX10_pass_73 rfl ?_
      refine c_getR (kt := (3, 0, 103)) (by decide) (Or.inl (by decide)) dX10_pass_74 f_X10_22 hT rfl (Nat.succ_ne_zero _) (fun q_74 h_74 => ?_)
      refine c_getR (kt := (20, 512, 122)) (by decide) (Or.inl (by decide)) dX10_pass_77 f_X10_281 h_74 rfl (Nat.succ_ne_zero _) (fun q_77 h_77 => ?_)
      refine e_iload_n dX10_pass_80 rfl ?_
      refine c_iald (by decide) dX10_pass_81 h_77 (by omega) (by omega) ?_
      rw [v2]
      refine e_cV (as := [_]) (ci := 6) dX10_pass_82 k_X6_note l_X10_145 i_X6_note v_X6_note h_72 rfl (by decide) ⟨_, _, rfl⟩ rfl rfl rfl rfl (Nat.le_of_ble_eq_true rfl) ⟨by decide, by decide⟩ (Nat.le_of_ble_eq_true rfl) (by decide) (c_6_note h_72 ⟨by omega, by omega⟩ n1 n2 ⟨by omega, by omega⟩) ?_
      refine e_iinc (ls2 := [_, _, _, _]) dX10_pass_85 rfl (Nat.le_of_ble_eq_true rfl) rfl ?_
      refine e_goto (tgt := 54) dX10_pass_88 (by decide) ?_
      exact ihx
set_option maxRecDepth 20000 in
set_option maxHeartbeats 4000000 in
theorem c_10_pass {K : q_K} {B M C : q_S} {a : Nat} (hT : K a = (11, 0, 100)) (hR : RC M C) (hI : MI M) (hW : WR M) (hB : q_tb K (M 50 16)) {c s : Nat} (hc : 1 ≤ c) (hs : 6 ≤ s) {h : Int} (hh : q_iI h) (h10 : M 50 10 ≤ 890000) (hn6 : C 103 3 ≤ 512) : q_E mX10_pass 0 [some (q_R a), some (q_I h), none, none] [] K B C c s (PB (passF M h) "java/lang/IllegalArgumentException" "java/lang/IllegalStateException" "" K B) := by
  have h01 := rs_1 hW
  have hE0 := (rc_E hR).1
  have hh1 := hh.1
  have hh2 := hh.2
  by_cases e0 : 1 ≤ h ∧ h ≤ 100
  · by_cases e1 : M 50 1 + h ≤ 2000
    · refine e_iload_n dX10_pass_0 rfl ?_
      refine e_iconst dX10_pass_1 ?_
      refine e_bipush dX10_pass_2 (by decide) ?_
      refine e_cS (as := [_, _, _]) dX10_pass_4 k_X10_needRange l_X10_88 s_X10_needRange rfl rfl rfl rfl (Nat.le_of_ble_eq_true rfl) ⟨by decide, by decide⟩ (Nat.le_of_ble_eq_true rfl) (by decide) (c_nR1 hh ⟨by decide, by decide⟩ ⟨by decide, by decide⟩ (by omega)) ?_
      refine e_aload_n dX10_pass_7 rfl ?_
      refine c_getI (by decide) dX10_pass_8 f_X10_58 (Or.inl rfl) hT ?_
      rw [rs_now hR]
      have g_8 := rs_1 hW
      refine e_iload_n dX10_pass_11 rfl ?_
      refine e_iadd dX10_pass_12 ?_
      refine e_sipush dX10_pass_13 (by decide) ?_
      refine e_icmp_le (tgt := 30) dX10_pass_16 (by decide) ⟨by omega, by omega⟩ ⟨by omega, by omega⟩ (fun c_16 => ?_) (fun c_16 => ?_)
      · refine e_aload_n dX10_pass_30 rfl ?_
        refine e_dup dX10_pass_31 rfl ?_
        refine c_getI (by decide) dX10_pass_32 f_X10_58 (Or.inl rfl) hT ?_
        rw [rs_now hR]
        have g_32 := rs_1 hW
        refine e_iload_n dX10_pass_35 rfl ?_
        refine e_iadd dX10_pass_36 ?_
        refine c_putI (by decide) dX10_pass_37 f_X10_58 rfl hT (by decide) ⟨by omega, by omega⟩ ?_
        have hE1 : RE M (q_us C 100 9 (M 50 1 + h)) := RE_fr (rc_E hR) (fun _ => rfl) (fun _ => rfl) rfl rfl (fun _ => rfl) (fun _ => rfl) (fun _ => rfl)
        have cs := cbF_sp (q_us C 100 9 (M 50 1 + h)) (C 103 3) (M 50 1 + h) ((C 103 3).toNat + 1) 0 (Int.le_refl _) hE0.1 (by omega) (fun k x y => by omega)
        refine e_aload_n dX10_pass_40 rfl ?_
        refine c_getR (kt := (3, 0, 103)) (by decide) (Or.inl (by decide)) dX10_pass_41 f_X10_22 hT rfl (Nat.succ_ne_zero _) (fun q_41 h_41 => ?_)
        refine e_aload_n dX10_pass_44 rfl ?_
        refine c_getI (by decide) dX10_pass_45 f_X10_58 (Or.inl rfl) hT ?_
        try simp only [q_us_ap, editsF_3, Int.reduceEq, Int.reduceNeg, false_and, and_false, and_self, if_true, if_false, true_and, and_true, ite_self]
        refine e_cV (as := [_]) (ci := 2) dX10_pass_48 k_X2_comeBy l_X10_275 i_X2_comeBy v_X2_comeBy h_41 rfl (by decide) ⟨_, _, rfl⟩ rfl rfl rfl rfl (Nat.le_of_ble_eq_true rfl) ⟨by decide, by decide⟩ (Nat.le_of_ble_eq_true rfl) (by decide) (c_2_comeBy h_41 hE1 hW hn6 ⟨by omega, by omega⟩) ?_
        try simp only [lockF_thr, rightF_thr, latestOf_thr, asOfT_thr]
        refine e_istore_n (ls2 := [_, _, _, _]) dX10_pass_51 (Nat.le_of_ble_eq_true rfl) rfl ?_
        refine e_iconst dX10_pass_52 ?_
        refine e_istore_n (ls2 := [_, _, _, _]) dX10_pass_53 (Nat.le_of_ble_eq_true rfl) rfl ?_
        exact c_10_pass_l hT hR hI hW hB (by omega) hn6 e0 rfl e1 ⟨cs.1.1, cs.1.2⟩ cs.2.1 cs.2.2 (cbF (q_us C 100 9 (M 50 1 + h)) (C 103 3) (M 50 1 + h) ((C 103 3).toNat + 1) 0).toNat 0 (by have := cs.1.1; omega)
      · exfalso; omega
    · refine e_iload_n dX10_pass_0 rfl ?_
      refine e_iconst dX10_pass_1 ?_
      refine e_bipush dX10_pass_2 (by decide) ?_
      refine e_cS (as := [_, _, _]) dX10_pass_4 k_X10_needRange l_X10_88 s_X10_needRange rfl rfl rfl rfl (Nat.le_of_ble_eq_true rfl) ⟨by decide, by decide⟩ (Nat.le_of_ble_eq_true rfl) (by decide) (c_nR1 hh ⟨by decide, by decide⟩ ⟨by decide, by decide⟩ (by omega)) ?_
      refine e_aload_n dX10_pass_7 rfl ?_
      refine c_getI (by decide) dX10_pass_8 f_X10_58 (Or.inl rfl) hT ?_
      rw [rs_now hR]
      have g_8 := rs_1 hW
      refine e_iload_n dX10_pass_11 rfl ?_
      refine e_iadd dX10_pass_12 ?_
      refine e_sipush dX10_pass_13 (by decide) ?_
      refine e_icmp_le (tgt := 30) dX10_pass_16 (by decide) ⟨by omega, by omega⟩ ⟨by omega, by omega⟩ (fun c_16 => ?_) (fun c_16 => ?_)
      · exfalso; omega
      · exact e_thrW dX10_pass_19 dX10_pass_22 dX10_pass_23 dX10_pass_26 dX10_pass_29 x_sta y_ends rfl (Nat.le_of_ble_eq_true rfl) ⟨by decide, by decide⟩ hc hs (pbq2 hB hR (by unfold passF; rw [if_neg (by omega), if_pos (by omega)]))
  · refine e_iload_n dX10_pass_0 rfl ?_
    refine e_iconst dX10_pass_1 ?_
    refine e_bipush dX10_pass_2 (by decide) ?_
    exact e_cST (as := [_, _, _]) dX10_pass_4 k_X10_needRange l_X10_88 s_X10_needRange rfl rfl rfl rfl (Nat.le_of_ble_eq_true rfl) ⟨by decide, by decide⟩ (Nat.le_of_ble_eq_true rfl) (by decide) (c_nR0 hh ⟨by decide, by decide⟩ ⟨by decide, by decide⟩ hc hs (by omega)) (pbq1 hB hR (by unfold passF; rw [if_pos (by omega)]))
