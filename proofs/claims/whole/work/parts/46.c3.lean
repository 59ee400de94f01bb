set_option maxRecDepth 20000 in
set_option maxHeartbeats 4000000 in
theorem c_10_stateOf {K : q_K} {B M C : q_S} {a : Nat} (hT : K a = (11, 0, 100)) (hR : RC M C) (hI : MI M) (hW : WR M) (hB : q_tb K (M 50 16)) {c s : Nat} (hc : 1 ≤ c) (hs : 6 ≤ s) {m f : Int} (hm : q_iI m) (hf : q_iI f)  : q_E mX10_stateOf 0 [some (q_R a), some (q_I m), some (q_I f)] [] K B C c s (PB (stateOfF M m f) "java/lang/IndexOutOfBoundsException" "" "" K B) := by
  have hm1 := hm.1
  have hm2 := hm.2
  have hf1 := hf.1
  have hf2 := hf.2
  by_cases e0 : 0 ≤ m ∧ m < 3
  · by_cases e1 : 0 ≤ f ∧ f < 16
    · refine e_iload_n dX10_stateOf_0 rfl ?_
      refine e_iconst dX10_stateOf_1 ?_
      refine e_cS (as := [_, _]) dX10_stateOf_2 k_X10_needIndex l_X10_99 s_X10_needIndex rfl rfl rfl rfl (Nat.le_of_ble_eq_true rfl) ⟨by decide, by decide⟩ (Nat.le_of_ble_eq_true rfl) (by decide) (c_nI1 hm ⟨by decide, by decide⟩ (by omega)) ?_
      refine e_iload_n dX10_stateOf_5 rfl ?_
      refine e_bipush dX10_stateOf_6 (by decide) ?_
      refine e_cS (as := [_, _]) dX10_stateOf_8 k_X10_needIndex l_X10_99 s_X10_needIndex rfl rfl rfl rfl (Nat.le_of_ble_eq_true rfl) ⟨by decide, by decide⟩ (Nat.le_of_ble_eq_true rfl) (by decide) (c_nI1 hf ⟨by decide, by decide⟩ (by omega)) ?_
      refine e_aload_n dX10_stateOf_11 rfl ?_
      refine c_getR (kt := (36, 3, 102)) (by decide) (Or.inl (by decide)) dX10_stateOf_12 f_X10_15 hT rfl (Nat.succ_ne_zero _) (fun q_12 h_12 => ?_)
      refine e_iload_n dX10_stateOf_15 rfl ?_
      refine c_aald (ci := 6) (kt := (7, 0, (110 + m))) (by decide) (Or.inl (by decide)) dX10_stateOf_16 h_12 (by decide) (by omega) (by omega) (kl_m ⟨by omega, by omega⟩) (Nat.succ_ne_zero _) (fun q_16 h_16 => ?_)
      refine c_getR (kt := (31, 16, (140 + m))) (by omega) (Or.inl (by omega)) dX10_stateOf_17 f_X10_105 h_16 (kl_c ⟨by omega, by omega⟩) (Nat.succ_ne_zero _) (fun q_17 h_17 => ?_)
      refine e_iload_n dX10_stateOf_20 rfl ?_
      refine c_aald (ci := 1) (kt := (2, 0, (200 + (16 * m + f)))) (by omega) (Or.inl (by omega)) dX10_stateOf_21 h_17 (by decide) (by omega) (by omega) (kl_p ⟨by omega, by omega⟩ ⟨by omega, by omega⟩) (Nat.succ_ne_zero _) (fun q_21 h_21 => ?_)
      refine c_getI (by omega) dX10_stateOf_22 f_X10_109 (Or.inl rfl) h_21 ?_
      rw [rp_0 hR (p := (16 * m + f)) ⟨by omega, by omega⟩]
      have g_22 : 0 ≤ M 2 (16 * m + f) ∧ M 2 (16 * m + f) ≤ 2 := hW 2 (16 * m + f)
      exact e_iret dX10_stateOf_25 (Or.inl rfl) (pbq0 hB hR (by unfold stateOfF; rw [if_pos (show inMF m f from ⟨⟨by omega, by omega⟩, by omega, by omega⟩)] <;> rfl))
    · refine e_iload_n dX10_stateOf_0 rfl ?_
      refine e_iconst dX10_stateOf_1 ?_
      refine e_cS (as := [_, _]) dX10_stateOf_2 k_X10_needIndex l_X10_99 s_X10_needIndex rfl rfl rfl rfl (Nat.le_of_ble_eq_true rfl) ⟨by decide, by decide⟩ (Nat.le_of_ble_eq_true rfl) (by decide) (c_nI1 hm ⟨by decide, by decide⟩ (by omega)) ?_
      refine e_iload_n dX10_stateOf_5 rfl ?_
      refine e_bipush dX10_stateOf_6 (by decide) ?_
      exact e_cST (as := [_, _]) dX10_stateOf_8 k_X10_needIndex l_X10_99 s_X10_needIndex rfl rfl rfl rfl (Nat.le_of_ble_eq_true rfl) ⟨by decide, by decide⟩ (Nat.le_of_ble_eq_true rfl) (by decide) (c_nI0 hf ⟨by decide, by decide⟩ hc hs (by omega)) (pbq1 hB hR (by unfold stateOfF; rw [if_neg (show ¬ inMF m f from fun h => by have h1 := h.1; have h2 := h.2; omega)]))
  · refine e_iload_n dX10_stateOf_0 rfl ?_
    refine e_iconst dX10_stateOf_1 ?_
    exact e_cST (as := [_, _]) dX10_stateOf_2 k_X10_needIndex l_X10_99 s_X10_needIndex rfl rfl rfl rfl (Nat.le_of_ble_eq_true rfl) ⟨by decide, by decide⟩ (Nat.le_of_ble_eq_true rfl) (by decide) (c_nI0 hm ⟨by decide, by decide⟩ hc hs (by omega)) (pbq1 hB hR (by unfold stateOfF; rw [if_neg (show ¬ inMF m f from fun h => by have h1 := h.1; have h2 := h.2; omega)]))
set_option maxRecDepth 20000 in
set_option maxHeartbeats 4000000 in
theorem c_10_folderOf {K : q_K} {B M C : q_S} {a : Nat} (hT : K a = (11, 0, 100)) (hR : RC M C) (hI : MI M) (hW : WR M) (hB : q_tb K (M 50 16)) {c s : Nat} (hc : 1 ≤ c) (hs : 6 ≤ s) {m f : Int} (hm : q_iI m) (hf : q_iI f)  : q_E mX10_folderOf 0 [some (q_R a), some (q_I m), some (q_I f)] [] K B C c s (PB (folderOfF M m f) "java/lang/IndexOutOfBoundsException" "" "" K B) := by
  have hm1 := hm.1
  have hm2 := hm.2
  have hf1 := hf.1
  have hf2 := hf.2
  by_cases e0 : 0 ≤ m ∧ m < 3
  · by_cases e1 : 0 ≤ f ∧ f < 16
    · refine e_iload_n dX10_folderOf_0 rfl ?_
      refine e_iconst dX10_folderOf_1 ?_
      refine e_cS (as := [_, _]) dX10_folderOf_2 k_X10_needIndex l_X10_99 s_X10_needIndex rfl rfl rfl rfl (Nat.le_of_ble_eq_true rfl) ⟨by decide, by decide⟩ (Nat.le_of_ble_eq_true rfl) (by decide) (c_nI1 hm ⟨by decide, by decide⟩ (by omega)) ?_
      refine e_iload_n dX10_folderOf_5 rfl ?_
      refine e_bipush dX10_folderOf_6 (by decide) ?_
      refine e_cS (as := [_, _]) dX10_folderOf_8 k_X10_needIndex l_X10_99 s_X10_needIndex rfl rfl rfl rfl (Nat.le_of_ble_eq_true rfl) ⟨by decide, by decide⟩ (Nat.le_of_ble_eq_true rfl) (by decide) (c_nI1 hf ⟨by decide, by decide⟩ (by omega)) ?_
      refine e_aload_n dX10_folderOf_11 rfl ?_
      refine c_getR (kt := (36, 3, 102)) (by decide) (Or.inl (by decide)) dX10_folderOf_12 f_X10_15 hT rfl (Nat.succ_ne_zero _) (fun q_12 h_12 => ?_)
      refine e_iload_n dX10_folderOf_15 rfl ?_
      refine c_aald (ci := 6) (kt := (7, 0, (110 + m))) (by decide) (Or.inl (by decide)) dX10_folderOf_16 h_12 (by decide) (by omega) (by omega) (kl_m ⟨by omega, by omega⟩) (Nat.succ_ne_zero _) (fun q_16 h_16 => ?_)
      refine c_getR (kt := (31, 16, (140 + m))) (by omega) (Or.inl (by omega)) dX10_folderOf_17 f_X10_105 h_16 (kl_c ⟨by omega, by omega⟩) (Nat.succ_ne_zero _) (fun q_17 h_17 => ?_)
      refine e_iload_n dX10_folderOf_20 rfl ?_
      refine c_aald (ci := 1) (kt := (2, 0, (200 + (16 * m + f)))) (by omega) (Or.inl (by omega)) dX10_folderOf_21 h_17 (by decide) (by omega) (by omega) (kl_p ⟨by omega, by omega⟩ ⟨by omega, by omega⟩) (Nat.succ_ne_zero _) (fun q_21 h_21 => ?_)
      refine c_getI (by omega) dX10_folderOf_22 f_X10_114 (Or.inl rfl) h_21 ?_
      rw [rp_1 hR (p := (16 * m + f)) ⟨by omega, by omega⟩]
      have g_22 := cfo_rg hW (16 * m + f)
      exact e_iret dX10_folderOf_25 (Or.inl rfl) (pbq0 hB hR (by unfold folderOfF; rw [if_pos (show inMF m f from ⟨⟨by omega, by omega⟩, by omega, by omega⟩)] <;> rfl))
    · refine e_iload_n dX10_folderOf_0 rfl ?_
      refine e_iconst dX10_folderOf_1 ?_
      refine e_cS (as := [_, _]) dX10_folderOf_2 k_X10_needIndex l_X10_99 s_X10_needIndex rfl rfl rfl rfl (Nat.le_of_ble_eq_true rfl) ⟨by decide, by decide⟩ (Nat.le_of_ble_eq_true rfl) (by decide) (c_nI1 hm ⟨by decide, by decide⟩ (by omega)) ?_
      refine e_iload_n dX10_folderOf_5 rfl ?_
      refine e_bipush dX10_folderOf_6 (by decide) ?_
      exact e_cST (as := [_, _]) dX10_folderOf_8 k_X10_needIndex l_X10_99 s_X10_needIndex rfl rfl rfl rfl (Nat.le_of_ble_eq_true rfl) ⟨by decide, by decide⟩ (Nat.le_of_ble_eq_true rfl) (by decide) (c_nI0 hf ⟨by decide, by decide⟩ hc hs (by omega)) (pbq1 hB hR (by unfold folderOfF; rw [if_neg (show ¬ inMF m f from fun h => by have h1 := h.1; have h2 := h.2; omega)]))
  · refine e_iload_n dX10_folderOf_0 rfl ?_
    refine e_iconst dX10_folderOf_1 ?_
    exact e_cST (as := [_, _]) dX10_folderOf_2 k_X10_needIndex l_X10_99 s_X10_needIndex rfl rfl rfl rfl (Nat.le_of_ble_eq_true rfl) ⟨by decide, by decide⟩ (Nat.le_of_ble_eq_true rfl) (by decide) (c_nI0 hm ⟨by decide, by decide⟩ hc hs (by omega)) (pbq1 hB hR (by unfold folderOfF; rw [if_neg (show ¬ inMF m f from fun h => by have h1 := h.1; have h2 := h.2; omega)]))
set_option maxRecDepth 20000 in
set_option maxHeartbeats 4000000 in
theorem c_10_seen {K : q_K} {B M C : q_S} {a : Nat} (hT : K a = (11, 0, 100)) (hR : RC M C) (hI : MI M) (hW : WR M) (hB : q_tb K (M 50 16)) {c s : Nat} (hc : 1 ≤ c) (hs : 6 ≤ s) {m f : Int} (hm : q_iI m) (hf : q_iI f)  : q_E mX10_seen 0 [some (q_R a), some (q_I m), some (q_I f)] [] K B C c s (PB (seenF M m f) "java/lang/IndexOutOfBoundsException" "" "" K B) := by
  have hm1 := hm.1
  have hm2 := hm.2
  have hf1 := hf.1
  have hf2 := hf.2
  by_cases e0 : 0 ≤ m ∧ m < 3
  · by_cases e1 : 0 ≤ f ∧ f < 16
    · refine e_iload_n dX10_seen_0 rfl ?_
      refine e_iconst dX10_seen_1 ?_
      refine e_cS (as := [_, _]) dX10_seen_2 k_X10_needIndex l_X10_99 s_X10_needIndex rfl rfl rfl rfl (Nat.le_of_ble_eq_true rfl) ⟨by decide, by decide⟩ (Nat.le_of_ble_eq_true rfl) (by decide) (c_nI1 hm ⟨by decide, by decide⟩ (by omega)) ?_
      refine e_iload_n dX10_seen_5 rfl ?_
      refine e_bipush dX10_seen_6 (by decide) ?_
      refine e_cS (as := [_, _]) dX10_seen_8 k_X10_needIndex l_X10_99 s_X10_needIndex rfl rfl rfl rfl (Nat.le_of_ble_eq_true rfl) ⟨by decide, by decide⟩ (Nat.le_of_ble_eq_true rfl) (by decide) (c_nI1 hf ⟨by decide, by decide⟩ (by omega)) ?_
      refine e_aload_n dX10_seen_11 rfl ?_
      refine c_getR (kt := (36, 3, 102)) (by decide) (Or.inl (by decide)) dX10_seen_12 f_X10_15 hT rfl (Nat.succ_ne_zero _) (fun q_12 h_12 => ?_)
      refine e_iload_n dX10_seen_15 rfl ?_
      refine c_aald (ci := 6) (kt := (7, 0, (110 + m))) (by decide) (Or.inl (by decide)) dX10_seen_16 h_12 (by decide) (by omega) (by omega) (kl_m ⟨by omega, by omega⟩) (Nat.succ_ne_zero _) (fun q_16 h_16 => ?_)
      refine c_getR (kt := (31, 16, (140 + m))) (by omega) (Or.inl (by omega)) dX10_seen_17 f_X10_105 h_16 (kl_c ⟨by omega, by omega⟩) (Nat.succ_ne_zero _) (fun q_17 h_17 => ?_)
      refine e_iload_n dX10_seen_20 rfl ?_
      refine c_aald (ci := 1) (kt := (2, 0, (200 + (16 * m + f)))) (by omega) (Or.inl (by omega)) dX10_seen_21 h_17 (by decide) (by omega) (by omega) (kl_p ⟨by omega, by omega⟩ ⟨by omega, by omega⟩) (Nat.succ_ne_zero _) (fun q_21 h_21 => ?_)
      refine c_getI (by omega) dX10_seen_22 f_X10_294 (Or.inl rfl) h_21 ?_
      rw [rp_3 hR (p := (16 * m + f)) ⟨by omega, by omega⟩]
      have g_22 : 0 ≤ M 5 (16 * m + f) ∧ M 5 (16 * m + f) ≤ 120 := hW 5 (16 * m + f)
      exact e_iret dX10_seen_25 (Or.inl rfl) (pbq0 hB hR (by unfold seenF; rw [if_pos (show inMF m f from ⟨⟨by omega, by omega⟩, by omega, by omega⟩)] <;> rfl))
    · refine e_iload_n dX10_seen_0 rfl ?_
      refine e_iconst dX10_seen_1 ?_
      refine e_cS (as := [_, _]) dX10_seen_2 k_X10_needIndex l_X10_99 s_X10_needIndex rfl rfl rfl rfl (Nat.le_of_ble_eq_true rfl) ⟨by decide, by decide⟩ (Nat.le_of_ble_eq_true rfl) (by decide) (c_nI1 hm ⟨by decide, by decide⟩ (by omega)) ?_
      refine e_iload_n dX10_seen_5 rfl ?_
      refine e_bipush dX10_seen_6 (by decide) ?_
      exact e_cST (as := [_, _]) dX10_seen_8 k_X10_needIndex l_X10_99 s_X10_needIndex rfl rfl rfl rfl (Nat.le_of_ble_eq_true rfl) ⟨by decide, by decide⟩ (Nat.le_of_ble_eq_true rfl) (by decide) (c_nI0 hf ⟨by decide, by decide⟩ hc hs (by omega)) (pbq1 hB hR (by unfold seenF; rw [if_neg (show ¬ inMF m f from fun h => by have h1 := h.1; have h2 := h.2; omega)]))
  · refine e_iload_n dX10_seen_0 rfl ?_
    refine e_iconst dX10_seen_1 ?_
    exact e_cST (as := [_, _]) dX10_seen_2 k_X10_needIndex l_X10_99 s_X10_needIndex rfl rfl rfl rfl (Nat.le_of_ble_eq_true rfl) ⟨by decide, by decide⟩ (Nat.le_of_ble_eq_true rfl) (by decide) (c_nI0 hm ⟨by decide, by decide⟩ hc hs (by omega)) (pbq1 hB hR (by unfold seenF; rw [if_neg (show ¬ inMF m f from fun h => by have h1 := h.1; have h2 := h.2; omega)]))
set_option maxRecDepth 20000 in
set_option maxHeartbeats 4000000 in
theorem c_10_isChanged {K : q_K} {B M C : q_S} {a : Nat} (hT : K a = (11, 0, 100)) (hR : RC M C) (hI : MI M) (hW : WR M) (hB : q_tb K (M 50 16)) {c s : Nat} (hc : 1 ≤ c) (hs : 6 ≤ s) {m f : Int} (hm : q_iI m) (hf : q_iI f)  : q_E mX10_isChanged 0 [some (q_R a), some (q_I m), some (q_I f)] [] K B C c s (PB (isChangedF M m f) "java/lang/IndexOutOfBoundsException" "" "" K B) := by
  have hm1 := hm.1
  have hm2 := hm.2
  have hf1 := hf.1
  have hf2 := hf.2
  by_cases e0 : 0 ≤ m ∧ m < 3
  · by_cases e1 : 0 ≤ f ∧ f < 16
    · refine e_iload_n dX10_isChanged_0 rfl ?_
      refine e_iconst dX10_isChanged_1 ?_
      refine e_cS (as := [_, _]) dX10_isChanged_2 k_X10_needIndex l_X10_99 s_X10_needIndex rfl rfl rfl rfl (Nat.le_of_ble_eq_true rfl) ⟨by decide, by decide⟩ (Nat.le_of_ble_eq_true rfl) (by decide) (c_nI1 hm ⟨by decide, by decide⟩ (by omega)) ?_
      refine e_iload_n dX10_isChanged_5 rfl ?_
      refine e_bipush dX10_isChanged_6 (by decide) ?_
      refine e_cS (as := [_, _]) dX10_isChanged_8 k_X10_needIndex l_X10_99 s_X10_needIndex rfl rfl rfl rfl (Nat.le_of_ble_eq_true rfl) ⟨by decide, by decide⟩ (Nat.le_of_ble_eq_true rfl) (by decide) (c_nI1 hf ⟨by decide, by decide⟩ (by omega)) ?_
      refine e_aload_n dX10_isChanged_11 rfl ?_
      refine e_aload_n dX10_isChanged_12 rfl ?_
      refine c_getR (kt := (36, 3, 102)) (by decide) (Or.inl (by decide)) dX10_isChanged_13 f_X10_15 hT rfl (Nat.succ_ne_zero _) (fun q_13 h_13 => ?_)
      refine e_iload_n dX10_isChanged_16 rfl ?_
      refine c_aald (ci := 6) (kt := (7, 0, (110 + m))) (by decide) (Or.inl (by decide)) dX10_isChanged_17 h_13 (by decide) (by omega) (by omega) (kl_m ⟨by omega, by omega⟩) (Nat.succ_ne_zero _) (fun q_17 h_17 => ?_)
      refine c_getR (kt := (31, 16, (140 + m))) (by omega) (Or.inl (by omega)) dX10_isChanged_18 f_X10_105 h_17 (kl_c ⟨by omega, by omega⟩) (Nat.succ_ne_zero _) (fun q_18 h_18 => ?_)
      refine e_iload_n dX10_isChanged_21 rfl ?_
      refine c_aald (ci := 1) (kt := (2, 0, (200 + (16 * m + f)))) (by omega) (Or.inl (by omega)) dX10_isChanged_22 h_18 (by decide) (by omega) (by omega) (kl_p ⟨by omega, by omega⟩ ⟨by omega, by omega⟩) (Nat.succ_ne_zero _) (fun q_22 h_22 => ?_)
      refine e_cV (as := [_]) (ci := 10) dX10_isChanged_23 k_X10_isEdited l_X10_141 i_X10_isEdited v_X10_isEdited hT rfl (by decide) ⟨_, _, rfl⟩ rfl rfl rfl rfl (Nat.le_of_ble_eq_true rfl) ⟨by decide, by decide⟩ (Nat.le_of_ble_eq_true rfl) (by decide) (c_10_isEdited hT h_22 ⟨by omega, by omega⟩ hR hI hW) ?_
      exact e_iret dX10_isChanged_26 (Or.inr ⟨rfl, bi_01⟩) (pbq0 hB hR (by unfold isChangedF; rw [if_pos (show inMF m f from ⟨⟨by omega, by omega⟩, by omega, by omega⟩)]))
    · refine e_iload_n dX10_isChanged_0 rfl ?_
      refine e_iconst dX10_isChanged_1 ?_
      refine e_cS (as := [_, _]) dX10_isChanged_2 k_X10_needIndex l_X10_99 s_X10_needIndex rfl rfl rfl rfl (Nat.le_of_ble_eq_true rfl) ⟨by decide, by decide⟩ (Nat.le_of_ble_eq_true rfl) (by decide) (c_nI1 hm ⟨by decide, by decide⟩ (by omega)) ?_
      refine e_iload_n dX10_isChanged_5 rfl ?_
      refine e_bipush dX10_isChanged_6 (by decide) ?_
      exact e_cST (as := [_, _]) dX10_isChanged_8 k_X10_needIndex l_X10_99 s_X10_needIndex rfl rfl rfl rfl (Nat.le_of_ble_eq_true rfl) ⟨by decide, by decide⟩ (Nat.le_of_ble_eq_true rfl) (by decide) (c_nI0 hf ⟨by decide, by decide⟩ hc hs (by omega)) (pbq1 hB hR (by unfold isChangedF; rw [if_neg (show ¬ inMF m f from fun h => by have h1 := h.1; have h2 := h.2; omega)]))
  · refine e_iload_n dX10_isChanged_0 rfl ?_
    refine e_iconst dX10_isChanged_1 ?_
    exact e_cST (as := [_, _]) dX10_isChanged_2 k_X10_needIndex l_X10_99 s_X10_needIndex rfl rfl rfl rfl (Nat.le_of_ble_eq_true rfl) ⟨by decide, by decide⟩ (Nat.le_of_ble_eq_true rfl) (by decide) (c_nI0 hm ⟨by decide, by decide⟩ hc hs (by omega)) (pbq1 hB hR (by unfold isChangedF; rw [if_neg (show ¬ inMF m f from fun h => by have h1 := h.1; have h2 := h.2; omega)]))
set_option maxRecDepth 20000 in
set_option maxHeartbeats 4000000 in
theorem c_10_numberAt {K : q_K} {B M C : q_S} {a : Nat} (hT : K a = (11, 0, 100)) (hR : RC M C) (hI : MI M) (hW : WR M) (hB : q_tb K (M 50 16)) {c s : Nat} (hc : 1 ≤ c) (hs : 6 ≤ s) {m f k : Int} (hm : q_iI m) (hf : q_iI f) (hk : q_iI k)  : q_E mX10_numberAt 0 [some (q_R a), some (q_I m), some (q_I f), some (q_I k), none] [] K B C c s (PB (numberAtF M m f k) "java/lang/IndexOutOfBoundsException" "" "" K B) := by
  have hm1 := hm.1
  have hm2 := hm.2
  have hf1 := hf.1
  have hf2 := hf.2
  have hk1 := hk.1
  have hk2 := hk.2
  by_cases e0 : 0 ≤ m ∧ m < 3
  · by_cases e1 : 0 ≤ f ∧ f < 16
    · by_cases e2 : 0 ≤ k
      · refine e_iload_n dX10_numberAt_0 rfl ?_
        refine e_iconst dX10_numberAt_1 ?_
        refine e_cS (as := [_, _]) dX10_numberAt_2 k_X10_needIndex l_X10_99 s_X10_needIndex rfl rfl rfl rfl (Nat.le_of_ble_eq_true rfl) ⟨by decide, by decide⟩ (Nat.le_of_ble_eq_true rfl) (by decide) (c_nI1 hm ⟨by decide, by decide⟩ (by omega)) ?_
        refine e_iload_n dX10_numberAt_5 rfl ?_
        refine e_bipush dX10_numberAt_6 (by decide) ?_
        refine e_cS (as := [_, _]) dX10_numberAt_8 k_X10_needIndex l_X10_99 s_X10_needIndex rfl rfl rfl rfl (Nat.le_of_ble_eq_true rfl) ⟨by decide, by decide⟩ (Nat.le_of_ble_eq_true rfl) (by decide) (c_nI1 hf ⟨by decide, by decide⟩ (by omega)) ?_
        refine e_iload_n dX10_numberAt_11 rfl ?_
        refine e_if_ge (tgt := 26) dX10_numberAt_12 (by decide) ⟨by omega, by omega⟩ (fun c_12 => ?_) (fun c_12 => ?_)
        · refine e_aload_n dX10_numberAt_26 rfl ?_
          refine c_getR (kt := (36, 3, 102)) (by decide) (Or.inl (by decide)) dX10_numberAt_27 f_X10_15 hT rfl (Nat.succ_ne_zero _) (fun q_27 h_27 => ?_)
          refine e_iload_n dX10_numberAt_30 rfl ?_
          refine c_aald (ci := 6) (kt := (7, 0, (110 + m))) (by decide) (Or.inl (by decide)) dX10_numberAt_31 h_27 (by decide) (by omega) (by omega) (kl_m ⟨by omega, by omega⟩) (Nat.succ_ne_zero _) (fun q_31 h_31 => ?_)
          refine c_getR (kt := (31, 16, (140 + m))) (by omega) (Or.inl (by omega)) dX10_numberAt_32 f_X10_105 h_31 (kl_c ⟨by omega, by omega⟩) (Nat.succ_ne_zero _) (fun q_32 h_32 => ?_)
          refine e_iload_n dX10_numberAt_35 rfl ?_
          refine c_aald (ci := 1) (kt := (2, 0, (200 + (16 * m + f)))) (by omega) (Or.inl (by omega)) dX10_numberAt_36 h_32 (by decide) (by omega) (by omega) (kl_p ⟨by omega, by omega⟩ ⟨by omega, by omega⟩) (Nat.succ_ne_zero _) (fun q_36 h_36 => ?_)
          refine e_astore (ls2 := [_, _, _, _, _]) dX10_numberAt_37 (Nat.le_of_ble_eq_true rfl) rfl ?_
          refine e_aload dX10_numberAt_39 rfl ?_
          refine c_getI (by omega) dX10_numberAt_41 f_X10_109 (Or.inl rfl) h_36 ?_
          rw [rp_0 hR (p := (16 * m + f)) ⟨by omega, by omega⟩]
          have g_41 : 0 ≤ M 2 (16 * m + f) ∧ M 2 (16 * m + f) ≤ 2 := hW 2 (16 * m + f)
          refine e_iconst dX10_numberAt_44 ?_
          refine e_icmp_ne (tgt := 60) dX10_numberAt_45 (by decide) ⟨by omega, by omega⟩ ⟨by omega, by omega⟩ (fun c_45 => ?_) (fun c_45 => ?_)
          · refine e_iconst dX10_numberAt_60 ?_
            exact e_iret dX10_numberAt_61 (Or.inl rfl) (pbq0 hB hR (by rw [numberAtF_ok ⟨by omega, ⟨⟨by omega, by omega⟩, by omega, by omega⟩⟩]; unfold numF; first | (rw [if_pos (Or.inl c_45)]) | (by_cases e9 : mlen (M 3 (16 * m + f)) ≤ k; (rw [if_pos (Or.inr e9), if_neg (by omega)]); (rw [if_neg (fun h => h.elim (fun h => h c_45) e9), if_pos ⟨by omega, by omega⟩]))))
          · refine e_aload dX10_numberAt_48 rfl ?_
            have hv_50 : vcode (M 3 (16 * m + f)) := mi_3 hI ⟨by omega, by omega⟩
            have hg_50 := hv_50.1
            refine c_getR (kt := (1, 0, (1000000 + 3 * M 3 (16 * m + f)))) (by omega) (Or.inl (by omega)) dX10_numberAt_50 f_X10_165 h_36 (kl_pc ⟨by omega, by omega⟩ (by omega) (rp_2 hR ⟨by omega, by omega⟩)) (Nat.succ_ne_zero _) (fun q_50 h_50 => ?_)
            refine e_iload_n dX10_numberAt_53 rfl ?_
            refine e_cV (as := [_]) (ci := 0) dX10_numberAt_54 k_X0_numberIn l_X10_291 i_X0_numberIn v_X0_numberIn h_50 rfl (by decide) ⟨_, _, rfl⟩ rfl rfl rfl rfl (Nat.le_of_ble_eq_true rfl) ⟨by decide, by decide⟩ (Nat.le_of_ble_eq_true rfl) (by decide) (c_0_numberIn h_50 hv_50 hR hI hW hk) ?_
            refine e_goto (tgt := 61) dX10_numberAt_57 (by decide) ?_
            exact e_iret dX10_numberAt_61 (Or.inl rfl) (pbq0 hB hR (by rw [numberAtF_ok ⟨by omega, ⟨⟨by omega, by omega⟩, by omega, by omega⟩⟩]; unfold numF; first | (rw [if_pos (Or.inl c_45)]) | (by_cases e9 : mlen (M 3 (16 * m + f)) ≤ k; (rw [if_pos (Or.inr e9), if_neg (by omega)]); (rw [if_neg (fun h => h.elim (fun h => h c_45) e9), if_pos ⟨by omega, by omega⟩]))))
        · exfalso; omega
      · refine e_iload_n dX10_numberAt_0 rfl ?_
        refine e_iconst dX10_numberAt_1 ?_
        refine e_cS (as := [_, _]) dX10_numberAt_2 k_X10_needIndex l_X10_99 s_X10_needIndex rfl rfl rfl rfl (Nat.le_of_ble_eq_true rfl) ⟨by decide, by decide⟩ (Nat.le_of_ble_eq_true rfl) (by decide) (c_nI1 hm ⟨by decide, by decide⟩ (by omega)) ?_
        refine e_iload_n dX10_numberAt_5 rfl ?_
        refine e_bipush dX10_numberAt_6 (by decide) ?_
        refine e_cS (as := [_, _]) dX10_numberAt_8 k_X10_needIndex l_X10_99 s_X10_needIndex rfl rfl rfl rfl (Nat.le_of_ble_eq_true rfl) ⟨by decide, by decide⟩ (Nat.le_of_ble_eq_true rfl) (by decide) (c_nI1 hf ⟨by decide, by decide⟩ (by omega)) ?_
        refine e_iload_n dX10_numberAt_11 rfl ?_
        refine e_if_ge (tgt := 26) dX10_numberAt_12 (by decide) ⟨by omega, by omega⟩ (fun c_12 => ?_) (fun c_12 => ?_)
        · exfalso; omega
        · exact e_thrW dX10_numberAt_15 dX10_numberAt_18 dX10_numberAt_19 dX10_numberAt_22 dX10_numberAt_25 x_idx y_plac rfl (Nat.le_of_ble_eq_true rfl) ⟨by decide, by decide⟩ hc hs (pbq1 hB hR (by exact numberAtF_bad (fun h => by have h1 := h.1; have h2 := h.2.1; have h3 := h.2.2; omega)))
    · refine e_iload_n dX10_numberAt_0 rfl ?_
      refine e_iconst dX10_numberAt_1 ?_
      refine e_cS (as := [_, _]) dX10_numberAt_2 k_X10_needIndex l_X10_99 s_X10_needIndex rfl rfl rfl rfl (Nat.le_of_ble_eq_true rfl) ⟨by decide, by decide⟩ (Nat.le_of_ble_eq_true rfl) (by decide) (c_nI1 hm ⟨by decide, by decide⟩ (by omega)) ?_
      refine e_iload_n dX10_numberAt_5 rfl ?_
      refine e_bipush dX10_numberAt_6 (by decide) ?_
      exact e_cST (as := [_, _]) dX10_numberAt_8 k_X10_needIndex l_X10_99 s_X10_needIndex rfl rfl rfl rfl (Nat.le_of_ble_eq_true rfl) ⟨by decide, by decide⟩ (Nat.le_of_ble_eq_true rfl) (by decide) (c_nI0 hf ⟨by decide, by decide⟩ hc hs (by omega)) (pbq1 hB hR (by exact numberAtF_bad (fun h => by have h1 := h.1; have h2 := h.2.1; have h3 := h.2.2; omega)))
  · refine e_iload_n dX10_numberAt_0 rfl ?_
    refine e_iconst dX10_numberAt_1 ?_
    exact e_cST (as := [_, _]) dX10_numberAt_2 k_X10_needIndex l_X10_99 s_X10_needIndex rfl rfl rfl rfl (Nat.le_of_ble_eq_true rfl) ⟨by decide, by decide⟩ (Nat.le_of_ble_eq_true rfl) (by decide) (c_nI0 hm ⟨by decide, by decide⟩ hc hs (by omega)) (pbq1 hB hR (by exact numberAtF_bad (fun h => by have h1 := h.1; have h2 := h.2.1; have h3 := h.2.2; omega)))
set_option maxRecDepth 20000 in
set_option maxHeartbeats 4000000 in
theorem c_10_noted {K : q_K} {B M C : q_S} {a : Nat} (hT : K a = (11, 0, 100)) (hR : RC M C) (hI : MI M) (hW : WR M) (hB : q_tb K (M 50 16)) {c s : Nat} (hc : 1 ≤ c) (hs : 6 ≤ s) {m : Int} (hm : q_iI m)  : q_E mX10_noted 0 [some (q_R a), some (q_I m)] [] K B C c s (PB (notedF M m) "java/lang/IndexOutOfBoundsException" "" "" K B) := by
  have hm1 := hm.1
  have hm2 := hm.2
  by_cases e0 : 0 ≤ m ∧ m < 3
  · refine e_iload_n dX10_noted_0 rfl ?_
    refine e_iconst dX10_noted_1 ?_
    refine e_cS (as := [_, _]) dX10_noted_2 k_X10_needIndex l_X10_99 s_X10_needIndex rfl rfl rfl rfl (Nat.le_of_ble_eq_true rfl) ⟨by decide, by decide⟩ (Nat.le_of_ble_eq_true rfl) (by decide) (c_nI1 hm ⟨by decide, by decide⟩ (by omega)) ?_
    refine e_aload_n dX10_noted_5 rfl ?_
    refine c_getR (kt := (36, 3, 102)) (by decide) (Or.inl (by decide)) dX10_noted_6 f_X10_15 hT rfl (Nat.succ_ne_zero _) (fun q_6 h_6 => ?_)
    refine e_iload_n dX10_noted_9 rfl ?_
    refine c_aald (ci := 6) (kt := (7, 0, (110 + m))) (by decide) (Or.inl (by decide)) dX10_noted_10 h_6 (by decide) (by omega) (by omega) (kl_m ⟨by omega, by omega⟩) (Nat.succ_ne_zero _) (fun q_10 h_10 => ?_)
    refine c_getI (by omega) dX10_noted_11 f_X10_138 (Or.inl rfl) h_10 ?_
    rw [rm_2 hR (m := m) ⟨by omega, by omega⟩]
    have g_11 := ntF_rg M m 16
    exact e_iret dX10_noted_14 (Or.inl rfl) (pbq0 hB hR (by unfold notedF; rw [if_neg (by omega)]; exact congrArg (fun z => (z, thr M 0)) (ntF_congr (fun _ => rfl) m 16)))
  · refine e_iload_n dX10_noted_0 rfl ?_
    refine e_iconst dX10_noted_1 ?_
    exact e_cST (as := [_, _]) dX10_noted_2 k_X10_needIndex l_X10_99 s_X10_needIndex rfl rfl rfl rfl (Nat.le_of_ble_eq_true rfl) ⟨by decide, by decide⟩ (Nat.le_of_ble_eq_true rfl) (by decide) (c_nI0 hm ⟨by decide, by decide⟩ hc hs (by omega)) (pbq1 hB hR (by unfold notedF; rw [if_pos (by omega)]))
set_option maxRecDepth 20000 in
set_option maxHeartbeats 4000000 in
theorem c_10_taken {K : q_K} {B M C : q_S} {a : Nat} (hT : K a = (11, 0, 100)) (hR : RC M C) (hI : MI M) (hW : WR M) (hB : q_tb K (M 50 16)) {c s : Nat} (hc : 1 ≤ c) (hs : 6 ≤ s) {m : Int} (hm : q_iI m)  : q_E mX10_taken 0 [some (q_R a), some (q_I m)] [] K B C c s (PB (takenF M m) "java/lang/IndexOutOfBoundsException" "" "" K B) := by
  have hm1 := hm.1
  have hm2 := hm.2
  by_cases e0 : 0 ≤ m ∧ m < 3
  · refine e_iload_n dX10_taken_0 rfl ?_
    refine e_iconst dX10_taken_1 ?_
    refine e_cS (as := [_, _]) dX10_taken_2 k_X10_needIndex l_X10_99 s_X10_needIndex rfl rfl rfl rfl (Nat.le_of_ble_eq_true rfl) ⟨by decide, by decide⟩ (Nat.le_of_ble_eq_true rfl) (by decide) (c_nI1 hm ⟨by decide, by decide⟩ (by omega)) ?_
    refine e_aload_n dX10_taken_5 rfl ?_
    refine c_getR (kt := (36, 3, 102)) (by decide) (Or.inl (by decide)) dX10_taken_6 f_X10_15 hT rfl (Nat.succ_ne_zero _) (fun q_6 h_6 => ?_)
    refine e_iload_n dX10_taken_9 rfl ?_
    refine c_aald (ci := 6) (kt := (7, 0, (110 + m))) (by decide) (Or.inl (by decide)) dX10_taken_10 h_6 (by decide) (by omega) (by omega) (kl_m ⟨by omega, by omega⟩) (Nat.succ_ne_zero _) (fun q_10 h_10 => ?_)
    refine e_cV (as := []) (ci := 6) dX10_taken_11 k_X6_takenRoom l_X10_297 i_X6_takenRoom v_X6_takenRoom h_10 rfl (by decide) ⟨_, _, rfl⟩ rfl rfl rfl rfl (Nat.le_of_ble_eq_true rfl) ⟨by decide, by decide⟩ (Nat.le_of_ble_eq_true rfl) (by decide) (c_6_takenRoom h_10 ⟨by omega, by omega⟩ hR hI hW) ?_
    exact e_iret dX10_taken_14 (Or.inl rfl) (pbq0 hB hR (by unfold takenF; rw [if_neg (by omega)]; rfl))
  · refine e_iload_n dX10_taken_0 rfl ?_
    refine e_iconst dX10_taken_1 ?_
    exact e_cST (as := [_, _]) dX10_taken_2 k_X10_needIndex l_X10_99 s_X10_needIndex rfl rfl rfl rfl (Nat.le_of_ble_eq_true rfl) ⟨by decide, by decide⟩ (Nat.le_of_ble_eq_true rfl) (by decide) (c_nI0 hm ⟨by decide, by decide⟩ hc hs (by omega)) (pbq1 hB hR (by unfold takenF; rw [if_pos (by omega)]))
set_option maxRecDepth 20000 in
set_option maxHeartbeats 4000000 in
theorem c_10_time {K : q_K} {B M C : q_S} {a : Nat} (hT : K a = (11, 0, 100)) (hR : RC M C) (hI : MI M) (hW : WR M) (hB : q_tb K (M 50 16)) {c s : Nat} (hc : 1 ≤ c) (hs : 6 ≤ s)   : q_E mX10_time 0 [some (q_R a)] [] K B C c s (PB (timeF M) "" "" "" K B) := by
  refine e_aload_n dX10_time_0 rfl ?_
  refine c_getI (by decide) dX10_time_1 f_X10_58 (Or.inl rfl) hT ?_
  rw [rs_now hR]
  have g_1 := rs_1 hW
  exact e_iret dX10_time_4 (Or.inl rfl) (pbq0 hB hR rfl)
set_option maxRecDepth 20000 in
set_option maxHeartbeats 4000000 in
theorem c_10_versions {K : q_K} {B M C : q_S} {a : Nat} (hT : K a = (11, 0, 100)) (hR : RC M C) (hI : MI M) (hW : WR M) (hB : q_tb K (M 50 16)) {c s : Nat} (hc : 1 ≤ c) (hs : 6 ≤ s)   : q_E mX10_versions 0 [some (q_R a)] [] K B C c s (PB (versionsF M) "" "" "" K B) := by
  refine e_aload_n dX10_versions_0 rfl ?_
  refine c_getR (kt := (6, 0, 104)) (by decide) (Or.inl (by decide)) dX10_versions_1 f_X10_83 hT rfl (Nat.succ_ne_zero _) (fun q_1 h_1 => ?_)
  refine c_getI (by decide) dX10_versions_4 f_X10_159 (Or.inl rfl) h_1 ?_
  rw [rs_made hR]
  have g_4 := rs_16 hW
  exact e_iret dX10_versions_7 (Or.inl rfl) (pbq0 hB hR rfl)
set_option maxRecDepth 20000 in
set_option maxHeartbeats 4000000 in
theorem c_10_lockOf {K : q_K} {B M C : q_S} {a : Nat} (hT : K a = (11, 0, 100)) (hR : RC M C) (hI : MI M) (hW : WR M) (hB : q_tb K (M 50 16)) {c s : Nat} (hc : 1 ≤ c) (hs : 6 ≤ s) {f : Int} (hf : q_iI f)  : q_E mX10_lockOf 0 [some (q_R a), some (q_I f)] [] K B C c s (PB (lockOfF M f) "java/lang/IndexOutOfBoundsException" "" "" K B) := by
  have hf1 := hf.1
  have hf2 := hf.2
  by_cases e0 : 0 ≤ f ∧ f < 16
  · refine e_iload_n dX10_lockOf_0 rfl ?_
    refine e_bipush dX10_lockOf_1 (by decide) ?_
    refine e_cS (as := [_, _]) dX10_lockOf_3 k_X10_needIndex l_X10_99 s_X10_needIndex rfl rfl rfl rfl (Nat.le_of_ble_eq_true rfl) ⟨by decide, by decide⟩ (Nat.le_of_ble_eq_true rfl) (by decide) (c_nI1 hf ⟨by decide, by decide⟩ (by omega)) ?_
    refine e_aload_n dX10_lockOf_6 rfl ?_
    refine c_getR (kt := (5, 0, 106)) (by decide) (Or.inl (by decide)) dX10_lockOf_7 f_X10_36 hT rfl (Nat.succ_ne_zero _) (fun q_7 h_7 => ?_)
    refine e_iload_n dX10_lockOf_10 rfl ?_
    refine e_aload_n dX10_lockOf_11 rfl ?_
    refine c_getI (by decide) dX10_lockOf_12 f_X10_58 (Or.inl rfl) hT ?_
    rw [rs_now hR]
    have g_12 := rs_1 hW
    refine e_cV (as := [_, _]) (ci := 4) dX10_lockOf_15 k_X4_holderAt l_X10_223 i_X4_holderAt v_X4_holderAt h_7 rfl (by decide) ⟨_, _, rfl⟩ rfl rfl rfl rfl (Nat.le_of_ble_eq_true rfl) ⟨by decide, by decide⟩ (Nat.le_of_ble_eq_true rfl) (by decide) (c_4_holderAt h_7 hR hI hW ⟨by omega, by omega⟩) ?_
    exact e_iret dX10_lockOf_18 (Or.inl rfl) (pbq0 hB hR (by unfold lockOfF; rw [if_neg (by omega)]))
  · refine e_iload_n dX10_lockOf_0 rfl ?_
    refine e_bipush dX10_lockOf_1 (by decide) ?_
    exact e_cST (as := [_, _]) dX10_lockOf_3 k_X10_needIndex l_X10_99 s_X10_needIndex rfl rfl rfl rfl (Nat.le_of_ble_eq_true rfl) ⟨by decide, by decide⟩ (Nat.le_of_ble_eq_true rfl) (by decide) (c_nI0 hf ⟨by decide, by decide⟩ hc hs (by omega)) (pbq1 hB hR (by unfold lockOfF; rw [if_pos (by omega)]))
set_option maxRecDepth 20000 in
set_option maxHeartbeats 4000000 in
theorem c_10_right {K : q_K} {B M C : q_S} {a : Nat} (hT : K a = (11, 0, 100)) (hR : RC M C) (hI : MI M) (hW : WR M) (hB : q_tb K (M 50 16)) {c s : Nat} (hc : 1 ≤ c) (hs : 6 ≤ s) {d m : Int} (hd : q_iI d) (hm : q_iI m)  : q_E mX10_right 0 [some (q_R a), some (q_I d), some (q_I m)] [] K B C c s (PB (rightMF M d m) "java/lang/IndexOutOfBoundsException" "" "" K B) := by
  have hd1 := hd.1
  have hd2 := hd.2
  have hm1 := hm.1
  have hm2 := hm.2
  by_cases e0 : 0 ≤ d ∧ d < 4
  · by_cases e1 : 0 ≤ m ∧ m < 3
    · refine e_iload_n dX10_right_0 rfl ?_
      refine e_iconst dX10_right_1 ?_
      refine e_cS (as := [_, _]) dX10_right_2 k_X10_needIndex l_X10_99 s_X10_needIndex rfl rfl rfl rfl (Nat.le_of_ble_eq_true rfl) ⟨by decide, by decide⟩ (Nat.le_of_ble_eq_true rfl) (by decide) (c_nI1 hd ⟨by decide, by decide⟩ (by omega)) ?_
      refine e_iload_n dX10_right_5 rfl ?_
      refine e_iconst dX10_right_6 ?_
      refine e_cS (as := [_, _]) dX10_right_7 k_X10_needIndex l_X10_99 s_X10_needIndex rfl rfl rfl rfl (Nat.le_of_ble_eq_true rfl) ⟨by decide, by decide⟩ (Nat.le_of_ble_eq_true rfl) (by decide) (c_nI1 hm ⟨by decide, by decide⟩ (by omega)) ?_
      refine e_aload_n dX10_right_10 rfl ?_
      refine c_getR (kt := (8, 0, 107)) (by decide) (Or.inl (by decide)) dX10_right_11 f_X10_43 hT rfl (Nat.succ_ne_zero _) (fun q_11 h_11 => ?_)
      refine e_iload_n dX10_right_14 rfl ?_
      refine e_iload_n dX10_right_15 rfl ?_
      refine e_aload_n dX10_right_16 rfl ?_
      refine c_getI (by decide) dX10_right_17 f_X10_58 (Or.inl rfl) hT ?_
      rw [rs_now hR]
      have g_17 := rs_1 hW
      refine e_cV (as := [_, _, _]) (ci := 7) dX10_right_20 k_X7_rightAt l_X10_307 i_X7_rightAt v_X7_rightAt h_11 rfl (by decide) ⟨_, _, rfl⟩ rfl rfl rfl rfl (Nat.le_of_ble_eq_true rfl) ⟨by decide, by decide⟩ (Nat.le_of_ble_eq_true rfl) (by decide) (c_7_rightAt h_11 hR hI hW ⟨by omega, by omega⟩ ⟨by omega, by omega⟩) ?_
      exact e_iret dX10_right_23 (Or.inl rfl) (pbq0 hB hR (by unfold rightMF; rw [if_neg (by omega)]))
    · refine e_iload_n dX10_right_0 rfl ?_
      refine e_iconst dX10_right_1 ?_
      refine e_cS (as := [_, _]) dX10_right_2 k_X10_needIndex l_X10_99 s_X10_needIndex rfl rfl rfl rfl (Nat.le_of_ble_eq_true rfl) ⟨by decide, by decide⟩ (Nat.le_of_ble_eq_true rfl) (by decide) (c_nI1 hd ⟨by decide, by decide⟩ (by omega)) ?_
      refine e_iload_n dX10_right_5 rfl ?_
      refine e_iconst dX10_right_6 ?_
      exact e_cST (as := [_, _]) dX10_right_7 k_X10_needIndex l_X10_99 s_X10_needIndex rfl rfl rfl rfl (Nat.le_of_ble_eq_true rfl) ⟨by decide, by decide⟩ (Nat.le_of_ble_eq_true rfl) (by decide) (c_nI0 hm ⟨by decide, by decide⟩ hc hs (by omega)) (pbq1 hB hR (by unfold rightMF; rw [if_pos (by omega)]))
  · refine e_iload_n dX10_right_0 rfl ?_
    refine e_iconst dX10_right_1 ?_
    exact e_cST (as := [_, _]) dX10_right_2 k_X10_needIndex l_X10_99 s_X10_needIndex rfl rfl rfl rfl (Nat.le_of_ble_eq_true rfl) ⟨by decide, by decide⟩ (Nat.le_of_ble_eq_true rfl) (by decide) (c_nI0 hd ⟨by decide, by decide⟩ hc hs (by omega)) (pbq1 hB hR (by unfold rightMF; rw [if_pos (by omega)]))
set_option maxRecDepth 20000 in
set_option maxHeartbeats 4000000 in
theorem c_10_asOf {K : q_K} {B M C : q_S} {a : Nat} (hT : K a = (11, 0, 100)) (hR : RC M C) (hI : MI M) (hW : WR M) (hB : q_tb K (M 50 16)) {c s : Nat} (hc : 1 ≤ c) (hs : 6 ≤ s) {f t : Int} (hf : q_iI f) (ht : q_iI t)  : q_E mX10_asOf 0 [some (q_R a), some (q_I f), some (q_I t)] [] K B C c s (PB (asOfMF M f t) "java/lang/IndexOutOfBoundsException" "java/lang/IllegalArgumentException" "" K B) := by
  have h01 := rs_1 hW
  have hf1 := hf.1
  have hf2 := hf.2
  have ht1 := ht.1
  have ht2 := ht.2
  by_cases e0 : 0 ≤ f ∧ f < 16
  · by_cases e1 : 0 ≤ t ∧ t ≤ M 50 1
    · refine e_iload_n dX10_asOf_0 rfl ?_
      refine e_bipush dX10_asOf_1 (by decide) ?_
      refine e_cS (as := [_, _]) dX10_asOf_3 k_X10_needIndex l_X10_99 s_X10_needIndex rfl rfl rfl rfl (Nat.le_of_ble_eq_true rfl) ⟨by decide, by decide⟩ (Nat.le_of_ble_eq_true rfl) (by decide) (c_nI1 hf ⟨by decide, by decide⟩ (by omega)) ?_
      refine e_iload_n dX10_asOf_6 rfl ?_
      refine e_iconst dX10_asOf_7 ?_
      refine e_aload_n dX10_asOf_8 rfl ?_
      refine c_getI (by decide) dX10_asOf_9 f_X10_58 (Or.inl rfl) hT ?_
      rw [rs_now hR]
      have g_9 := rs_1 hW
      refine e_cS (as := [_, _, _]) dX10_asOf_12 k_X10_needRange l_X10_88 s_X10_needRange rfl rfl rfl rfl (Nat.le_of_ble_eq_true rfl) ⟨by decide, by decide⟩ (Nat.le_of_ble_eq_true rfl) (by decide) (c_nR1 ht ⟨by decide, by decide⟩ ⟨by omega, by omega⟩ (by omega)) ?_
      refine e_aload_n dX10_asOf_15 rfl ?_
      refine c_getR (kt := (6, 0, 104)) (by decide) (Or.inl (by decide)) dX10_asOf_16 f_X10_83 hT rfl (Nat.succ_ne_zero _) (fun q_16 h_16 => ?_)
      refine e_iload_n dX10_asOf_19 rfl ?_
      refine e_iload_n dX10_asOf_20 rfl ?_
      refine e_cV (as := [_, _]) (ci := 5) dX10_asOf_21 k_X5_lastUpTo l_X10_255 i_X5_lastUpTo v_X5_lastUpTo h_16 rfl (by decide) ⟨_, _, rfl⟩ rfl rfl rfl rfl (Nat.le_of_ble_eq_true rfl) ⟨by decide, by decide⟩ (Nat.le_of_ble_eq_true rfl) (by decide) (c_5_lastUpTo h_16 hR hI hW ⟨by omega, by omega⟩ ⟨by omega, by omega⟩) ?_
      exact e_iret dX10_asOf_24 (Or.inl rfl) (pbq0 hB hR (by unfold asOfMF; rw [if_neg (by omega), if_neg (by omega)]))
    · refine e_iload_n dX10_asOf_0 rfl ?_
      refine e_bipush dX10_asOf_1 (by decide) ?_
      refine e_cS (as := [_, _]) dX10_asOf_3 k_X10_needIndex l_X10_99 s_X10_needIndex rfl rfl rfl rfl (Nat.le_of_ble_eq_true rfl) ⟨by decide, by decide⟩ (Nat.le_of_ble_eq_true rfl) (by decide) (c_nI1 hf ⟨by decide, by decide⟩ (by omega)) ?_
      refine e_iload_n dX10_asOf_6 rfl ?_
      refine e_iconst dX10_asOf_7 ?_
      refine e_aload_n dX10_asOf_8 rfl ?_
      refine c_getI (by decide) dX10_asOf_9 f_X10_58 (Or.inl rfl) hT ?_
      rw [rs_now hR]
      have g_9 := rs_1 hW
      exact e_cST (as := [_, _, _]) dX10_asOf_12 k_X10_needRange l_X10_88 s_X10_needRange rfl rfl rfl rfl (Nat.le_of_ble_eq_true rfl) ⟨by decide, by decide⟩ (Nat.le_of_ble_eq_true rfl) (by decide) (c_nR0 ht ⟨by decide, by decide⟩ ⟨by omega, by omega⟩ hc hs (by omega)) (pbq2 hB hR (by unfold asOfMF; rw [if_neg (by omega), if_pos (by omega)]))
  · refine e_iload_n dX10_asOf_0 rfl ?_
    refine e_bipush dX10_asOf_1 (by decide) ?_
    exact e_cST (as := [_, _]) dX10_asOf_3 k_X10_needIndex l_X10_99 s_X10_needIndex rfl rfl rfl rfl (Nat.le_of_ble_eq_true rfl) ⟨by decide, by decide⟩ (Nat.le_of_ble_eq_true rfl) (by decide) (c_nI0 hf ⟨by decide, by decide⟩ hc hs (by omega)) (pbq1 hB hR (by unfold asOfMF; rw [if_pos (by omega)]))
set_option maxRecDepth 20000 in
set_option maxHeartbeats 4000000 in
theorem c_10_version {K : q_K} {B M C : q_S} {a : Nat} (hT : K a = (11, 0, 100)) (hR : RC M C) (hI : MI M) (hW : WR M) (hB : q_tb K (M 50 16)) {c s : Nat} (hc : 1 ≤ c) (hs : 6 ≤ s) {v w : Int} (hv : q_iI v) (hw : q_iI w)  : q_E mX10_version 0 [some (q_R a), some (q_I v), some (q_I w), none] [] K B C c s (PB (versionF M v w) "java/lang/IndexOutOfBoundsException" "java/lang/IllegalArgumentException" "" K B) := by
  have h16 := rs_16 hW
  have hv1 := hv.1
  have hv2 := hv.2
  have hw1 := hw.1
  have hw2 := hw.2
  by_cases e0 : 0 ≤ v ∧ v < M 50 16
  · by_cases e1 : 0 ≤ w ∧ w ≤ 5
    · refine e_iload_n dX10_version_0 rfl ?_
      refine e_aload_n dX10_version_1 rfl ?_
      refine c_getR (kt := (6, 0, 104)) (by decide) (Or.inl (by decide)) dX10_version_2 f_X10_83 hT rfl (Nat.succ_ne_zero _) (fun q_2 h_2 => ?_)
      refine c_getI (by decide) dX10_version_5 f_X10_159 (Or.inl rfl) h_2 ?_
      rw [rs_made hR]
      have g_5 := rs_16 hW
      refine e_cS (as := [_, _]) dX10_version_8 k_X10_needIndex l_X10_99 s_X10_needIndex rfl rfl rfl rfl (Nat.le_of_ble_eq_true rfl) ⟨by decide, by decide⟩ (Nat.le_of_ble_eq_true rfl) (by decide) (c_nI1 hv ⟨by omega, by omega⟩ (by omega)) ?_
      refine e_iload_n dX10_version_11 rfl ?_
      refine e_iconst dX10_version_12 ?_
      refine e_iconst dX10_version_13 ?_
      refine e_cS (as := [_, _, _]) dX10_version_14 k_X10_needRange l_X10_88 s_X10_needRange rfl rfl rfl rfl (Nat.le_of_ble_eq_true rfl) ⟨by decide, by decide⟩ (Nat.le_of_ble_eq_true rfl) (by decide) (c_nR1 hw ⟨by decide, by decide⟩ ⟨by decide, by decide⟩ (by omega)) ?_
      refine e_aload_n dX10_version_17 rfl ?_
      refine c_getR (kt := (6, 0, 104)) (by decide) (Or.inl (by decide)) dX10_version_18 f_X10_83 hT rfl (Nat.succ_ne_zero _) (fun q_18 h_18 => ?_)
      refine e_iload_n dX10_version_21 rfl ?_
      refine e_cVR (as := [_]) (ci := 5) (kr := (10, 0, (vtag v))) dX10_version_22 k_X5_at l_X10_186 i_X5_at v_X5_at h_18 rfl (by decide) ⟨_, _, rfl⟩ rfl rfl rfl rfl (Nat.le_of_ble_eq_true rfl) ⟨by decide, by decide⟩ (Nat.le_of_ble_eq_true rfl) (by decide) (c_5_at h_18 hR hI hW ⟨by omega, by omega⟩) (fun q_22 h_22 => ?_)
      refine e_astore_n (ls2 := [_, _, _, _]) dX10_version_25 (Nat.le_of_ble_eq_true rfl) rfl ?_
      refine e_iload_n dX10_version_26 rfl ?_
      by_cases z0 : w = 0
      · refine e_tsIn (j := 0) (off := 33) (tgt := 60) dX10_version_27 ⟨by omega, by omega⟩ (by omega) (by omega) (by decide) (by decide) ?_
        refine e_aload_n dX10_version_60 rfl ?_
        refine c_getI (by have := vtag_rg (v := v) (by omega); omega) dX10_version_61 f_X10_300 (Or.inl rfl) h_22 ?_
        rw [rw_0 hR (v := v) ⟨by omega, by omega⟩]
        have g_61 : 0 ≤ M 17 v ∧ M 17 v ≤ 15 := hW 17 v
        exact e_iret dX10_version_64 (Or.inl rfl) (pbq0 hB hR (by unfold versionF; rw [if_neg (by omega), if_neg (by omega)]; first | (rw [if_pos z0]) | (rw [if_neg z0, if_pos z1]) | (rw [if_neg z0, if_neg z1, if_pos z2]) | (rw [if_neg z0, if_neg z1, if_neg z2, if_pos z3]; unfold vfo; by_cases e9 : M 21 v = 0; (rw [if_pos (Or.inr e9), if_pos e9]); (rw [if_neg (show ¬ (v = -1 ∨ M 21 v = 0) from fun g => g.elim (fun g => by omega) e9), if_neg e9])) | (rw [if_neg z0, if_neg z1, if_neg z2, if_neg z3, if_pos z4]; unfold vco; rw [if_neg (by omega)]) | (rw [if_neg z0, if_neg z1, if_neg z2, if_neg z3, if_neg z4]; congr 1 <;> omega)))
      by_cases z1 : w = 1
      · refine e_tsIn (j := 1) (off := 38) (tgt := 65) dX10_version_27 ⟨by omega, by omega⟩ (by omega) (by omega) (by decide) (by decide) ?_
        refine e_aload_n dX10_version_65 rfl ?_
        refine c_getI (by have := vtag_rg (v := v) (by omega); omega) dX10_version_66 f_X10_302 (Or.inl rfl) h_22 ?_
        rw [rw_1 hR (v := v) ⟨by omega, by omega⟩]
        have g_66 : 0 ≤ M 18 v ∧ M 18 v ≤ 2000 := hW 18 v
        exact e_iret dX10_version_69 (Or.inl rfl) (pbq0 hB hR (by unfold versionF; rw [if_neg (by omega), if_neg (by omega)]; first | (rw [if_pos z0]) | (rw [if_neg z0, if_pos z1]) | (rw [if_neg z0, if_neg z1, if_pos z2]) | (rw [if_neg z0, if_neg z1, if_neg z2, if_pos z3]; unfold vfo; by_cases e9 : M 21 v = 0; (rw [if_pos (Or.inr e9), if_pos e9]); (rw [if_neg (show ¬ (v = -1 ∨ M 21 v = 0) from fun g => g.elim (fun g => by omega) e9), if_neg e9])) | (rw [if_neg z0, if_neg z1, if_neg z2, if_neg z3, if_pos z4]; unfold vco; rw [if_neg (by omega)]) | (rw [if_neg z0, if_neg z1, if_neg z2, if_neg z3, if_neg z4]; congr 1 <;> omega)))
      by_cases z2 : w = 2
      · refine e_tsIn (j := 2) (off := 43) (tgt := 70) dX10_version_27 ⟨by omega, by omega⟩ (by omega) (by omega) (by decide) (by decide) ?_
        refine e_aload_n dX10_version_70 rfl ?_
        refine c_getI (by have := vtag_rg (v := v) (by omega); omega) dX10_version_71 f_X10_305 (Or.inl rfl) h_22 ?_
        rw [rw_2 hR (v := v) ⟨by omega, by omega⟩]
        have g_71 : -1 ≤ M 19 v ∧ M 19 v ≤ 2 := hW 19 v
        exact e_iret dX10_version_74 (Or.inl rfl) (pbq0 hB hR (by unfold versionF; rw [if_neg (by omega), if_neg (by omega)]; first | (rw [if_pos z0]) | (rw [if_neg z0, if_pos z1]) | (rw [if_neg z0, if_neg z1, if_pos z2]) | (rw [if_neg z0, if_neg z1, if_neg z2, if_pos z3]; unfold vfo; by_cases e9 : M 21 v = 0; (rw [if_pos (Or.inr e9), if_pos e9]); (rw [if_neg (show ¬ (v = -1 ∨ M 21 v = 0) from fun g => g.elim (fun g => by omega) e9), if_neg e9])) | (rw [if_neg z0, if_neg z1, if_neg z2, if_neg z3, if_pos z4]; unfold vco; rw [if_neg (by omega)]) | (rw [if_neg z0, if_neg z1, if_neg z2, if_neg z3, if_neg z4]; congr 1 <;> omega)))
      by_cases z3 : w = 3
      · refine e_tsIn (j := 3) (off := 48) (tgt := 75) dX10_version_27 ⟨by omega, by omega⟩ (by omega) (by omega) (by decide) (by decide) ?_
        refine e_aload_n dX10_version_75 rfl ?_
        refine c_getI (by have := vtag_rg (v := v) (by omega); omega) dX10_version_76 f_X10_258 (Or.inl rfl) h_22 ?_
        rw [rv_3 hR (v := v) ⟨by omega, by omega⟩]
        have g_76 := vfo_rg hW v
        exact e_iret dX10_version_79 (Or.inl rfl) (pbq0 hB hR (by unfold versionF; rw [if_neg (by omega), if_neg (by omega)]; first | (rw [if_pos z0]) | (rw [if_neg z0, if_pos z1]) | (rw [if_neg z0, if_neg z1, if_pos z2]) | (rw [if_neg z0, if_neg z1, if_neg z2, if_pos z3]; unfold vfo; by_cases e9 : M 21 v = 0; (rw [if_pos (Or.inr e9), if_pos e9]); (rw [if_neg (show ¬ (v = -1 ∨ M 21 v = 0) from fun g => g.elim (fun g => by omega) e9), if_neg e9])) | (rw [if_neg z0, if_neg z1, if_neg z2, if_neg z3, if_pos z4]; unfold vco; rw [if_neg (by omega)]) | (rw [if_neg z0, if_neg z1, if_neg z2, if_neg z3, if_neg z4]; congr 1 <;> omega)))
      by_cases z4 : w = 4
      · refine e_tsIn (j := 4) (off := 53) (tgt := 80) dX10_version_27 ⟨by omega, by omega⟩ (by omega) (by omega) (by decide) (by decide) ?_
        refine e_aload_n dX10_version_80 rfl ?_
        have hv_81 : vcode (vco M v) := vco_ok hI ⟨by omega, by omega⟩
        have hg_81 := hv_81.1
        refine c_getR (kt := (1, 0, (1000000 + 3 * vco M v))) (by have := vtag_rg (v := v) (by omega); omega) (Or.inl (by have := vtag_rg (v := v) (by omega); omega)) dX10_version_81 f_X10_269 h_22 (kl_vc ⟨by omega, by omega⟩ (by omega) (rv_4 hR ⟨by omega, by omega⟩)) (Nat.succ_ne_zero _) (fun q_81 h_81 => ?_)
        refine c_getI (by omega) dX10_version_84 f_X10_204 (Or.inl rfl) h_81 ?_
        rw [cc_0 (rc_C hR) (c := vco M v) (by assumption)]
        have g_84 := mlen_nn (vco M v)
        exact e_iret dX10_version_87 (Or.inl rfl) (pbq0 hB hR (by unfold versionF; rw [if_neg (by omega), if_neg (by omega)]; first | (rw [if_pos z0]) | (rw [if_neg z0, if_pos z1]) | (rw [if_neg z0, if_neg z1, if_pos z2]) | (rw [if_neg z0, if_neg z1, if_neg z2, if_pos z3]; unfold vfo; by_cases e9 : M 21 v = 0; (rw [if_pos (Or.inr e9), if_pos e9]); (rw [if_neg (show ¬ (v = -1 ∨ M 21 v = 0) from fun g => g.elim (fun g => by omega) e9), if_neg e9])) | (rw [if_neg z0, if_neg z1, if_neg z2, if_neg z3, if_pos z4]; unfold vco; rw [if_neg (by omega)]) | (rw [if_neg z0, if_neg z1, if_neg z2, if_neg z3, if_neg z4]; congr 1 <;> omega)))
      refine e_tsOut (tgt := 88) dX10_version_27 ⟨by omega, by omega⟩ (by omega) (by decide) ?_
      refine e_aload_n dX10_version_88 rfl ?_
      refine c_getI (by have := vtag_rg (v := v) (by omega); omega) dX10_version_89 f_X10_241 (Or.inr rfl) h_22 ?_
      rw [rw_5 hR (v := v) ⟨by omega, by omega⟩]
      have g_89 : 0 ≤ M 22 v ∧ M 22 v ≤ 1 := hW 22 v
      refine e_if_eq (tgt := 99) dX10_version_92 (by decide) ⟨by omega, by omega⟩ (fun c_92 => ?_) (fun c_92 => ?_)
      · refine e_iconst dX10_version_99 ?_
        exact e_iret dX10_version_100 (Or.inl rfl) (pbq0 hB hR (by unfold versionF; rw [if_neg (by omega), if_neg (by omega)]; first | (rw [if_pos z0]) | (rw [if_neg z0, if_pos z1]) | (rw [if_neg z0, if_neg z1, if_pos z2]) | (rw [if_neg z0, if_neg z1, if_neg z2, if_pos z3]; unfold vfo; by_cases e9 : M 21 v = 0; (rw [if_pos (Or.inr e9), if_pos e9]); (rw [if_neg (show ¬ (v = -1 ∨ M 21 v = 0) from fun g => g.elim (fun g => by omega) e9), if_neg e9])) | (rw [if_neg z0, if_neg z1, if_neg z2, if_neg z3, if_pos z4]; unfold vco; rw [if_neg (by omega)]) | (rw [if_neg z0, if_neg z1, if_neg z2, if_neg z3, if_neg z4]; congr 1 <;> omega)))
      · refine e_iconst dX10_version_95 ?_
        refine e_goto (tgt := 100) dX10_version_96 (by decide) ?_
        exact e_iret dX10_version_100 (Or.inl rfl) (pbq0 hB hR (by unfold versionF; rw [if_neg (by omega), if_neg (by omega)]; first | (rw [if_pos z0]) | (rw [if_neg z0, if_pos z1]) | (rw [if_neg z0, if_neg z1, if_pos z2]) | (rw [if_neg z0, if_neg z1, if_neg z2, if_pos z3]; unfold vfo; by_cases e9 : M 21 v = 0; (rw [if_pos (Or.inr e9), if_pos e9]); (rw [if_neg (show ¬ (v = -1 ∨ M 21 v = 0) from fun g => g.elim (fun g => by omega) e9), if_neg e9])) | (rw [if_neg z0, if_neg z1, if_neg z2, if_neg z3, if_pos z4]; unfold vco; rw [if_neg (by omega)]) | (rw [if_neg z0, if_neg z1, if_neg z2, if_neg z3, if_neg z4]; congr 1 <;> omega)))
    · refine e_iload_n dX10_version_0 rfl ?_
      refine e_aload_n dX10_version_1 rfl ?_
      refine c_getR (kt := (6, 0, 104)) (by decide) (Or.inl (by decide)) dX10_version_2 f_X10_83 hT rfl (Nat.succ_ne_zero _) (fun q_2 h_2 => ?_)
      refine c_getI (by decide) dX10_version_5 f_X10_159 (Or.inl rfl) h_2 ?_
      rw [rs_made hR]
      have g_5 := rs_16 hW
      refine e_cS (as := [_, _]) dX10_version_8 k_X10_needIndex l_X10_99 s_X10_needIndex rfl rfl rfl rfl (Nat.le_of_ble_eq_true rfl) ⟨by decide, by decide⟩ (Nat.le_of_ble_eq_true rfl) (by decide) (c_nI1 hv ⟨by omega, by omega⟩ (by omega)) ?_
      refine e_iload_n dX10_version_11 rfl ?_
      refine e_iconst dX10_version_12 ?_
      refine e_iconst dX10_version_13 ?_
      exact e_cST (as := [_, _, _]) dX10_version_14 k_X10_needRange l_X10_88 s_X10_needRange rfl rfl rfl rfl (Nat.le_of_ble_eq_true rfl) ⟨by decide, by decide⟩ (Nat.le_of_ble_eq_true rfl) (by decide) (c_nR0 hw ⟨by decide, by decide⟩ ⟨by decide, by decide⟩ hc hs (by omega)) (pbq2 hB hR (by unfold versionF; rw [if_neg (by omega), if_pos (by omega)]))
  · refine e_iload_n dX10_version_0 rfl ?_
    refine e_aload_n dX10_version_1 rfl ?_
    refine c_getR (kt := (6, 0, 104)) (by decide) (Or.inl (by decide)) dX10_version_2 f_X10_83 hT rfl (Nat.succ_ne_zero _) (fun q_2 h_2 => ?_)
    refine c_getI (by decide) dX10_version_5 f_X10_159 (Or.inl rfl) h_2 ?_
    rw [rs_made hR]
    have g_5 := rs_16 hW
    exact e_cST (as := [_, _]) dX10_version_8 k_X10_needIndex l_X10_99 s_X10_needIndex rfl rfl rfl rfl (Nat.le_of_ble_eq_true rfl) ⟨by decide, by decide⟩ (Nat.le_of_ble_eq_true rfl) (by decide) (c_nI0 hv ⟨by omega, by omega⟩ hc hs (by omega)) (pbq1 hB hR (by unfold versionF; rw [if_pos (by omega)]))
set_option maxRecDepth 20000 in
set_option maxHeartbeats 4000000 in
theorem c_8_countDamaged_l {K : q_K} {B M C : q_S} {l : Nat} (hL : K l = (9, 0, 105)) (hR : RC M C) (hI : MI M) (hW : WR M) : ∀ (r k : Nat) (n i : Int), (k + r = (C 105 0).toNat) → (n = sumF (fun i => C 128 i) k) → (i = k) → (0 ≤ n ∧ n ≤ k) → q_E mX8_countDamaged 4 [some (q_R l), some (q_I n), some (q_I i)] [] K B C 0 0 (e_is (some (q_I (sumF (fun i => C 128 i) (C 105 0).toNat))) K B C) := by
  intro r
  induction r with
  | zero =>
    intro k n i h1 h2 h3 h4
    have hn8 := rt_n (rc_T hR)
    refine e_iload_n dX8_countDamaged_4 rfl ?_
    refine e_aload_n dX8_countDamaged_5 rfl ?_
    refine c_getI (by decide) dX8_countDamaged_6 f_X8_9 (Or.inl rfl) hL ?_
    refine e_icmp_ge (tgt := 35) dX8_countDamaged_9 (by decide) ⟨by omega, by omega⟩ ⟨by omega, by omega⟩ (fun c_9 => ?_) (fun c_9 => ?_)
    · refine e_iload_n dX8_countDamaged_35 rfl ?_
      exact e_iret dX8_countDamaged_36 (Or.inl rfl) (e_ok (by rw [h2, show (C 105 0).toNat = k by omega]) rfl rfl)
    · exfalso; omega
  | succ r ih =>
    intro k n i h1 h2 h3 h4
    have hT8 := rc_T hR
    have hn8 := rt_n hT8
    have hi8 : i < C 105 0 → C 128 i = 0 ∨ C 128 i = 1 := fun h => by
      have h1 := rt_i hT8 (i := i) ⟨by omega, h⟩
      have h2 : 0 ≤ M 32 (C 126 i) ∧ M 32 (C 126 i) ≤ 1 := hW 32 _
      omega
    refine e_iload_n dX8_countDamaged_4 rfl ?_
    refine e_aload_n dX8_countDamaged_5 rfl ?_
    refine c_getI (by decide) dX8_countDamaged_6 f_X8_9 (Or.inl rfl) hL ?_
    refine e_icmp_ge (tgt := 35) dX8_countDamaged_9 (by decide) ⟨by omega, by omega⟩ ⟨by omega, by omega⟩ (fun c_9 => ?_) (fun c_9 => ?_)
    · exfalso; omega
    · have hi9 := hi8 (by omega)
      refine e_iload_n dX8_countDamaged_12 rfl ?_
      refine e_aload_n dX8_countDamaged_13 rfl ?_
      refine c_getR (kt := (22, 512, 128)) (by decide) (Or.inl (by decide)) dX8_countDamaged_14 f_X8_28 hL rfl (Nat.succ_ne_zero _) (fun q_14 h_14 => ?_)
      refine e_iload_n dX8_countDamaged_17 rfl ?_
      refine c_zald (by decide) dX8_countDamaged_18 h_14 (by omega) (by omega) ?_
      refine e_if_eq (tgt := 26) dX8_countDamaged_19 (by decide) ⟨by omega, by omega⟩ (fun c_19 => ?_) (fun c_19 => ?_)
      · refine e_iconst dX8_countDamaged_26 ?_
        refine e_iadd dX8_countDamaged_27 ?_
        refine e_istore_n (ls2 := [_, _, _]) dX8_countDamaged_28 (Nat.le_of_ble_eq_true rfl) rfl ?_
        refine e_iinc (ls2 := [_, _, _]) dX8_countDamaged_29 rfl (Nat.le_of_ble_eq_true rfl) rfl ?_
        refine e_goto (tgt := 4) dX8_countDamaged_32 (by decide) ?_
        exact ih (k + 1) _ _ (by omega) (by simp only [sumF, ← h2, ← h3]; omega) (by omega) (by omega)
      · refine e_iconst dX8_countDamaged_22 ?_
        refine e_goto (tgt := 27) dX8_countDamaged_23 (by decide) ?_
        refine e_iadd dX8_countDamaged_27 ?_
        refine e_istore_n (ls2 := [_, _, _]) dX8_countDamaged_28 (Nat.le_of_ble_eq_true rfl) rfl ?_
        refine e_iinc (ls2 := [_, _, _]) dX8_countDamaged_29 rfl (Nat.le_of_ble_eq_true rfl) rfl ?_
        refine e_goto (tgt := 4) dX8_countDamaged_32 (by decide) ?_
        exact ih (k + 1) _ _ (by omega) (by simp only [sumF, ← h2, ← h3]; omega) (by omega) (by omega)
set_option maxRecDepth 20000 in
set_option maxHeartbeats 4000000 in
theorem c_8_countDamaged {K : q_K} {B M C : q_S} {l : Nat} (hL : K l = (9, 0, 105)) (hR : RC M C) (hI : MI M) (hW : WR M) : q_E mX8_countDamaged 0 [some (q_R l), none, none] [] K B C 0 0 (e_is (some (q_I (sumF (fun i => C 128 i) (C 105 0).toNat))) K B C) := by
  have hn8 := rt_n (rc_T hR)
  refine e_iconst dX8_countDamaged_0 ?_
  refine e_istore_n (ls2 := [_, _, _]) dX8_countDamaged_1 (Nat.le_of_ble_eq_true rfl) rfl ?_
  refine e_iconst dX8_countDamaged_2 ?_
  refine e_istore_n (ls2 := [_, _, _]) dX8_countDamaged_3 (Nat.le_of_ble_eq_true rfl) rfl ?_
  exact c_8_countDamaged_l hL hR hI hW (C 105 0).toNat 0 0 0 (by omega) rfl rfl ⟨by decide, by decide⟩
set_option maxRecDepth 20000 in
set_option maxHeartbeats 4000000 in
theorem c_8_countSecond_l {K : q_K} {B M C : q_S} {l : Nat} (hL : K l = (9, 0, 105)) (hR : RC M C) (hI : MI M) (hW : WR M) : ∀ (r k : Nat) (n i : Int), (k + r = (C 105 0).toNat) → (n = sumF (fun i => C 129 i) k) → (i = k) → (0 ≤ n ∧ n ≤ k) → q_E mX8_countSecond 4 [some (q_R l), some (q_I n), some (q_I i)] [] K B C 0 0 (e_is (some (q_I (sumF (fun i => C 129 i) (C 105 0).toNat))) K B C) := by
  intro r
  induction r with
  | zero =>
    intro k n i h1 h2 h3 h4
    have hn8 := rt_n (rc_T hR)
    refine e_iload_n dX8_countSecond_4 rfl ?_
    refine e_aload_n dX8_countSecond_5 rfl ?_
    refine c_getI (by decide) dX8_countSecond_6 f_X8_9 (Or.inl rfl) hL ?_
    refine e_icmp_ge (tgt := 35) dX8_countSecond_9 (by decide) ⟨by omega, by omega⟩ ⟨by omega, by omega⟩ (fun c_9 => ?_) (fun c_9 => ?_)
    · refine e_iload_n dX8_countSecond_35 rfl ?_
      exact e_iret dX8_countSecond_36 (Or.inl rfl) (e_ok (by rw [h2, show (C 105 0).toNat = k by omega]) rfl rfl)
    · exfalso; omega
  | succ r ih =>
    intro k n i h1 h2 h3 h4
    have hT8 := rc_T hR
    have hn8 := rt_n hT8
    have hi8 : i < C 105 0 → C 129 i = 0 ∨ C 129 i = 1 := fun h => by
      have h1 := rt_i hT8 (i := i) ⟨by omega, h⟩
      have h2 : 0 ≤ M 33 (C 126 i) ∧ M 33 (C 126 i) ≤ 1 := hW 33 _
      omega
    refine e_iload_n dX8_countSecond_4 rfl ?_
    refine e_aload_n dX8_countSecond_5 rfl ?_
    refine c_getI (by decide) dX8_countSecond_6 f_X8_9 (Or.inl rfl) hL ?_
    refine e_icmp_ge (tgt := 35) dX8_countSecond_9 (by decide) ⟨by omega, by omega⟩ ⟨by omega, by omega⟩ (fun c_9 => ?_) (fun c_9 => ?_)
    · exfalso; omega
    · have hi9 := hi8 (by omega)
      refine e_iload_n dX8_countSecond_12 rfl ?_
      refine e_aload_n dX8_countSecond_13 rfl ?_
      refine c_getR (kt := (22, 512, 129)) (by decide) (Or.inl (by decide)) dX8_countSecond_14 f_X8_32 hL rfl (Nat.succ_ne_zero _) (fun q_14 h_14 => ?_)
      refine e_iload_n dX8_countSecond_17 rfl ?_
      refine c_zald (by decide) dX8_countSecond_18 h_14 (by omega) (by omega) ?_
      refine e_if_eq (tgt := 26) dX8_countSecond_19 (by decide) ⟨by omega, by omega⟩ (fun c_19 => ?_) (fun c_19 => ?_)
      · refine e_iconst dX8_countSecond_26 ?_
        refine e_iadd dX8_countSecond_27 ?_
        refine e_istore_n (ls2 := [_, _, _]) dX8_countSecond_28 (Nat.le_of_ble_eq_true rfl) rfl ?_
        refine e_iinc (ls2 := [_, _, _]) dX8_countSecond_29 rfl (Nat.le_of_ble_eq_true rfl) rfl ?_
        refine e_goto (tgt := 4) dX8_countSecond_32 (by decide) ?_
        exact ih (k + 1) _ _ (by omega) (by simp only [sumF, ← h2, ← h3]; omega) (by omega) (by omega)
      · refine e_iconst dX8_countSecond_22 ?_
        refine e_goto (tgt := 27) dX8_countSecond_23 (by decide) ?_
        refine e_iadd dX8_countSecond_27 ?_
        refine e_istore_n (ls2 := [_, _, _]) dX8_countSecond_28 (Nat.le_of_ble_eq_true rfl) rfl ?_
        refine e_iinc (ls2 := [_, _, _]) dX8_countSecond_29 rfl (Nat.le_of_ble_eq_true rfl) rfl ?_
        refine e_goto (tgt := 4) dX8_countSecond_32 (by decide) ?_
        exact ih (k + 1) _ _ (by omega) (by simp only [sumF, ← h2, ← h3]; omega) (by omega) (by omega)
set_option maxRecDepth 20000 in
set_option maxHeartbeats 4000000 in
theorem c_8_countSecond {K : q_K} {B M C : q_S} {l : Nat} (hL : K l = (9, 0, 105)) (hR : RC M C) (hI : MI M) (hW : WR M) : q_E mX8_countSecond 0 [some (q_R l), none, none] [] K B C 0 0 (e_is (some (q_I (sumF (fun i => C 129 i) (C 105 0).toNat))) K B C) := by
  have hn8 := rt_n (rc_T hR)
  refine e_iconst dX8_countSecond_0 ?_
  refine e_istore_n (ls2 := [_, _, _]) dX8_countSecond_1 (Nat.le_of_ble_eq_true rfl) rfl ?_
  refine e_iconst dX8_countSecond_2 ?_
  refine e_istore_n (ls2 := [_, _, _]) dX8_countSecond_3 (Nat.le_of_ble_eq_true rfl) rfl ?_
  exact c_8_countSecond_l hL hR hI hW (C 105 0).toNat 0 0 0 (by omega) rfl rfl ⟨by decide, by decide⟩
set_option maxRecDepth 20000 in
set_option maxHeartbeats 4000000 in
theorem c_8_countInPack_l {K : q_K} {B M C : q_S} {l : Nat} (hL : K l = (9, 0, 105)) (hR : RC M C) (hI : MI M) (hW : WR M) {w : Int} (hw : 0 ≤ w ∧ w ≤ 1500) : ∀ (r k : Nat) (n i : Int), (k + r = (C 105 0).toNat) → (n = sumF (fun i => if C 127 i = w then 1 else 0) k) → (i = k) → (0 ≤ n ∧ n ≤ k) → q_E mX8_countInPack 4 [some (q_R l), some (q_I w), some (q_I n), some (q_I i)] [] K B C 0 0 (e_is (some (q_I (cnt M (w + 1) 20000))) K B C) := by
  intro r
  induction r with
  | zero =>
    intro k n i h1 h2 h3 h4
    have hn8 := rt_n (rc_T hR)
    refine e_iload_n dX8_countInPack_4 rfl ?_
    refine e_aload_n dX8_countInPack_5 rfl ?_
    refine c_getI (by decide) dX8_countInPack_6 f_X8_9 (Or.inl rfl) hL ?_
    refine e_icmp_ge (tgt := 36) dX8_countInPack_9 (by decide) ⟨by omega, by omega⟩ ⟨by omega, by omega⟩ (fun c_9 => ?_) (fun c_9 => ?_)
    · refine e_iload_n dX8_countInPack_36 rfl ?_
      refine e_iret dX8_countInPack_37 (Or.inl rfl) ?_
      have hT8 := rc_T hR
      have e1 := rt_sum hT8 (fun x => if M 31 x = w + 1 then 1 else 0) (fun x a b e => if_neg (by omega))
      have e2 := sumF_congr (f := fun i => if C 127 i = w then 1 else 0) (g := fun i => if M 31 (C 126 i) = w + 1 then 1 else 0) (C 105 0).toNat (fun j a b => by
        have h1 := rt_i hT8 (i := j) ⟨a, by omega⟩
        show (if C 127 j = w then (1 : Int) else 0) = if M 31 (C 126 j) = w + 1 then 1 else 0
        rw [h1.2.1]
        by_cases e : C 127 j = w
        · rw [if_pos e, if_pos (by omega)]
        · rw [if_neg e, if_neg (by omega)])
      exact e_ok (by rw [h2, show k = (C 105 0).toNat by omega, e2, e1, cnt_sum]) rfl rfl
    · exfalso; omega
  | succ r ih =>
    intro k n i h1 h2 h3 h4
    have hT8 := rc_T hR
    have hn8 := rt_n hT8
    have hi8 : i < C 105 0 → 0 ≤ C 127 i ∧ C 127 i ≤ 1500 := fun h => by
      have h1 := rt_i hT8 (i := i) ⟨by omega, h⟩
      have h2 : 0 ≤ M 31 (C 126 i) ∧ M 31 (C 126 i) ≤ 1500 := hW 31 _
      omega
    refine e_iload_n dX8_countInPack_4 rfl ?_
    refine e_aload_n dX8_countInPack_5 rfl ?_
    refine c_getI (by decide) dX8_countInPack_6 f_X8_9 (Or.inl rfl) hL ?_
    refine e_icmp_ge (tgt := 36) dX8_countInPack_9 (by decide) ⟨by omega, by omega⟩ ⟨by omega, by omega⟩ (fun c_9 => ?_) (fun c_9 => ?_)
    · exfalso; omega
    · have hi9 := hi8 (by omega)
      refine e_iload_n dX8_countInPack_12 rfl ?_
      refine e_aload_n dX8_countInPack_13 rfl ?_
      refine c_getR (kt := (20, 512, 127)) (by decide) (Or.inl (by decide)) dX8_countInPack_14 f_X8_25 hL rfl (Nat.succ_ne_zero _) (fun q_14 h_14 => ?_)
      refine e_iload_n dX8_countInPack_17 rfl ?_
      refine c_iald (by decide) dX8_countInPack_18 h_14 (by omega) (by omega) ?_
      refine e_iload_n dX8_countInPack_19 rfl ?_
      refine e_icmp_ne (tgt := 27) dX8_countInPack_20 (by decide) ⟨by omega, by omega⟩ ⟨by omega, by omega⟩ (fun c_20 => ?_) (fun c_20 => ?_)
      · refine e_iconst dX8_countInPack_27 ?_
        refine e_iadd dX8_countInPack_28 ?_
        refine e_istore_n (ls2 := [_, _, _, _]) dX8_countInPack_29 (Nat.le_of_ble_eq_true rfl) rfl ?_
        refine e_iinc (ls2 := [_, _, _, _]) dX8_countInPack_30 rfl (Nat.le_of_ble_eq_true rfl) rfl ?_
        refine e_goto (tgt := 4) dX8_countInPack_33 (by decide) ?_
        exact ih (k + 1) _ _ (by omega) (by simp only [sumF, ← h2, ← h3]; first | rw [if_pos c_20] | rw [if_neg c_20]) (by omega) (by omega)
      · refine e_iconst dX8_countInPack_23 ?_
        refine e_goto (tgt := 28) dX8_countInPack_24 (by decide) ?_
        refine e_iadd dX8_countInPack_28 ?_
        refine e_istore_n (ls2 := [_, _, _, _]) dX8_countInPack_29 (Nat.le_of_ble_eq_true rfl) rfl ?_
        refine e_iinc (ls2 := [_, _, _, _]) dX8_countInPack_30 rfl (Nat.le_of_ble_eq_true rfl) rfl ?_
        refine e_goto (tgt := 4) dX8_countInPack_33 (by decide) ?_
        exact ih (k + 1) _ _ (by omega) (by simp only [sumF, ← h2, ← h3]; first | rw [if_pos c_20] | rw [if_neg c_20]) (by omega) (by omega)
set_option maxRecDepth 20000 in
set_option maxHeartbeats 4000000 in
theorem c_8_countInPack {K : q_K} {B M C : q_S} {l : Nat} (hL : K l = (9, 0, 105)) (hR : RC M C) (hI : MI M) (hW : WR M) {w : Int} (hw : 0 ≤ w ∧ w ≤ 1500) : q_E mX8_countInPack 0 [some (q_R l), some (q_I w), none, none] [] K B C 0 0 (e_is (some (q_I (cnt M (w + 1) 20000))) K B C) := by
  have hn8 := rt_n (rc_T hR)
  refine e_iconst dX8_countInPack_0 ?_
  refine e_istore_n (ls2 := [_, _, _, _]) dX8_countInPack_1 (Nat.le_of_ble_eq_true rfl) rfl ?_
  refine e_iconst dX8_countInPack_2 ?_
  refine e_istore_n (ls2 := [_, _, _, _]) dX8_countInPack_3 (Nat.le_of_ble_eq_true rfl) rfl ?_
  exact c_8_countInPack_l hL hR hI hW hw (C 105 0).toNat 0 0 0 (by omega) rfl rfl ⟨by decide, by decide⟩
theorem count_0 {M C : q_S} (h : RT M C) : smB M 31 20000 = C 105 0 := by
  have hn := rt_n h
  have e1 := rt_sum h (fun x => if 0 < M 31 x then 1 else 0) (fun x a b e => if_neg (by omega))
  rw [smB_sum, ← e1]
  have : ∀ n : Nat, (n : Int) ≤ C 105 0 → sumF (fun i => if 0 < M 31 (C 126 i) then 1 else 0) n = n := by
    intro n
    induction n with
    | zero => intro _; rfl
    | succ n ih =>
      intro hn
      have hi := rt_i h (i := n) ⟨by omega, by omega⟩
      simp only [sumF]
      rw [ih (by omega), if_pos (by omega)]; omega
  rw [this _ (by omega)]; omega
theorem count_d {M C : q_S} (h : RT M C) (t : Int) (ht : t = 32 ∨ t = 33) : sm M t 20000 = sumF (fun i => C (t + 96) i) (C 105 0).toNat := by
  have e1 := rt_sum h (fun x => M t x) (fun x a b e => by have := h.2.2.2.2 x a b e; rcases ht with rfl | rfl; exact this.1; exact this.2)
  rw [sm_sum, ← e1]
  refine sumF_congr _ (fun j a b => ?_)
  have hi := rt_i h (i := j) ⟨a, by have := rt_n h; omega⟩
  rcases ht with rfl | rfl
  · exact hi.2.2.2.1
  · exact hi.2.2.2.2
theorem countF_v {M : q_S} {w : Int} (h : ¬ ¬ (0 ≤ w ∧ w ≤ 7)) : countF M w = (cvF M w (smB M 31 20000) (sm M 32 20000) (sm M 33 20000), thr M 0) := by
  unfold countF cvF
  rw [if_neg h]
set_option maxRecDepth 20000 in
set_option maxHeartbeats 4000000 in
theorem c_10_count {K : q_K} {B M C : q_S} {a : Nat} (hT : K a = (11, 0, 100)) (hR : RC M C) (hI : MI M) (hW : WR M) (hB : q_tb K (M 50 16)) {c s : Nat} (hc : 1 ≤ c) (hs : 6 ≤ s) {w : Int} (hw : q_iI w) (h36 : M 50 36 ≤ M 50 16) : q_E mX10_count 0 [some (q_R a), some (q_I w)] [] K B C c s (PB (countF M w) "java/lang/IllegalArgumentException" "" "" K B) := by
  have hw1 := hw.1
  have hw2 := hw.2
  by_cases e0 : 0 ≤ w ∧ w ≤ 7
  · refine e_iload_n dX10_count_0 rfl ?_
    refine e_iconst dX10_count_1 ?_
    refine e_bipush dX10_count_2 (by decide) ?_
    refine e_cS (as := [_, _, _]) dX10_count_4 k_X10_needRange l_X10_88 s_X10_needRange rfl rfl rfl rfl (Nat.le_of_ble_eq_true rfl) ⟨by decide, by decide⟩ (Nat.le_of_ble_eq_true rfl) (by decide) (c_nR1 hw ⟨by decide, by decide⟩ ⟨by decide, by decide⟩ (by omega)) ?_
    refine e_iload_n dX10_count_7 rfl ?_
    by_cases z0 : w = 0
    · refine e_tsIn (j := 0) (off := 44) (tgt := 52) dX10_count_8 ⟨by omega, by omega⟩ (by omega) (by omega) (by decide) (by decide) ?_
      refine e_aload_n dX10_count_52 rfl ?_
      refine c_getR (kt := (9, 0, 105)) (by decide) (Or.inl (by decide)) dX10_count_53 f_X10_29 hT rfl (Nat.succ_ne_zero _) (fun q_53 h_53 => ?_)
      refine c_getI (by decide) dX10_count_56 f_X10_311 (Or.inl rfl) h_53 ?_
      exact e_iret dX10_count_59 (Or.inl rfl) (pbq0 hB hR (by rw [countF_v (by omega)]; unfold cvF; first | (rw [if_pos z0, count_0 (rc_T hR)]) | (rw [if_neg z0, if_pos z1]) | (rw [if_neg z0, if_neg z1, if_pos z2, count_d (rc_T hR) 32 (Or.inl rfl)]; rfl) | (rw [if_neg z0, if_neg z1, if_neg z2, if_pos z3, count_d (rc_T hR) 33 (Or.inr rfl)]; rfl) | (rw [if_neg z0, if_neg z1, if_neg z2, if_neg z3, if_pos z4]) | (rw [if_neg z0, if_neg z1, if_neg z2, if_neg z3, if_neg z4, if_pos z5]) | (rw [if_neg z0, if_neg z1, if_neg z2, if_neg z3, if_neg z4, if_neg z5, if_pos z6]) | (rw [if_neg z0, if_neg z1, if_neg z2, if_neg z3, if_neg z4, if_neg z5, if_neg z6])))
    by_cases z1 : w = 1
    · refine e_tsIn (j := 1) (off := 52) (tgt := 60) dX10_count_8 ⟨by omega, by omega⟩ (by omega) (by omega) (by decide) (by decide) ?_
      refine e_aload_n dX10_count_60 rfl ?_
      refine c_getR (kt := (9, 0, 105)) (by decide) (Or.inl (by decide)) dX10_count_61 f_X10_29 hT rfl (Nat.succ_ne_zero _) (fun q_61 h_61 => ?_)
      refine c_getI (by decide) dX10_count_64 f_X10_259 (Or.inl rfl) h_61 ?_
      rw [rs_packs hR]
      have g_64 := rs_34 hW
      exact e_iret dX10_count_67 (Or.inl rfl) (pbq0 hB hR (by rw [countF_v (by omega)]; unfold cvF; first | (rw [if_pos z0, count_0 (rc_T hR)]) | (rw [if_neg z0, if_pos z1]) | (rw [if_neg z0, if_neg z1, if_pos z2, count_d (rc_T hR) 32 (Or.inl rfl)]; rfl) | (rw [if_neg z0, if_neg z1, if_neg z2, if_pos z3, count_d (rc_T hR) 33 (Or.inr rfl)]; rfl) | (rw [if_neg z0, if_neg z1, if_neg z2, if_neg z3, if_pos z4]) | (rw [if_neg z0, if_neg z1, if_neg z2, if_neg z3, if_neg z4, if_pos z5]) | (rw [if_neg z0, if_neg z1, if_neg z2, if_neg z3, if_neg z4, if_neg z5, if_pos z6]) | (rw [if_neg z0, if_neg z1, if_neg z2, if_neg z3, if_neg z4, if_neg z5, if_neg z6])))
    by_cases z2 : w = 2
    · refine e_tsIn (j := 2) (off := 60) (tgt := 68) dX10_count_8 ⟨by omega, by omega⟩ (by omega) (by omega) (by decide) (by decide) ?_
      refine e_aload_n dX10_count_68 rfl ?_
      refine c_getR (kt := (9, 0, 105)) (by decide) (Or.inl (by decide)) dX10_count_69 f_X10_29 hT rfl (Nat.succ_ne_zero _) (fun q_69 h_69 => ?_)
      refine e_cV (as := []) (ci := 8) dX10_count_72 k_X8_countDamaged l_X10_312 i_X8_countDamaged v_X8_countDamaged h_69 rfl (by decide) ⟨_, _, rfl⟩ rfl rfl rfl rfl (Nat.le_of_ble_eq_true rfl) ⟨by decide, by decide⟩ (Nat.le_of_ble_eq_true rfl) (by decide) (c_8_countDamaged h_69 hR hI hW) ?_
      exact e_iret dX10_count_75 (Or.inl rfl) (pbq0 hB hR (by rw [countF_v (by omega)]; unfold cvF; first | (rw [if_pos z0, count_0 (rc_T hR)]) | (rw [if_neg z0, if_pos z1]) | (rw [if_neg z0, if_neg z1, if_pos z2, count_d (rc_T hR) 32 (Or.inl rfl)]; rfl) | (rw [if_neg z0, if_neg z1, if_neg z2, if_pos z3, count_d (rc_T hR) 33 (Or.inr rfl)]; rfl) | (rw [if_neg z0, if_neg z1, if_neg z2, if_neg z3, if_pos z4]) | (rw [if_neg z0, if_neg z1, if_neg z2, if_neg z3, if_neg z4, if_pos z5]) | (rw [if_neg z0, if_neg z1, if_neg z2, if_neg z3, if_neg z4, if_neg z5, if_pos z6]) | (rw [if_neg z0, if_neg z1, if_neg z2, if_neg z3, if_neg z4, if_neg z5, if_neg z6])))
    by_cases z3 : w = 3
    · refine e_tsIn (j := 3) (off := 68) (tgt := 76) dX10_count_8 ⟨by omega, by omega⟩ (by omega) (by omega) (by decide) (by decide) ?_
      refine e_aload_n dX10_count_76 rfl ?_
      refine c_getR (kt := (9, 0, 105)) (by decide) (Or.inl (by decide)) dX10_count_77 f_X10_29 hT rfl (Nat.succ_ne_zero _) (fun q_77 h_77 => ?_)
      refine e_cV (as := []) (ci := 8) dX10_count_80 k_X8_countSecond l_X10_315 i_X8_countSecond v_X8_countSecond h_77 rfl (by decide) ⟨_, _, rfl⟩ rfl rfl rfl rfl (Nat.le_of_ble_eq_true rfl) ⟨by decide, by decide⟩ (Nat.le_of_ble_eq_true rfl) (by decide) (c_8_countSecond h_77 hR hI hW) ?_
      exact e_iret dX10_count_83 (Or.inl rfl) (pbq0 hB hR (by rw [countF_v (by omega)]; unfold cvF; first | (rw [if_pos z0, count_0 (rc_T hR)]) | (rw [if_neg z0, if_pos z1]) | (rw [if_neg z0, if_neg z1, if_pos z2, count_d (rc_T hR) 32 (Or.inl rfl)]; rfl) | (rw [if_neg z0, if_neg z1, if_neg z2, if_pos z3, count_d (rc_T hR) 33 (Or.inr rfl)]; rfl) | (rw [if_neg z0, if_neg z1, if_neg z2, if_neg z3, if_pos z4]) | (rw [if_neg z0, if_neg z1, if_neg z2, if_neg z3, if_neg z4, if_pos z5]) | (rw [if_neg z0, if_neg z1, if_neg z2, if_neg z3, if_neg z4, if_neg z5, if_pos z6]) | (rw [if_neg z0, if_neg z1, if_neg z2, if_neg z3, if_neg z4, if_neg z5, if_neg z6])))
    by_cases z4 : w = 4
    · refine e_tsIn (j := 4) (off := 76) (tgt := 84) dX10_count_8 ⟨by omega, by omega⟩ (by omega) (by omega) (by decide) (by decide) ?_
      refine e_aload_n dX10_count_84 rfl ?_
      refine c_getR (kt := (6, 0, 104)) (by decide) (Or.inl (by decide)) dX10_count_85 f_X10_83 hT rfl (Nat.succ_ne_zero _) (fun q_85 h_85 => ?_)
      refine e_aload_n dX10_count_88 rfl ?_
      refine c_getI (by decide) dX10_count_89 f_X10_70 (Or.inl rfl) hT ?_
      rw [rs_foll hR]
      have g_89 := rs_36 hW
      refine e_cV (as := [_]) (ci := 5) dX10_count_92 k_X5_countKeptFrom l_X10_318 i_X5_countKeptFrom v_X5_countKeptFrom h_85 rfl (by decide) ⟨_, _, rfl⟩ rfl rfl rfl rfl (Nat.le_of_ble_eq_true rfl) ⟨by decide, by decide⟩ (Nat.le_of_ble_eq_true rfl) (by decide) (c_5_countKeptFrom h_85 hR hI hW h36) ?_
      exact e_iret dX10_count_95 (Or.inl rfl) (pbq0 hB hR (by rw [countF_v (by omega)]; unfold cvF; first | (rw [if_pos z0, count_0 (rc_T hR)]) | (rw [if_neg z0, if_pos z1]) | (rw [if_neg z0, if_neg z1, if_pos z2, count_d (rc_T hR) 32 (Or.inl rfl)]; rfl) | (rw [if_neg z0, if_neg z1, if_neg z2, if_pos z3, count_d (rc_T hR) 33 (Or.inr rfl)]; rfl) | (rw [if_neg z0, if_neg z1, if_neg z2, if_neg z3, if_pos z4]) | (rw [if_neg z0, if_neg z1, if_neg z2, if_neg z3, if_neg z4, if_pos z5]) | (rw [if_neg z0, if_neg z1, if_neg z2, if_neg z3, if_neg z4, if_neg z5, if_pos z6]) | (rw [if_neg z0, if_neg z1, if_neg z2, if_neg z3, if_neg z4, if_neg z5, if_neg z6])))
    by_cases z5 : w = 5
    · refine e_tsIn (j := 5) (off := 88) (tgt := 96) dX10_count_8 ⟨by omega, by omega⟩ (by omega) (by omega) (by decide) (by decide) ?_
      refine e_aload_n dX10_count_96 rfl ?_
      refine c_getI (by decide) dX10_count_97 f_X10_64 (Or.inl rfl) hT ?_
      rw [rs_conf hR]
      have g_97 := rs_37 hW
      exact e_iret dX10_count_100 (Or.inl rfl) (pbq0 hB hR (by rw [countF_v (by omega)]; unfold cvF; first | (rw [if_pos z0, count_0 (rc_T hR)]) | (rw [if_neg z0, if_pos z1]) | (rw [if_neg z0, if_neg z1, if_pos z2, count_d (rc_T hR) 32 (Or.inl rfl)]; rfl) | (rw [if_neg z0, if_neg z1, if_neg z2, if_pos z3, count_d (rc_T hR) 33 (Or.inr rfl)]; rfl) | (rw [if_neg z0, if_neg z1, if_neg z2, if_neg z3, if_pos z4]) | (rw [if_neg z0, if_neg z1, if_neg z2, if_neg z3, if_neg z4, if_pos z5]) | (rw [if_neg z0, if_neg z1, if_neg z2, if_neg z3, if_neg z4, if_neg z5, if_pos z6]) | (rw [if_neg z0, if_neg z1, if_neg z2, if_neg z3, if_neg z4, if_neg z5, if_neg z6])))
    by_cases z6 : w = 6
    · refine e_tsIn (j := 6) (off := 93) (tgt := 101) dX10_count_8 ⟨by omega, by omega⟩ (by omega) (by omega) (by decide) (by decide) ?_
      refine e_aload_n dX10_count_101 rfl ?_
      refine c_getI (by decide) dX10_count_102 f_X10_67 (Or.inl rfl) hT ?_
      rw [rs_refu hR]
      have g_102 := rs_38 hW
      exact e_iret dX10_count_105 (Or.inl rfl) (pbq0 hB hR (by rw [countF_v (by omega)]; unfold cvF; first | (rw [if_pos z0, count_0 (rc_T hR)]) | (rw [if_neg z0, if_pos z1]) | (rw [if_neg z0, if_neg z1, if_pos z2, count_d (rc_T hR) 32 (Or.inl rfl)]; rfl) | (rw [if_neg z0, if_neg z1, if_neg z2, if_pos z3, count_d (rc_T hR) 33 (Or.inr rfl)]; rfl) | (rw [if_neg z0, if_neg z1, if_neg z2, if_neg z3, if_pos z4]) | (rw [if_neg z0, if_neg z1, if_neg z2, if_neg z3, if_neg z4, if_pos z5]) | (rw [if_neg z0, if_neg z1, if_neg z2, if_neg z3, if_neg z4, if_neg z5, if_pos z6]) | (rw [if_neg z0, if_neg z1, if_neg z2, if_neg z3, if_neg z4, if_neg z5, if_neg z6])))
    refine e_tsOut (tgt := 106) dX10_count_8 ⟨by omega, by omega⟩ (by omega) (by decide) ?_
    refine e_aload_n dX10_count_106 rfl ?_
    refine c_getR (kt := (9, 0, 105)) (by decide) (Or.inl (by decide)) dX10_count_107 f_X10_29 hT rfl (Nat.succ_ne_zero _) (fun q_107 h_107 => ?_)
    refine c_getI (by decide) dX10_count_110 f_X10_321 (Or.inl rfl) h_107 ?_
    rw [rs_upl hR]
    have g_110 := rs_39 hW
    exact e_iret dX10_count_113 (Or.inl rfl) (pbq0 hB hR (by rw [countF_v (by omega)]; unfold cvF; first | (rw [if_pos z0, count_0 (rc_T hR)]) | (rw [if_neg z0, if_pos z1]) | (rw [if_neg z0, if_neg z1, if_pos z2, count_d (rc_T hR) 32 (Or.inl rfl)]; rfl) | (rw [if_neg z0, if_neg z1, if_neg z2, if_pos z3, count_d (rc_T hR) 33 (Or.inr rfl)]; rfl) | (rw [if_neg z0, if_neg z1, if_neg z2, if_neg z3, if_pos z4]) | (rw [if_neg z0, if_neg z1, if_neg z2, if_neg z3, if_neg z4, if_pos z5]) | (rw [if_neg z0, if_neg z1, if_neg z2, if_neg z3, if_neg z4, if_neg z5, if_pos z6]) | (rw [if_neg z0, if_neg z1, if_neg z2, if_neg z3, if_neg z4, if_neg z5, if_neg z6])))
  · refine e_iload_n dX10_count_0 rfl ?_
    refine e_iconst dX10_count_1 ?_
    refine e_bipush dX10_count_2 (by decide) ?_
    exact e_cST (as := [_, _, _]) dX10_count_4 k_X10_needRange l_X10_88 s_X10_needRange rfl rfl rfl rfl (Nat.le_of_ble_eq_true rfl) ⟨by decide, by decide⟩ (Nat.le_of_ble_eq_true rfl) (by decide) (c_nR0 hw ⟨by decide, by decide⟩ ⟨by decide, by decide⟩ hc hs (by omega)) (pbq1 hB hR (by unfold countF; rw [if_pos (by omega)]))
