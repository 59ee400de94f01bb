def stF (M : q_S) (m f : Int) : q_S := if M 2 (16 * m + f) = 0 then becomesF M (16 * m + f) (latestOf M f) else if mayP M (16 * m + f) (latestOf M f) ∧ vfo M (latestOf M f) = -1 then ackF M m f else (keepsF M (16 * m + f) (latestOf M f)).2
def lkF (M : q_S) (m f : Int) : q_S := if mayP M (16 * m + f) (latestOf M f) ∧ latestOf M f = M 5 (16 * m + f) - 1 then ackF M m f else if isAsP M (16 * m + f) (latestOf M f) then q_us M 5 (16 * m + f) (latestOf M f + 1) else stF (q_us M 50 37 (M 50 37 + 1)) m f
theorem ack_ct {M : q_S} {m f : Int} (h : CT (ackF M m f)) : M 50 16 < 120 := by
  have ev := h.2.2.2.2
  simp only [ackF, makesF, q_us_ap, Int.reduceEq, false_and, true_and, and_false, and_true, and_self, if_false, if_true] at ev
  omega
theorem le_ack (M : q_S) (m f : Int) : LE M (ackF M m f) := (LE.makes M f m _ _).trans (LE.us (by decide))
theorem le_st (M : q_S) (m f : Int) : LE M (stF M m f) := by
  unfold stF
  split
  · exact LE.becomes _ _ _
  · split
    · exact le_ack M m f
    · exact LE.keeps _ _ _
set_option maxRecDepth 20000 in
set_option maxHeartbeats 4000000 in
theorem c_10_settle {K : q_K} {B M C : q_S} {a : Nat} (hT : K a = (11, 0, 100)) (hR : RC M C) (hI : MI M) (hW : WR M) (hB : q_tb K (M 50 16)) {m f : Int} (hm : 0 ≤ m ∧ m ≤ 2) (hf : 0 ≤ f ∧ f ≤ 15) {b : Int} (hb : b = bi (mayP M (16 * m + f) (latestOf M f))) (hCT : CT (stF M m f)) : q_E mX10_settle 0 [some (q_R a), some (q_I m), some (q_I f), some (q_I b), none, none] [] K B C 1 6 (PX none (stF M m f) K B) := by
  have h16 := rs_16 hW
  have hlr := latestOf_rg hW f
  have hp9 : 0 ≤ (16 * m + f) ∧ (16 * m + f) < 48 := by omega
  have hvf := vfo_rg hW (latestOf M f)
  have hb1 : b = 0 ∨ b = 1 := by rw [hb]; exact bi_01
  refine e_aload_n dX10_settle_0 rfl ?_
  refine c_getR (kt := (36, 3, 102)) (by decide) (Or.inl (by decide)) dX10_settle_1 f_X10_15 hT rfl (Nat.succ_ne_zero _) (fun q_1 h_1 => ?_)
  refine e_iload_n dX10_settle_4 rfl ?_
  refine c_aald (ci := 6) (kt := (7, 0, (110 + m))) (by decide) (Or.inl (by decide)) dX10_settle_5 h_1 (by decide) (by omega) (by omega) (kl_m ⟨by omega, by omega⟩) (Nat.succ_ne_zero _) (fun q_5 h_5 => ?_)
  refine c_getR (kt := (31, 16, (140 + m))) (by omega) (Or.inl (by omega)) dX10_settle_6 f_X10_105 h_5 (kl_c ⟨by omega, by omega⟩) (Nat.succ_ne_zero _) (fun q_6 h_6 => ?_)
  refine e_iload_n dX10_settle_9 rfl ?_
  refine c_aald (ci := 1) (kt := (2, 0, (200 + (16 * m + f)))) (by omega) (Or.inl (by omega)) dX10_settle_10 h_6 (by decide) (by omega) (by omega) (kl_p ⟨by omega, by omega⟩ ⟨by omega, by omega⟩) (Nat.succ_ne_zero _) (fun q_10 h_10 => ?_)
  refine e_astore (ls2 := [_, _, _, _, _, _]) dX10_settle_11 (Nat.le_of_ble_eq_true rfl) rfl ?_
  refine e_aload_n dX10_settle_13 rfl ?_
  refine c_getR (kt := (6, 0, 104)) (by decide) (Or.inl (by decide)) dX10_settle_14 f_X10_83 hT rfl (Nat.succ_ne_zero _) (fun q_14 h_14 => ?_)
  refine e_iload_n dX10_settle_17 rfl ?_
  refine e_cV (as := [_]) (ci := 5) dX10_settle_18 k_X5_latestOf l_X10_183 i_X5_latestOf v_X5_latestOf h_14 rfl (by decide) ⟨_, _, rfl⟩ rfl rfl rfl rfl (Nat.le_of_ble_eq_true rfl) ⟨by decide, by decide⟩ (Nat.le_of_ble_eq_true rfl) (by decide) (c_5_latestOf (by assumption) hR hI hW hf) ?_
  have g_18 := latestOf_rg hW f
  refine e_istore (ls2 := [_, _, _, _, _, _]) dX10_settle_21 (Nat.le_of_ble_eq_true rfl) rfl ?_
  refine e_aload dX10_settle_23 rfl ?_
  refine c_getI (by omega) dX10_settle_25 f_X10_109 (Or.inl rfl) h_10 ?_
  rw [rp_0 hR (p := (16 * m + f)) ⟨by omega, by omega⟩]
  have g_25 : 0 ≤ M 2 (16 * m + f) ∧ M 2 (16 * m + f) ≤ 2 := hW 2 (16 * m + f)
  refine e_if_ne (tgt := 50) dX10_settle_28 (by decide) ⟨by omega, by omega⟩ (fun c_28 => ?_) (fun c_28 => ?_)
  · refine e_iload_n dX10_settle_50 rfl ?_
    refine e_if_eq (tgt := 78) dX10_settle_51 (by decide) ⟨by omega, by omega⟩ (fun c_51 => ?_) (fun c_51 => ?_)
    · have es : stF M m f = (keepsF M (16 * m + f) (latestOf M f)).2 := by
        unfold stF
        rw [if_neg c_28, if_neg (fun g => by first | exact c_66 g.2 | (rw [bi_t g.1] at hb; omega))]
      rw [es] at hCT ⊢
      refine e_aload_n dX10_settle_78 rfl ?_
      refine e_iload_n dX10_settle_79 rfl ?_
      refine e_iload_n dX10_settle_80 rfl ?_
      refine e_cVX (as := [_, _]) (ci := 10) (c1 := 1) (s1 := 6) (c2 := 0) (s2 := 0) dX10_settle_81 k_X10_keepBoth l_X10_376 i_X10_keepBoth v_X10_keepBoth hT rfl (by decide) ⟨_, _, rfl⟩ rfl rfl rfl rfl (Nat.le_of_ble_eq_true rfl) ⟨by decide, by decide⟩ (by omega) (by omega) (Nat.le_of_ble_eq_true rfl) (by decide) (c_10_keepBoth hT hR hI hW hB hm hf c_28 hCT) (fun K2 C2 x2 hB2 hR2 => ?_)
      exact e_ret dX10_settle_84 rfl ⟨rfl, ⟨x2, hB2⟩, rfl, hR2⟩
    · refine e_aload_n dX10_settle_54 rfl ?_
      refine c_getR (kt := (6, 0, 104)) (by decide) (Or.inl (by decide)) dX10_settle_55 f_X10_83 hT rfl (Nat.succ_ne_zero _) (fun q_55 h_55 => ?_)
      refine e_iload dX10_settle_58 rfl ?_
      refine e_cVR (as := [_]) (ci := 5) (kr := (10, 0, (vtag (latestOf M f)))) dX10_settle_60 k_X5_at l_X10_186 i_X5_at v_X5_at h_55 rfl (by decide) ⟨_, _, rfl⟩ rfl rfl rfl rfl (Nat.le_of_ble_eq_true rfl) ⟨by decide, by decide⟩ (Nat.le_of_ble_eq_true rfl) (by decide) (c_5_at h_55 hR hI hW ⟨by omega, by omega⟩) (fun q_60 h_60 => ?_)
      refine e_cV (as := []) (ci := 9) dX10_settle_63 k_X9_isDeletion l_X10_358 i_X9_isDeletion v_X9_isDeletion h_60 rfl (by decide) ⟨_, _, rfl⟩ rfl rfl rfl rfl (Nat.le_of_ble_eq_true rfl) ⟨by decide, by decide⟩ (Nat.le_of_ble_eq_true rfl) (by decide) (c_9_isDeletion (by assumption) ⟨by omega, by omega⟩ hR hI hW) ?_
      refine e_if_eq (tgt := 78) dX10_settle_66 (by decide) bi_iI (fun c_66 => ?_) (fun c_66 => ?_)
      · simp only [bi_z, Classical.not_not] at c_66
        have es : stF M m f = (keepsF M (16 * m + f) (latestOf M f)).2 := by
          unfold stF
          rw [if_neg c_28, if_neg (fun g => by first | exact c_66 g.2 | (rw [bi_t g.1] at hb; omega))]
        rw [es] at hCT ⊢
        refine e_aload_n dX10_settle_78 rfl ?_
        refine e_iload_n dX10_settle_79 rfl ?_
        refine e_iload_n dX10_settle_80 rfl ?_
        refine e_cVX (as := [_, _]) (ci := 10) (c1 := 1) (s1 := 6) (c2 := 0) (s2 := 0) dX10_settle_81 k_X10_keepBoth l_X10_376 i_X10_keepBoth v_X10_keepBoth hT rfl (by decide) ⟨_, _, rfl⟩ rfl rfl rfl rfl (Nat.le_of_ble_eq_true rfl) ⟨by decide, by decide⟩ (by omega) (by omega) (Nat.le_of_ble_eq_true rfl) (by decide) (c_10_keepBoth hT hR hI hW hB hm hf c_28 hCT) (fun K2 C2 x2 hB2 hR2 => ?_)
        exact e_ret dX10_settle_84 rfl ⟨rfl, ⟨x2, hB2⟩, rfl, hR2⟩
      · simp only [bi_z, Classical.not_not] at c_66
        have hmay : mayP M (16 * m + f) (latestOf M f) := Classical.byContradiction (fun g => c_51 (by rw [hb, bi_f g]))
        have es : stF M m f = ackF M m f := by unfold stF; rw [if_neg c_28, if_pos ⟨hmay, c_66⟩]
        rw [es] at hCT ⊢
        refine e_aload_n dX10_settle_69 rfl ?_
        refine e_iload_n dX10_settle_70 rfl ?_
        refine e_iload_n dX10_settle_71 rfl ?_
        refine e_cVX (as := [_, _]) (ci := 10) (c1 := 1) (s1 := 6) (c2 := 0) (s2 := 0) dX10_settle_72 k_X10_acknowledge l_X10_365 i_X10_acknowledge v_X10_acknowledge hT rfl (by decide) ⟨_, _, rfl⟩ rfl rfl rfl rfl (Nat.le_of_ble_eq_true rfl) ⟨by decide, by decide⟩ (by omega) (by omega) (Nat.le_of_ble_eq_true rfl) (by decide) (c_10_acknowledge hT hR hI hW hB hm hf (ack_ct hCT)) (fun K2 C2 x2 hB2 hR2 => ?_)
        refine e_goto (tgt := 84) dX10_settle_75 (by decide) ?_
        exact e_ret dX10_settle_84 rfl ⟨rfl, ⟨x2, hB2⟩, rfl, hR2⟩
  · refine e_aload dX10_settle_31 rfl ?_
    refine e_iload dX10_settle_33 rfl ?_
    refine e_aload_n dX10_settle_35 rfl ?_
    refine c_getR (kt := (6, 0, 104)) (by decide) (Or.inl (by decide)) dX10_settle_36 f_X10_83 hT rfl (Nat.succ_ne_zero _) (fun q_36 h_36 => ?_)
    refine e_iload dX10_settle_39 rfl ?_
    refine e_cVR (as := [_]) (ci := 5) (kr := (10, 0, (vtag (latestOf M f)))) dX10_settle_41 k_X5_at l_X10_186 i_X5_at v_X5_at h_36 rfl (by decide) ⟨_, _, rfl⟩ rfl rfl rfl rfl (Nat.le_of_ble_eq_true rfl) ⟨by decide, by decide⟩ (Nat.le_of_ble_eq_true rfl) (by decide) (c_5_at h_36 hR hI hW ⟨by omega, by omega⟩) (fun q_41 h_41 => ?_)
    refine e_cV (as := [_, _]) (ci := 1) dX10_settle_44 k_X1_fallBack l_X10_372 i_X1_fallBack v_X1_fallBack h_10 rfl (by decide) ⟨_, _, rfl⟩ rfl rfl rfl rfl (Nat.le_of_ble_eq_true rfl) ⟨by decide, by decide⟩ (Nat.le_of_ble_eq_true rfl) (by decide) (c_1_fallBack (by assumption) hp9 (by assumption) ⟨by omega, by omega⟩ hR hI hW) ?_
    refine e_goto (tgt := 84) dX10_settle_47 (by decide) ?_
    refine e_ret dX10_settle_84 rfl ?_
    have es : stF M m f = becomesF M (16 * m + f) (latestOf M f) := by unfold stF; rw [if_pos (by omega)]
    rw [es]
    exact ⟨rfl, ⟨q_xt.rfl, by rw [bec_o (by omega)]; exact hB⟩, rfl, rc_becomes hR hW hp9⟩
set_option maxRecDepth 20000 in
set_option maxHeartbeats 4000000 in
theorem c_10_lookAt {K : q_K} {B M C : q_S} {a : Nat} (hT : K a = (11, 0, 100)) (hR : RC M C) (hI : MI M) (hW : WR M) (hB : q_tb K (M 50 16)) {m f : Int} (hm : 0 ≤ m ∧ m ≤ 2) (hf : 0 ≤ f ∧ f ≤ 15) (hCT : CT (lkF M m f)) : q_E mX10_lookAt 0 [some (q_R a), some (q_I m), some (q_I f), none, none, none] [] K B C 1 6 (PX none (lkF M m f) K B) := by
  have h16 := rs_16 hW
  have h37 := rs_37 hW
  have hlr := latestOf_rg hW f
  have hp9 : 0 ≤ (16 * m + f) ∧ (16 * m + f) < 48 := by omega
  have hcf := cfo_rg hW (16 * m + f)
  have g5 : 0 ≤ M 5 (16 * m + f) ∧ M 5 (16 * m + f) ≤ 120 := hW 5 _
  have hq := isAs_eq hI hW (v := (latestOf M f)) hp9 ⟨by omega, by omega⟩
  have el : latestOf (q_us M 50 37 (M 50 37 + 1)) f = (latestOf M f) := lat_eq (M' := (q_us M 50 37 (M 50 37 + 1))) (M := M) (fun _ => rfl) (fun _ => rfl) rfl f
  refine e_aload_n dX10_lookAt_0 rfl ?_
  refine c_getR (kt := (36, 3, 102)) (by decide) (Or.inl (by decide)) dX10_lookAt_1 f_X10_15 hT rfl (Nat.succ_ne_zero _) (fun q_1 h_1 => ?_)
  refine e_iload_n dX10_lookAt_4 rfl ?_
  refine c_aald (ci := 6) (kt := (7, 0, (110 + m))) (by decide) (Or.inl (by decide)) dX10_lookAt_5 h_1 (by decide) (by omega) (by omega) (kl_m ⟨by omega, by omega⟩) (Nat.succ_ne_zero _) (fun q_5 h_5 => ?_)
  refine c_getR (kt := (31, 16, (140 + m))) (by omega) (Or.inl (by omega)) dX10_lookAt_6 f_X10_105 h_5 (kl_c ⟨by omega, by omega⟩) (Nat.succ_ne_zero _) (fun q_6 h_6 => ?_)
  refine e_iload_n dX10_lookAt_9 rfl ?_
  refine c_aald (ci := 1) (kt := (2, 0, (200 + (16 * m + f)))) (by omega) (Or.inl (by omega)) dX10_lookAt_10 h_6 (by decide) (by omega) (by omega) (kl_p ⟨by omega, by omega⟩ ⟨by omega, by omega⟩) (Nat.succ_ne_zero _) (fun q_10 h_10 => ?_)
  refine e_astore_n (ls2 := [_, _, _, _, _, _]) dX10_lookAt_11 (Nat.le_of_ble_eq_true rfl) rfl ?_
  refine e_aload_n dX10_lookAt_12 rfl ?_
  refine c_getR (kt := (6, 0, 104)) (by decide) (Or.inl (by decide)) dX10_lookAt_13 f_X10_83 hT rfl (Nat.succ_ne_zero _) (fun q_13 h_13 => ?_)
  refine e_iload_n dX10_lookAt_16 rfl ?_
  refine e_cV (as := [_]) (ci := 5) dX10_lookAt_17 k_X5_latestOf l_X10_183 i_X5_latestOf v_X5_latestOf h_13 rfl (by decide) ⟨_, _, rfl⟩ rfl rfl rfl rfl (Nat.le_of_ble_eq_true rfl) ⟨by decide, by decide⟩ (Nat.le_of_ble_eq_true rfl) (by decide) (c_5_latestOf (by assumption) hR hI hW hf) ?_
  have g_17 := latestOf_rg hW f
  refine e_istore (ls2 := [_, _, _, _, _, _]) dX10_lookAt_20 (Nat.le_of_ble_eq_true rfl) rfl ?_
  refine e_aload_n dX10_lookAt_22 rfl ?_
  refine e_iload_n dX10_lookAt_23 rfl ?_
  refine e_iload_n dX10_lookAt_24 rfl ?_
  refine e_cV (as := [_, _]) (ci := 10) dX10_lookAt_25 k_X10_mayAcknowledge l_X10_362 i_X10_mayAcknowledge v_X10_mayAcknowledge hT rfl (by decide) ⟨_, _, rfl⟩ rfl rfl rfl rfl (Nat.le_of_ble_eq_true rfl) ⟨by decide, by decide⟩ (Nat.le_of_ble_eq_true rfl) (by decide) (c_10_mayAcknowledge hT hR hI hW hm hf) ?_
  refine e_istore (ls2 := [_, _, _, _, _, _]) dX10_lookAt_28 (Nat.le_of_ble_eq_true rfl) rfl ?_
  refine e_iload dX10_lookAt_30 rfl ?_
  refine e_if_eq (tgt := 53) dX10_lookAt_32 (by decide) bi_iI (fun c_32 => ?_) (fun c_32 => ?_)
  · simp only [bi_z, Classical.not_not] at c_32
    refine e_aload_n dX10_lookAt_53 rfl ?_
    refine c_getR (kt := (6, 0, 104)) (by decide) (Or.inl (by decide)) dX10_lookAt_54 f_X10_83 hT rfl (Nat.succ_ne_zero _) (fun q_54 h_54 => ?_)
    refine e_iload dX10_lookAt_57 rfl ?_
    refine e_cVR (as := [_]) (ci := 5) (kr := (10, 0, (vtag (latestOf M f)))) dX10_lookAt_59 k_X5_at l_X10_186 i_X5_at v_X5_at h_54 rfl (by decide) ⟨_, _, rfl⟩ rfl rfl rfl rfl (Nat.le_of_ble_eq_true rfl) ⟨by decide, by decide⟩ (Nat.le_of_ble_eq_true rfl) (by decide) (c_5_at h_54 hR hI hW ⟨by omega, by omega⟩) (fun q_59 h_59 => ?_)
    refine e_aload_n dX10_lookAt_62 rfl ?_
    refine c_getI (by omega) dX10_lookAt_63 f_X10_114 (Or.inl rfl) h_10 ?_
    rw [rp_1 hR (p := (16 * m + f)) ⟨by omega, by omega⟩]
    have g_63 := cfo_rg hW (16 * m + f)
    refine e_aload_n dX10_lookAt_66 rfl ?_
    have hv_67 : vcode (M 3 (16 * m + f)) := mi_3 hI ⟨by omega, by omega⟩
    have hg_67 := hv_67.1
    refine c_getR (kt := (1, 0, (1000000 + 3 * M 3 (16 * m + f)))) (by omega) (Or.inl (by omega)) dX10_lookAt_67 f_X10_165 h_10 (kl_pc ⟨by omega, by omega⟩ (by omega) (rp_2 hR ⟨by omega, by omega⟩)) (Nat.succ_ne_zero _) (fun q_67 h_67 => ?_)
    refine e_cV (as := [_, _]) (ci := 9) dX10_lookAt_70 k_X9_isAs l_X10_337 i_X9_isAs v_X9_isAs h_59 rfl (by decide) ⟨_, _, rfl⟩ rfl rfl rfl rfl (Nat.le_of_ble_eq_true rfl) ⟨by decide, by decide⟩ (Nat.le_of_ble_eq_true rfl) (by decide) (c_9_isAs (by assumption) ⟨by omega, by omega⟩ (by assumption) hv_67 hR hI hW hcf) ?_
    refine e_if_eq (tgt := 85) dX10_lookAt_73 (by decide) bi_iI (fun c_73 => ?_) (fun c_73 => ?_)
    · simp only [bi_z, Classical.not_not] at c_73
      have nas : ¬ isAsP M (16 * m + f) (latestOf M f) := fun g => c_73 (hq.mpr g)
      have es : lkF M m f = stF (q_us M 50 37 (M 50 37 + 1)) m f := by
        unfold lkF
        rw [if_neg (fun g => by first | exact c_32 g.1 | exact c_41 (by omega)), if_neg nas]
      rw [es] at hCT ⊢
      refine e_aload_n dX10_lookAt_85 rfl ?_
      refine e_dup dX10_lookAt_86 rfl ?_
      refine c_getI (by decide) dX10_lookAt_87 f_X10_64 (Or.inl rfl) hT ?_
      rw [rs_conf hR]
      have g_87 := rs_37 hW
      refine e_iconst dX10_lookAt_90 ?_
      refine e_iadd dX10_lookAt_91 ?_
      refine c_putI (by decide) dX10_lookAt_92 f_X10_64 rfl hT (by decide) ⟨by omega, by omega⟩ ?_
      refine e_aload_n dX10_lookAt_95 rfl ?_
      refine e_iload_n dX10_lookAt_96 rfl ?_
      refine e_iload_n dX10_lookAt_97 rfl ?_
      refine e_iload dX10_lookAt_98 rfl ?_
      refine e_cVX (as := [_, _, _]) (ci := 10) (c1 := 1) (s1 := 6) (c2 := 0) (s2 := 0) dX10_lookAt_100 k_X10_settle l_X10_368 i_X10_settle v_X10_settle hT rfl (by decide) ⟨_, _, rfl⟩ rfl rfl rfl rfl (Nat.le_of_ble_eq_true rfl) ⟨by decide, by decide⟩ (by omega) (by omega) (Nat.le_of_ble_eq_true rfl) (by decide) (c_10_settle (M := (q_us M 50 37 (M 50 37 + 1))) hT (rc_conf hR h16.1) (mi_50 hI (Or.inl rfl)) (WR.up hW ⟨(by show (0 : Int) ≤ M 50 37 + 1; omega), (by have e9 := ((le_st (q_us M 50 37 (M 50 37 + 1)) m f).ct hCT).2.1; show M 50 37 + 1 ≤ (1000000 : Int); exact e9)⟩) hB hm hf (by rw [el]; rfl) hCT) (fun K2 C2 x2 hB2 hR2 => ?_)
      exact e_ret dX10_lookAt_103 rfl ⟨rfl, ⟨x2, hB2⟩, rfl, hR2⟩
    · simp only [bi_z, Classical.not_not] at c_73
      refine e_aload_n dX10_lookAt_76 rfl ?_
      refine e_iload dX10_lookAt_77 rfl ?_
      refine c_putI (by omega) dX10_lookAt_79 f_X10_294 rfl h_10 (by omega) ⟨by omega, by omega⟩ ?_
      refine e_goto (tgt := 103) dX10_lookAt_82 (by decide) ?_
      refine e_ret dX10_lookAt_103 rfl ?_
      have es : lkF M m f = q_us M 5 (16 * m + f) ((latestOf M f) + 1) := by unfold lkF; rw [if_neg (fun g => by first | exact c_32 g.1 | exact c_41 (by omega)), if_pos (hq.mp c_73)]
      rw [es]
      exact ⟨rfl, ⟨q_xt.rfl, hB⟩, rfl, rc_seen hR h16.1 hp9⟩
  · simp only [bi_z, Classical.not_not] at c_32
    refine e_iload dX10_lookAt_35 rfl ?_
    refine e_aload_n dX10_lookAt_37 rfl ?_
    refine c_getI (by omega) dX10_lookAt_38 f_X10_294 (Or.inl rfl) h_10 ?_
    rw [rp_3 hR (p := (16 * m + f)) ⟨by omega, by omega⟩]
    have g_38 : 0 ≤ M 5 (16 * m + f) ∧ M 5 (16 * m + f) ≤ 120 := hW 5 (16 * m + f)
    refine e_icmp_ne (tgt := 53) dX10_lookAt_41 (by decide) ⟨by omega, by omega⟩ ⟨by omega, by omega⟩ (fun c_41 => ?_) (fun c_41 => ?_)
    · refine e_aload_n dX10_lookAt_53 rfl ?_
      refine c_getR (kt := (6, 0, 104)) (by decide) (Or.inl (by decide)) dX10_lookAt_54 f_X10_83 hT rfl (Nat.succ_ne_zero _) (fun q_54 h_54 => ?_)
      refine e_iload dX10_lookAt_57 rfl ?_
      refine e_cVR (as := [_]) (ci := 5) (kr := (10, 0, (vtag (latestOf M f)))) dX10_lookAt_59 k_X5_at l_X10_186 i_X5_at v_X5_at h_54 rfl (by decide) ⟨_, _, rfl⟩ rfl rfl rfl rfl (Nat.le_of_ble_eq_true rfl) ⟨by decide, by decide⟩ (Nat.le_of_ble_eq_true rfl) (by decide) (c_5_at h_54 hR hI hW ⟨by omega, by omega⟩) (fun q_59 h_59 => ?_)
      refine e_aload_n dX10_lookAt_62 rfl ?_
      refine c_getI (by omega) dX10_lookAt_63 f_X10_114 (Or.inl rfl) h_10 ?_
      rw [rp_1 hR (p := (16 * m + f)) ⟨by omega, by omega⟩]
      have g_63 := cfo_rg hW (16 * m + f)
      refine e_aload_n dX10_lookAt_66 rfl ?_
      have hv_67 : vcode (M 3 (16 * m + f)) := mi_3 hI ⟨by omega, by omega⟩
      have hg_67 := hv_67.1
      refine c_getR (kt := (1, 0, (1000000 + 3 * M 3 (16 * m + f)))) (by omega) (Or.inl (by omega)) dX10_lookAt_67 f_X10_165 h_10 (kl_pc ⟨by omega, by omega⟩ (by omega) (rp_2 hR ⟨by omega, by omega⟩)) (Nat.succ_ne_zero _) (fun q_67 h_67 => ?_)
      refine e_cV (as := [_, _]) (ci := 9) dX10_lookAt_70 k_X9_isAs l_X10_337 i_X9_isAs v_X9_isAs h_59 rfl (by decide) ⟨_, _, rfl⟩ rfl rfl rfl rfl (Nat.le_of_ble_eq_true rfl) ⟨by decide, by decide⟩ (Nat.le_of_ble_eq_true rfl) (by decide) (c_9_isAs (by assumption) ⟨by omega, by omega⟩ (by assumption) hv_67 hR hI hW hcf) ?_
      refine e_if_eq (tgt := 85) dX10_lookAt_73 (by decide) bi_iI (fun c_73 => ?_) (fun c_73 => ?_)
      · simp only [bi_z, Classical.not_not] at c_73
        have nas : ¬ isAsP M (16 * m + f) (latestOf M f) := fun g => c_73 (hq.mpr g)
        have es : lkF M m f = stF (q_us M 50 37 (M 50 37 + 1)) m f := by
          unfold lkF
          rw [if_neg (fun g => by first | exact c_32 g.1 | exact c_41 (by omega)), if_neg nas]
        rw [es] at hCT ⊢
        refine e_aload_n dX10_lookAt_85 rfl ?_
        refine e_dup dX10_lookAt_86 rfl ?_
        refine c_getI (by decide) dX10_lookAt_87 f_X10_64 (Or.inl rfl) hT ?_
        rw [rs_conf hR]
        have g_87 := rs_37 hW
        refine e_iconst dX10_lookAt_90 ?_
        refine e_iadd dX10_lookAt_91 ?_
        refine c_putI (by decide) dX10_lookAt_92 f_X10_64 rfl hT (by decide) ⟨by omega, by omega⟩ ?_
        refine e_aload_n dX10_lookAt_95 rfl ?_
        refine e_iload_n dX10_lookAt_96 rfl ?_
        refine e_iload_n dX10_lookAt_97 rfl ?_
        refine e_iload dX10_lookAt_98 rfl ?_
        refine e_cVX (as := [_, _, _]) (ci := 10) (c1 := 1) (s1 := 6) (c2 := 0) (s2 := 0) dX10_lookAt_100 k_X10_settle l_X10_368 i_X10_settle v_X10_settle hT rfl (by decide) ⟨_, _, rfl⟩ rfl rfl rfl rfl (Nat.le_of_ble_eq_true rfl) ⟨by decide, by decide⟩ (by omega) (by omega) (Nat.le_of_ble_eq_true rfl) (by decide) (c_10_settle (M := (q_us M 50 37 (M 50 37 + 1))) hT (rc_conf hR h16.1) (mi_50 hI (Or.inl rfl)) (WR.up hW ⟨(by show (0 : Int) ≤ M 50 37 + 1; omega), (by have e9 := ((le_st (q_us M 50 37 (M 50 37 + 1)) m f).ct hCT).2.1; show M 50 37 + 1 ≤ (1000000 : Int); exact e9)⟩) hB hm hf (by rw [el]; rfl) hCT) (fun K2 C2 x2 hB2 hR2 => ?_)
        exact e_ret dX10_lookAt_103 rfl ⟨rfl, ⟨x2, hB2⟩, rfl, hR2⟩
      · simp only [bi_z, Classical.not_not] at c_73
        refine e_aload_n dX10_lookAt_76 rfl ?_
        refine e_iload dX10_lookAt_77 rfl ?_
        refine c_putI (by omega) dX10_lookAt_79 f_X10_294 rfl h_10 (by omega) ⟨by omega, by omega⟩ ?_
        refine e_goto (tgt := 103) dX10_lookAt_82 (by decide) ?_
        refine e_ret dX10_lookAt_103 rfl ?_
        have es : lkF M m f = q_us M 5 (16 * m + f) ((latestOf M f) + 1) := by unfold lkF; rw [if_neg (fun g => by first | exact c_32 g.1 | exact c_41 (by omega)), if_pos (hq.mp c_73)]
        rw [es]
        exact ⟨rfl, ⟨q_xt.rfl, hB⟩, rfl, rc_seen hR h16.1 hp9⟩
    · have es : lkF M m f = ackF M m f := by unfold lkF; rw [if_pos ⟨c_32, by omega⟩]
      rw [es] at hCT ⊢
      refine e_aload_n dX10_lookAt_44 rfl ?_
      refine e_iload_n dX10_lookAt_45 rfl ?_
      refine e_iload_n dX10_lookAt_46 rfl ?_
      refine e_cVX (as := [_, _]) (ci := 10) (c1 := 1) (s1 := 6) (c2 := 0) (s2 := 0) dX10_lookAt_47 k_X10_acknowledge l_X10_365 i_X10_acknowledge v_X10_acknowledge hT rfl (by decide) ⟨_, _, rfl⟩ rfl rfl rfl rfl (Nat.le_of_ble_eq_true rfl) ⟨by decide, by decide⟩ (by omega) (by omega) (Nat.le_of_ble_eq_true rfl) (by decide) (c_10_acknowledge hT hR hI hW hB hm hf (ack_ct hCT)) (fun K2 C2 x2 hB2 hR2 => ?_)
      refine e_goto (tgt := 103) dX10_lookAt_50 (by decide) ?_
      exact e_ret dX10_lookAt_103 rfl ⟨rfl, ⟨x2, hB2⟩, rfl, hR2⟩
