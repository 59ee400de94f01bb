set_option maxRecDepth 20000 in
set_option maxHeartbeats 4000000 in
theorem c_10_pull_l {K : q_K} {B M0 : q_S} {a : Nat} (hT : K a = (11, 0, 100)) (hW0 : WR M0) (hI0 : MI M0) (hB : q_tb K (M0 50 16)) {m : Int} (hm : 0 ≤ m ∧ m ≤ 2) {c s : Nat} : ∀ (r k : Nat) (n i : Int) (M C : q_S), k + r = 16 → i = k → plF (thr M0 0) m k = (n, M) → (0 ≤ n ∧ n ≤ k) → RC M C → q_E mX10_pull 9 [some (q_R a), some (q_I m), some (q_I n), some (q_I i), none, none] [] K B C c s (PB (pullF M0 m) "java/lang/IndexOutOfBoundsException" "" "" K B) := by
  intro r
  induction r with
  | zero =>
    intro k n i M C h1 h2 ea hn hR
    have ok := pl_ok (hW0.thr (z := 0) ⟨by decide, by decide⟩) (mi_thr hI0 0) hm k (by omega)
    rw [show (plF (thr M0 0) m k).2 = M from by rw [ea]] at ok
    have hW := ok.1
    have hI := ok.2.1
    have h16 := rs_16 hW
    have em16 : M 50 16 = M0 50 16 := ok.2.2.1
    have e41 : M 50 41 = 0 := ok.2.2.2
    have ek : k = 16 := by omega
    refine e_iload_n dX10_pull_9 rfl ?_
    refine e_bipush dX10_pull_10 (by decide) ?_
    refine e_icmp_ge (tgt := 105) dX10_pull_12 (by decide) ⟨by omega, by omega⟩ ⟨by omega, by omega⟩ (fun c_12 => ?_) (fun c_12 => ?_)
    · refine e_iload_n dX10_pull_105 rfl ?_
      exact e_iret dX10_pull_106 (Or.inl rfl) (pbm0 (X := M) (by unfold pullF; rw [if_neg (fun g => g hm), ← ek, ea]) (by rw [em16]; exact hB) e41 hR)
    · exfalso; omega
  | succ r ih =>
    intro k n i M C h1 h2 ea hn hR
    have ok := pl_ok (hW0.thr (z := 0) ⟨by decide, by decide⟩) (mi_thr hI0 0) hm k (by omega)
    rw [show (plF (thr M0 0) m k).2 = M from by rw [ea]] at ok
    have hW := ok.1
    have hI := ok.2.1
    have h16 := rs_16 hW
    have em16 : M 50 16 = M0 50 16 := ok.2.2.1
    have e41 : M 50 41 = 0 := ok.2.2.2
    have hil := latestOf_rg hW i
    have hp9 : 0 ≤ (16 * m + i) ∧ (16 * m + i) < 48 := by omega
    have st : plF (thr M0 0) m (k + 1) = if ¬ isOtherP M (16 * m + i) ∧ ¬ (latestOf M i) = -1 ∧ mayReadP M (16 * m + i) (latestOf M i) then (n + (if isAsP M (16 * m + i) (latestOf M i) then 0 else 1), cuF M (16 * m + i) (latestOf M i)) else (n, M) := by
      rw [pl_step, ea, h2]
    refine e_iload_n dX10_pull_9 rfl ?_
    refine e_bipush dX10_pull_10 (by decide) ?_
    refine e_icmp_ge (tgt := 105) dX10_pull_12 (by decide) ⟨by omega, by omega⟩ ⟨by omega, by omega⟩ (fun c_12 => ?_) (fun c_12 => ?_)
    · exfalso; omega
    · refine e_aload_n dX10_pull_15 rfl ?_
      refine c_getR (kt := (36, 3, 102)) (by decide) (Or.inl (by decide)) dX10_pull_16 f_X10_15 hT rfl (Nat.succ_ne_zero _) (fun q_16 h_16 => ?_)
      refine e_iload_n dX10_pull_19 rfl ?_
      refine c_aald (ci := 6) (kt := (7, 0, (110 + m))) (by decide) (Or.inl (by decide)) dX10_pull_20 h_16 (by decide) (by omega) (by omega) (kl_m ⟨by omega, by omega⟩) (Nat.succ_ne_zero _) (fun q_20 h_20 => ?_)
      refine c_getR (kt := (31, 16, (140 + m))) (by omega) (Or.inl (by omega)) dX10_pull_21 f_X10_105 h_20 (kl_c ⟨by omega, by omega⟩) (Nat.succ_ne_zero _) (fun q_21 h_21 => ?_)
      refine e_iload_n dX10_pull_24 rfl ?_
      refine c_aald (ci := 1) (kt := (2, 0, (200 + (16 * m + i)))) (by omega) (Or.inl (by omega)) dX10_pull_25 h_21 (by decide) (by omega) (by omega) (kl_p ⟨by omega, by omega⟩ ⟨by omega, by omega⟩) (Nat.succ_ne_zero _) (fun q_25 h_25 => ?_)
      refine e_astore (ls2 := [_, _, _, _, _, _]) dX10_pull_26 (Nat.le_of_ble_eq_true rfl) rfl ?_
      refine e_aload_n dX10_pull_28 rfl ?_
      refine c_getR (kt := (6, 0, 104)) (by decide) (Or.inl (by decide)) dX10_pull_29 f_X10_83 hT rfl (Nat.succ_ne_zero _) (fun q_29 h_29 => ?_)
      refine e_iload_n dX10_pull_32 rfl ?_
      refine e_cV (as := [_]) (ci := 5) dX10_pull_33 k_X5_latestOf l_X10_183 i_X5_latestOf v_X5_latestOf h_29 rfl (by decide) ⟨_, _, rfl⟩ rfl rfl rfl rfl (Nat.le_of_ble_eq_true rfl) ⟨by decide, by decide⟩ (Nat.le_of_ble_eq_true rfl) (by decide) (c_5_latestOf h_29 hR hI hW ⟨by omega, by omega⟩) ?_
      have g_33 := latestOf_rg hW i
      refine e_istore (ls2 := [_, _, _, _, _, _]) dX10_pull_36 (Nat.le_of_ble_eq_true rfl) rfl ?_
      refine e_iload dX10_pull_38 rfl ?_
      refine e_iconst dX10_pull_40 ?_
      refine e_icmp_eq (tgt := 99) dX10_pull_41 (by decide) ⟨by omega, by omega⟩ ⟨by omega, by omega⟩ (fun c_41 => ?_) (fun c_41 => ?_)
      · refine e_iinc (ls2 := [_, _, _, _, _, _]) dX10_pull_99 rfl (Nat.le_of_ble_eq_true rfl) rfl ?_
        refine e_goto (tgt := 9) dX10_pull_102 (by decide) ?_
        refine e_drop (k := 4) (ls2 := [_, _, _, _, _, _]) rfl ?_
        refine e_drop (k := 5) (ls2 := [_, _, _, _, _, _]) rfl ?_
        first
        | (have z : isAsP M (16 * m + i) (latestOf M i) := c_89; exact ih (k + 1) _ _ _ _ (by omega) (by omega) (by rw [st, if_pos ⟨fun y => y c_50, c_41, c_69⟩, if_pos z]) ⟨by omega, by omega⟩ (rc_catch hR hW hI hp9))
        | (have z : ¬ isAsP M (16 * m + i) (latestOf M i) := c_89; exact ih (k + 1) _ _ _ _ (by omega) (by omega) (by rw [st, if_pos ⟨fun y => y c_50, c_41, c_69⟩, if_neg z]) ⟨by omega, by omega⟩ (rc_catch hR hW hI hp9))
        | (have z : ¬ mayReadP M (16 * m + i) (latestOf M i) := c_69; exact ih (k + 1) _ _ _ _ (by omega) (by omega) (by rw [st, if_neg (fun g => z g.2.2)]) ⟨by omega, by omega⟩ hR)
        | (have z : isOtherP M (16 * m + i) := c_50; exact ih (k + 1) _ _ _ _ (by omega) (by omega) (by rw [st, if_neg (fun g => g.1 z)]) ⟨by omega, by omega⟩ hR)
        | (have z : (latestOf M i) = -1 := c_41; exact ih (k + 1) _ _ _ _ (by omega) (by omega) (by rw [st, if_neg (fun g => g.2.1 z)]) ⟨by omega, by omega⟩ hR)
      · refine e_aload_n dX10_pull_44 rfl ?_
        refine e_aload dX10_pull_45 rfl ?_
        refine e_cV (as := [_]) (ci := 10) dX10_pull_47 k_X10_isEdited l_X10_141 i_X10_isEdited v_X10_isEdited hT rfl (by decide) ⟨_, _, rfl⟩ rfl rfl rfl rfl (Nat.le_of_ble_eq_true rfl) ⟨by decide, by decide⟩ (Nat.le_of_ble_eq_true rfl) (by decide) (c_10_isEdited hT h_25 hp9 hR hI hW) ?_
        refine e_if_ne (tgt := 99) dX10_pull_50 (by decide) bi_iI (fun c_50 => ?_) (fun c_50 => ?_)
        · simp only [bi_z, Classical.not_not] at c_50
          refine e_iinc (ls2 := [_, _, _, _, _, _]) dX10_pull_99 rfl (Nat.le_of_ble_eq_true rfl) rfl ?_
          refine e_goto (tgt := 9) dX10_pull_102 (by decide) ?_
          refine e_drop (k := 4) (ls2 := [_, _, _, _, _, _]) rfl ?_
          refine e_drop (k := 5) (ls2 := [_, _, _, _, _, _]) rfl ?_
          first
          | (have z : isAsP M (16 * m + i) (latestOf M i) := c_89; exact ih (k + 1) _ _ _ _ (by omega) (by omega) (by rw [st, if_pos ⟨fun y => y c_50, c_41, c_69⟩, if_pos z]) ⟨by omega, by omega⟩ (rc_catch hR hW hI hp9))
          | (have z : ¬ isAsP M (16 * m + i) (latestOf M i) := c_89; exact ih (k + 1) _ _ _ _ (by omega) (by omega) (by rw [st, if_pos ⟨fun y => y c_50, c_41, c_69⟩, if_neg z]) ⟨by omega, by omega⟩ (rc_catch hR hW hI hp9))
          | (have z : ¬ mayReadP M (16 * m + i) (latestOf M i) := c_69; exact ih (k + 1) _ _ _ _ (by omega) (by omega) (by rw [st, if_neg (fun g => z g.2.2)]) ⟨by omega, by omega⟩ hR)
          | (have z : isOtherP M (16 * m + i) := c_50; exact ih (k + 1) _ _ _ _ (by omega) (by omega) (by rw [st, if_neg (fun g => g.1 z)]) ⟨by omega, by omega⟩ hR)
          | (have z : (latestOf M i) = -1 := c_41; exact ih (k + 1) _ _ _ _ (by omega) (by omega) (by rw [st, if_neg (fun g => g.2.1 z)]) ⟨by omega, by omega⟩ hR)
        · simp only [bi_z, Classical.not_not] at c_50
          refine e_aload_n dX10_pull_53 rfl ?_
          refine e_iload_n dX10_pull_54 rfl ?_
          refine e_aload dX10_pull_55 rfl ?_
          refine e_aload_n dX10_pull_57 rfl ?_
          refine c_getR (kt := (6, 0, 104)) (by decide) (Or.inl (by decide)) dX10_pull_58 f_X10_83 hT rfl (Nat.succ_ne_zero _) (fun q_58 h_58 => ?_)
          refine e_iload dX10_pull_61 rfl ?_
          refine e_cVR (as := [_]) (ci := 5) (kr := (10, 0, (vtag (latestOf M i)))) dX10_pull_63 k_X5_at l_X10_186 i_X5_at v_X5_at h_58 rfl (by decide) ⟨_, _, rfl⟩ rfl rfl rfl rfl (Nat.le_of_ble_eq_true rfl) ⟨by decide, by decide⟩ (Nat.le_of_ble_eq_true rfl) (by decide) (c_5_at h_58 hR hI hW ⟨by omega, by omega⟩) (fun q_63 h_63 => ?_)
          refine e_cV (as := [_, _, _]) (ci := 10) dX10_pull_66 k_X10_mayFollow l_X10_190 i_X10_mayFollow v_X10_mayFollow hT rfl (by decide) ⟨_, _, rfl⟩ rfl rfl rfl rfl (Nat.le_of_ble_eq_true rfl) ⟨by decide, by decide⟩ (Nat.le_of_ble_eq_true rfl) (by decide) (c_10_mayFollow hT h_25 hp9 h_63 ⟨by omega, by omega⟩ hR hI hW (by omega)) ?_
          refine e_if_eq (tgt := 99) dX10_pull_69 (by decide) bi_iI (fun c_69 => ?_) (fun c_69 => ?_)
          · simp only [bi_z, Classical.not_not] at c_69
            refine e_iinc (ls2 := [_, _, _, _, _, _]) dX10_pull_99 rfl (Nat.le_of_ble_eq_true rfl) rfl ?_
            refine e_goto (tgt := 9) dX10_pull_102 (by decide) ?_
            refine e_drop (k := 4) (ls2 := [_, _, _, _, _, _]) rfl ?_
            refine e_drop (k := 5) (ls2 := [_, _, _, _, _, _]) rfl ?_
            first
            | (have z : isAsP M (16 * m + i) (latestOf M i) := c_89; exact ih (k + 1) _ _ _ _ (by omega) (by omega) (by rw [st, if_pos ⟨fun y => y c_50, c_41, c_69⟩, if_pos z]) ⟨by omega, by omega⟩ (rc_catch hR hW hI hp9))
            | (have z : ¬ isAsP M (16 * m + i) (latestOf M i) := c_89; exact ih (k + 1) _ _ _ _ (by omega) (by omega) (by rw [st, if_pos ⟨fun y => y c_50, c_41, c_69⟩, if_neg z]) ⟨by omega, by omega⟩ (rc_catch hR hW hI hp9))
            | (have z : ¬ mayReadP M (16 * m + i) (latestOf M i) := c_69; exact ih (k + 1) _ _ _ _ (by omega) (by omega) (by rw [st, if_neg (fun g => z g.2.2)]) ⟨by omega, by omega⟩ hR)
            | (have z : isOtherP M (16 * m + i) := c_50; exact ih (k + 1) _ _ _ _ (by omega) (by omega) (by rw [st, if_neg (fun g => g.1 z)]) ⟨by omega, by omega⟩ hR)
            | (have z : (latestOf M i) = -1 := c_41; exact ih (k + 1) _ _ _ _ (by omega) (by omega) (by rw [st, if_neg (fun g => g.2.1 z)]) ⟨by omega, by omega⟩ hR)
          · simp only [bi_z, Classical.not_not] at c_69
            refine e_iload_n dX10_pull_72 rfl ?_
            refine e_aload dX10_pull_73 rfl ?_
            refine e_iload dX10_pull_75 rfl ?_
            refine e_aload_n dX10_pull_77 rfl ?_
            refine c_getR (kt := (6, 0, 104)) (by decide) (Or.inl (by decide)) dX10_pull_78 f_X10_83 hT rfl (Nat.succ_ne_zero _) (fun q_78 h_78 => ?_)
            refine e_iload dX10_pull_81 rfl ?_
            refine e_cVR (as := [_]) (ci := 5) (kr := (10, 0, (vtag (latestOf M i)))) dX10_pull_83 k_X5_at l_X10_186 i_X5_at v_X5_at h_78 rfl (by decide) ⟨_, _, rfl⟩ rfl rfl rfl rfl (Nat.le_of_ble_eq_true rfl) ⟨by decide, by decide⟩ (Nat.le_of_ble_eq_true rfl) (by decide) (c_5_at h_78 hR hI hW ⟨by omega, by omega⟩) (fun q_83 h_83 => ?_)
            refine e_cV (as := [_, _]) (ci := 1) dX10_pull_86 k_X1_catchUp l_X10_194 i_X1_catchUp v_X1_catchUp h_25 rfl (by decide) ⟨_, _, rfl⟩ rfl rfl rfl rfl (Nat.le_of_ble_eq_true rfl) ⟨by decide, by decide⟩ (Nat.le_of_ble_eq_true rfl) (by decide) (c_1_catchUp h_25 hp9 h_83 ⟨by omega, by omega⟩ hR hI hW) ?_
            refine e_if_eq (tgt := 96) dX10_pull_89 (by decide) bi_iI (fun c_89 => ?_) (fun c_89 => ?_)
            · simp only [bi_z, Classical.not_not, q_us_ap, editsF_3, Int.reduceEq, Int.reduceNeg, false_and, and_false, and_self, if_true, if_false, true_and, and_true, ite_self, lockF_thr, rightF_thr, latestOf_thr, asOfT_thr] at c_89
              refine e_iconst dX10_pull_96 ?_
              refine e_iadd dX10_pull_97 ?_
              refine e_istore_n (ls2 := [_, _, _, _, _, _]) dX10_pull_98 (Nat.le_of_ble_eq_true rfl) rfl ?_
              refine e_iinc (ls2 := [_, _, _, _, _, _]) dX10_pull_99 rfl (Nat.le_of_ble_eq_true rfl) rfl ?_
              refine e_goto (tgt := 9) dX10_pull_102 (by decide) ?_
              refine e_drop (k := 4) (ls2 := [_, _, _, _, _, _]) rfl ?_
              refine e_drop (k := 5) (ls2 := [_, _, _, _, _, _]) rfl ?_
              first
              | (have z : isAsP M (16 * m + i) (latestOf M i) := c_89; exact ih (k + 1) _ _ _ _ (by omega) (by omega) (by rw [st, if_pos ⟨fun y => y c_50, c_41, c_69⟩, if_pos z]) ⟨by omega, by omega⟩ (rc_catch hR hW hI hp9))
              | (have z : ¬ isAsP M (16 * m + i) (latestOf M i) := c_89; exact ih (k + 1) _ _ _ _ (by omega) (by omega) (by rw [st, if_pos ⟨fun y => y c_50, c_41, c_69⟩, if_neg z]) ⟨by omega, by omega⟩ (rc_catch hR hW hI hp9))
              | (have z : ¬ mayReadP M (16 * m + i) (latestOf M i) := c_69; exact ih (k + 1) _ _ _ _ (by omega) (by omega) (by rw [st, if_neg (fun g => z g.2.2)]) ⟨by omega, by omega⟩ hR)
              | (have z : isOtherP M (16 * m + i) := c_50; exact ih (k + 1) _ _ _ _ (by omega) (by omega) (by rw [st, if_neg (fun g => g.1 z)]) ⟨by omega, by omega⟩ hR)
              | (have z : (latestOf M i) = -1 := c_41; exact ih (k + 1) _ _ _ _ (by omega) (by omega) (by rw [st, if_neg (fun g => g.2.1 z)]) ⟨by omega, by omega⟩ hR)
            · simp only [bi_z, Classical.not_not, q_us_ap, editsF_3, Int.reduceEq, Int.reduceNeg, false_and, and_false, and_self, if_true, if_false, true_and, and_true, ite_self, lockF_thr, rightF_thr, latestOf_thr, asOfT_thr] at c_89
              refine e_iconst dX10_pull_92 ?_
              refine e_goto (tgt := 97) dX10_pull_93 (by decide) ?_
              refine e_iadd dX10_pull_97 ?_
              refine e_istore_n (ls2 := [_, _, _, _, _, _]) dX10_pull_98 (Nat.le_of_ble_eq_true rfl) rfl ?_
              refine e_iinc (ls2 := [_, _, _, _, _, _]) dX10_pull_99 rfl (Nat.le_of_ble_eq_true rfl) rfl ?_
              refine e_goto (tgt := 9) dX10_pull_102 (by decide) ?_
              refine e_drop (k := 4) (ls2 := [_, _, _, _, _, _]) rfl ?_
              refine e_drop (k := 5) (ls2 := [_, _, _, _, _, _]) rfl ?_
              first
              | (have z : isAsP M (16 * m + i) (latestOf M i) := c_89; exact ih (k + 1) _ _ _ _ (by omega) (by omega) (by rw [st, if_pos ⟨fun y => y c_50, c_41, c_69⟩, if_pos z]) ⟨by omega, by omega⟩ (rc_catch hR hW hI hp9))
              | (have z : ¬ isAsP M (16 * m + i) (latestOf M i) := c_89; exact ih (k + 1) _ _ _ _ (by omega) (by omega) (by rw [st, if_pos ⟨fun y => y c_50, c_41, c_69⟩, if_neg z]) ⟨by omega, by omega⟩ (rc_catch hR hW hI hp9))
              | (have z : ¬ mayReadP M (16 * m + i) (latestOf M i) := c_69; exact ih (k + 1) _ _ _ _ (by omega) (by omega) (by rw [st, if_neg (fun g => z g.2.2)]) ⟨by omega, by omega⟩ hR)
              | (have z : isOtherP M (16 * m + i) := c_50; exact ih (k + 1) _ _ _ _ (by omega) (by omega) (by rw [st, if_neg (fun g => g.1 z)]) ⟨by omega, by omega⟩ hR)
              | (have z : (latestOf M i) = -1 := c_41; exact ih (k + 1) _ _ _ _ (by omega) (by omega) (by rw [st, if_neg (fun g => g.2.1 z)]) ⟨by omega, by omega⟩ hR)
set_option maxRecDepth 20000 in
set_option maxHeartbeats 4000000 in
theorem c_10_pull {K : q_K} {B M C : q_S} {a : Nat} (hT : K a = (11, 0, 100)) (hR : RC M C) (hI : MI M) (hW : WR M) (hB : q_tb K (M 50 16)) {c s : Nat} (hc : 1 ≤ c) (hs : 6 ≤ s) {m : Int} (hm : q_iI m)  : q_E mX10_pull 0 [some (q_R a), some (q_I m), none, none, none, none] [] K B C c s (PB (pullF M m) "java/lang/IndexOutOfBoundsException" "" "" K B) := by
  have hm1 := hm.1
  have hm2 := hm.2
  by_cases e0 : 0 ≤ m ∧ m < 3
  · refine e_iload_n dX10_pull_0 rfl ?_
    refine e_iconst dX10_pull_1 ?_
    refine e_cS (as := [_, _]) dX10_pull_2 k_X10_needIndex l_X10_99 s_X10_needIndex rfl rfl rfl rfl (Nat.le_of_ble_eq_true rfl) ⟨by decide, by decide⟩ (Nat.le_of_ble_eq_true rfl) (by decide) (c_nI1 hm ⟨by decide, by decide⟩ (by omega)) ?_
    refine e_iconst dX10_pull_5 ?_
    refine e_istore_n (ls2 := [_, _, _, _, _, _]) dX10_pull_6 (Nat.le_of_ble_eq_true rfl) rfl ?_
    refine e_iconst dX10_pull_7 ?_
    refine e_istore_n (ls2 := [_, _, _, _, _, _]) dX10_pull_8 (Nat.le_of_ble_eq_true rfl) rfl ?_
    exact c_10_pull_l hT hW hI hB ⟨by omega, by omega⟩ 16 0 0 0 (thr M 0) C (by omega) rfl rfl ⟨by omega, by omega⟩ (rc_thr hR 0)
  · refine e_iload_n dX10_pull_0 rfl ?_
    refine e_iconst dX10_pull_1 ?_
    exact e_cST (as := [_, _]) dX10_pull_2 k_X10_needIndex l_X10_99 s_X10_needIndex rfl rfl rfl rfl (Nat.le_of_ble_eq_true rfl) ⟨by decide, by decide⟩ (Nat.le_of_ble_eq_true rfl) (by decide) (c_nI0 hm ⟨by decide, by decide⟩ hc hs (by omega)) (pbq1 hB hR (by unfold pullF; rw [if_pos (by omega)]))
set_option maxRecDepth 20000 in
set_option maxHeartbeats 4000000 in
theorem c_10_fo_l {B : q_S} {a : Nat} {e : Int} (he : 1 ≤ e ∧ e ≤ 120) {c s : Nat} : ∀ (r : Nat) {K : q_K} (n : Int) (M C : q_S) (hT : K a = (11, 0, 100)), M 50 16 - M 50 36 ≤ r → WR M → MI M → M 50 41 = 0 → RC M C → q_tb K (M 50 16) → (0 ≤ n ∧ n ≤ e) → q_E mX10_follow 9 [some (q_R a), some (q_I e), some (q_I n), none] [] K B C c s (PB (foF e (r + 1) n M) "java/lang/IllegalArgumentException" "" "" K B) := by
  intro r
  induction r with
  | zero =>
    intro K n M C hT h1 hW hI h41 hR hB hn
    have h16 := rs_16 hW
    have h36 := rs_36 hW
    have st : foF e 1 n M = if e ≤ n ∨ M 50 16 ≤ M 50 36 then (n, M) else foF e 0 (n + (1 - M 22 (M 50 36))) (foS M) := rfl
    refine e_aload_n dX10_follow_9 rfl ?_
    refine c_getI (by decide) dX10_follow_10 f_X10_70 (Or.inl rfl) hT ?_
    rw [rs_foll hR]
    have g_10 := rs_36 hW
    refine e_aload_n dX10_follow_13 rfl ?_
    refine c_getR (kt := (6, 0, 104)) (by decide) (Or.inl (by decide)) dX10_follow_14 f_X10_83 hT rfl (Nat.succ_ne_zero _) (fun q_14 h_14 => ?_)
    refine c_getI (by decide) dX10_follow_17 f_X10_159 (Or.inl rfl) h_14 ?_
    rw [rs_made hR]
    have g_17 := rs_16 hW
    refine e_icmp_ge (tgt := 74) dX10_follow_20 (by decide) ⟨by omega, by omega⟩ ⟨by omega, by omega⟩ (fun c_20 => ?_) (fun c_20 => ?_)
    · refine e_iload_n dX10_follow_74 rfl ?_
      exact e_iret dX10_follow_75 (Or.inl rfl) (pbm0 (X := M) (by rw [st, if_pos (by omega)]) hB h41 hR)
    · exfalso; omega
  | succ r ih =>
    intro K n M C hT h1 hW hI h41 hR hB hn
    have h16 := rs_16 hW
    have h36 := rs_36 hW
    have hvt := vtag_rg (v := (M 50 36)) (by omega)
    have g22 : 0 ≤ M 22 (M 50 36) ∧ M 22 (M 50 36) ≤ 1 := hW 22 _
    have ev : vco M (M 50 36) = M 21 (M 50 36) := by unfold vco; rw [if_neg (by omega)]
    have st : foF e (r + 1 + 1) n M = if e ≤ n ∨ M 50 16 ≤ M 50 36 then (n, M) else foF e (r + 1) (n + (1 - M 22 (M 50 36))) (foS M) := rfl
    refine e_aload_n dX10_follow_9 rfl ?_
    refine c_getI (by decide) dX10_follow_10 f_X10_70 (Or.inl rfl) hT ?_
    rw [rs_foll hR]
    have g_10 := rs_36 hW
    refine e_aload_n dX10_follow_13 rfl ?_
    refine c_getR (kt := (6, 0, 104)) (by decide) (Or.inl (by decide)) dX10_follow_14 f_X10_83 hT rfl (Nat.succ_ne_zero _) (fun q_14 h_14 => ?_)
    refine c_getI (by decide) dX10_follow_17 f_X10_159 (Or.inl rfl) h_14 ?_
    rw [rs_made hR]
    have g_17 := rs_16 hW
    refine e_icmp_ge (tgt := 74) dX10_follow_20 (by decide) ⟨by omega, by omega⟩ ⟨by omega, by omega⟩ (fun c_20 => ?_) (fun c_20 => ?_)
    · refine e_iload_n dX10_follow_74 rfl ?_
      exact e_iret dX10_follow_75 (Or.inl rfl) (pbm0 (X := M) (by rw [st, if_pos (by omega)]) hB h41 hR)
    · refine e_iload_n dX10_follow_23 rfl ?_
      refine e_iload_n dX10_follow_24 rfl ?_
      refine e_icmp_ge (tgt := 74) dX10_follow_25 (by decide) ⟨by omega, by omega⟩ ⟨by omega, by omega⟩ (fun c_25 => ?_) (fun c_25 => ?_)
      · refine e_iload_n dX10_follow_74 rfl ?_
        exact e_iret dX10_follow_75 (Or.inl rfl) (pbm0 (X := M) (by rw [st, if_pos (by omega)]) hB h41 hR)
      · refine e_aload_n dX10_follow_28 rfl ?_
        refine c_getR (kt := (6, 0, 104)) (by decide) (Or.inl (by decide)) dX10_follow_29 f_X10_83 hT rfl (Nat.succ_ne_zero _) (fun q_29 h_29 => ?_)
        refine e_aload_n dX10_follow_32 rfl ?_
        refine c_getI (by decide) dX10_follow_33 f_X10_70 (Or.inl rfl) hT ?_
        rw [rs_foll hR]
        have g_33 := rs_36 hW
        refine e_cVR (as := [_]) (ci := 5) (kr := (10, 0, (vtag (M 50 36)))) dX10_follow_36 k_X5_at l_X10_186 i_X5_at v_X5_at h_29 rfl (by decide) ⟨_, _, rfl⟩ rfl rfl rfl rfl (Nat.le_of_ble_eq_true rfl) ⟨by decide, by decide⟩ (Nat.le_of_ble_eq_true rfl) (by decide) (c_5_at h_29 hR hI hW ⟨by omega, by omega⟩) (fun q_36 h_36 => ?_)
        refine e_astore_n (ls2 := [_, _, _, _]) dX10_follow_39 (Nat.le_of_ble_eq_true rfl) rfl ?_
        refine e_aload_n dX10_follow_40 rfl ?_
        refine c_getI (by have := vtag_rg (v := (M 50 36)) (by omega); omega) dX10_follow_41 f_X10_241 (Or.inr rfl) h_36 ?_
        rw [rw_5 hR (v := (M 50 36)) ⟨by omega, by omega⟩]
        have g_41 : 0 ≤ M 22 (M 50 36) ∧ M 22 (M 50 36) ≤ 1 := hW 22 (M 50 36)
        refine e_if_eq (tgt := 61) dX10_follow_44 (by decide) ⟨by omega, by omega⟩ (fun c_44 => ?_) (fun c_44 => ?_)
        · refine e_aload_n dX10_follow_61 rfl ?_
          refine e_dup dX10_follow_62 rfl ?_
          refine c_getI (by decide) dX10_follow_63 f_X10_70 (Or.inl rfl) hT ?_
          rw [rs_foll hR]
          have g_63 := rs_36 hW
          refine e_iconst dX10_follow_66 ?_
          refine e_iadd dX10_follow_67 ?_
          refine c_putI (by decide) dX10_follow_68 f_X10_70 rfl hT (by decide) ⟨by omega, by omega⟩ ?_
          refine e_goto (tgt := 9) dX10_follow_71 (by decide) ?_
          refine e_drop (k := 3) (ls2 := [_, _, _, _]) rfl ?_
          have hT9 := hT
          have x2 : q_xt K K := q_xt.rfl
          have hB2 := hB
          have ef2 : RC (foT M) C := by unfold foT; rw [if_pos (by omega)]; exact hR
          rw [st, if_neg (by omega), show n + (1 - M 22 (M 50 36)) = n by omega]
          exact e_conseq (fun _ _ _ _ g => pb_xt x2 g) (ih _ _ _ hT9 (by rw [foS_50 (by decide), foS_36]; omega) (wr_foS hW (by omega)) (mi_foS hI) (by rw [foS_50 (by decide)]; exact h41) (rc_foS ef2 h16.1) (by rw [foS_50 (by decide)]; exact hB2) ⟨by omega, by omega⟩)
        · refine e_aload_n dX10_follow_47 rfl ?_
          refine c_getR (kt := (9, 0, 105)) (by decide) (Or.inl (by decide)) dX10_follow_48 f_X10_29 hT rfl (Nat.succ_ne_zero _) (fun q_48 h_48 => ?_)
          refine e_aload_n dX10_follow_51 rfl ?_
          have hv_52 : vcode (vco M (M 50 36)) := vco_ok hI ⟨by omega, by omega⟩
          have hg_52 := hv_52.1
          refine c_getR (kt := (1, 0, (1000000 + 3 * vco M (M 50 36)))) (by have := vtag_rg (v := (M 50 36)) (by omega); omega) (Or.inl (by have := vtag_rg (v := (M 50 36)) (by omega); omega)) dX10_follow_52 f_X10_269 h_36 (kl_vc ⟨by omega, by omega⟩ (by omega) (rv_4 hR ⟨by omega, by omega⟩)) (Nat.succ_ne_zero _) (fun q_52 h_52 => ?_)
          refine e_cVX (as := [_]) (ci := 8) (c1 := 0) (s1 := 0) (c2 := c) (s2 := s) dX10_follow_55 k_X8_copyToSecond l_X10_270 i_X8_copyToSecond v_X8_copyToSecond h_48 rfl (by decide) ⟨_, _, rfl⟩ rfl rfl rfl rfl (Nat.le_of_ble_eq_true rfl) ⟨by decide, by decide⟩ (by omega) (by omega) (Nat.le_of_ble_eq_true rfl) (by decide) (c_8_second h_48 h_52 hv_52 hI hW hB hR) (fun K2 C2 x2 hB2 hR2 => ?_)
          have hT9 := xt_get x2 hT (Nat.succ_ne_zero _)
          have ef : foT M = (scn M (vco M (M 50 36)) (ncut (vco M (M 50 36))).toNat) := by unfold foT; rw [if_neg (by omega), ev]
          have ef2 : RC (foT M) C2 := by rw [ef]; exact hR2
          rw [show (scn M (vco M (M 50 36)) (ncut (vco M (M 50 36))).toNat) 50 16 = M 50 16 from scn_o (by decide) _] at hB2
          refine e_drop (k := 3) (ls2 := [_, _, _, _]) rfl ?_
          refine e_iinc (ls2 := [_, _, _, _]) dX10_follow_58 rfl (Nat.le_of_ble_eq_true rfl) rfl ?_
          refine e_aload_n dX10_follow_61 rfl ?_
          refine e_dup dX10_follow_62 rfl ?_
          refine c_getI (by decide) dX10_follow_63 f_X10_70 (Or.inl rfl) hT9 ?_
          rw [rs_foll hR2, scn_o (by decide)]
          refine e_iconst dX10_follow_66 ?_
          refine e_iadd dX10_follow_67 ?_
          refine c_putI (by decide) dX10_follow_68 f_X10_70 rfl hT9 (by decide) ⟨by omega, by omega⟩ ?_
          refine e_goto (tgt := 9) dX10_follow_71 (by decide) ?_
          rw [st, if_neg (by omega), show n + (1 - M 22 (M 50 36)) = n + 1 by omega]
          exact e_conseq (fun _ _ _ _ g => pb_xt x2 g) (ih _ _ _ hT9 (by rw [foS_50 (by decide), foS_36]; omega) (wr_foS hW (by omega)) (mi_foS hI) (by rw [foS_50 (by decide)]; exact h41) (rc_foS ef2 h16.1) (by rw [foS_50 (by decide)]; exact hB2) ⟨by omega, by omega⟩)
set_option maxRecDepth 20000 in
set_option maxHeartbeats 4000000 in
theorem c_10_follow {K : q_K} {B M C : q_S} {a : Nat} (hT : K a = (11, 0, 100)) (hR : RC M C) (hI : MI M) (hW : WR M) (hB : q_tb K (M 50 16)) {c s : Nat} (hc : 1 ≤ c) (hs : 6 ≤ s) {e : Int} (he : q_iI e) (h3616 : M 50 36 ≤ M 50 16) : q_E mX10_follow 0 [some (q_R a), some (q_I e), none, none] [] K B C c s (PB (followF M e) "java/lang/IllegalArgumentException" "" "" K B) := by
  have h16 := rs_16 hW
  have h36 := rs_36 hW
  have he1 := he.1
  have he2 := he.2
  by_cases e0 : 1 ≤ e ∧ e ≤ 120
  · refine e_iload_n dX10_follow_0 rfl ?_
    refine e_iconst dX10_follow_1 ?_
    refine e_bipush dX10_follow_2 (by decide) ?_
    refine e_cS (as := [_, _, _]) dX10_follow_4 k_X10_needRange l_X10_88 s_X10_needRange rfl rfl rfl rfl (Nat.le_of_ble_eq_true rfl) ⟨by decide, by decide⟩ (Nat.le_of_ble_eq_true rfl) (by decide) (c_nR1 he ⟨by decide, by decide⟩ ⟨by decide, by decide⟩ (by omega)) ?_
    refine e_iconst dX10_follow_7 ?_
    refine e_istore_n (ls2 := [_, _, _, _]) dX10_follow_8 (Nat.le_of_ble_eq_true rfl) rfl ?_
    unfold followF
    rw [if_neg (fun g => g e0)]
    rw [show (M 50 16 - M 50 36 + 1).toNat = (M 50 16 - M 50 36).toNat + 1 by omega]
    exact c_10_fo_l e0 (M 50 16 - M 50 36).toNat 0 (thr M 0) C hT (by show M 50 16 - M 50 36 ≤ _; omega) (hW.thr ⟨by decide, by decide⟩) (mi_thr hI 0) rfl (rc_thr hR 0) hB ⟨by omega, by omega⟩
  · refine e_iload_n dX10_follow_0 rfl ?_
    refine e_iconst dX10_follow_1 ?_
    refine e_bipush dX10_follow_2 (by decide) ?_
    exact e_cST (as := [_, _, _]) dX10_follow_4 k_X10_needRange l_X10_88 s_X10_needRange rfl rfl rfl rfl (Nat.le_of_ble_eq_true rfl) ⟨by decide, by decide⟩ (Nat.le_of_ble_eq_true rfl) (by decide) (c_nR0 he ⟨by decide, by decide⟩ ⟨by decide, by decide⟩ hc hs (by omega)) (pbq1 hB hR (by unfold followF; rw [if_pos (by omega)]))
set_option maxRecDepth 20000 in
set_option maxHeartbeats 4000000 in
theorem c_10_makeRoom_l {K : q_K} {B : q_S} {a : Nat} (hT : K a = (11, 0, 100)) {x : Nat} {m n : Int} (hx : K x = (7, 0, 110 + m)) (hm : 0 ≤ m ∧ m ≤ 2) (hn : 0 ≤ n ∧ n ≤ 100) : ∀ (r : Nat) (i : Int) (M C : q_S), (0 ≤ i ∧ i + r = 16) → RC M C → MI M → WR M → q_tb K (M 50 16) → n ≤ M 12 m - takF M m 16 + cgL M m 16 → q_E mX10_makeRoom 2 [some (q_R a), some (q_R x), some (q_I n), some (q_I i), none] [] K B C 0 0 (PX none (mrF m n r M) K B) := by
  intro r
  induction r with
  | zero =>
    intro i M C h1 hR hI hW hB h2
    have ht := takF_rg M m 16
    refine e_iload_n dX10_makeRoom_2 rfl ?_
    refine e_bipush dX10_makeRoom_3 (by decide) ?_
    refine e_icmp_ge (tgt := 54) dX10_makeRoom_5 (by decide) ⟨by omega, by omega⟩ ⟨by omega, by omega⟩ (fun c_5 => ?_) (fun c_5 => ?_)
    · exact e_ret dX10_makeRoom_54 rfl ⟨rfl, ⟨q_xt.rfl, hB⟩, rfl, hR⟩
    · exfalso; omega
  | succ r ih =>
    intro i M C h1 hR hI hW hB h2
    have ht := takF_rg M m 16
    have hg := goF_sp M m 16
    have g12 : 0 ≤ M 12 m ∧ M 12 m ≤ 200 := hW 12 m
    have st : mrF m n (r + 1) M = if M 12 m - takF M m 16 < n then mrF m n r (q_us M 2 (goF M m 16) 1) else M := rfl
    refine e_iload_n dX10_makeRoom_2 rfl ?_
    refine e_bipush dX10_makeRoom_3 (by decide) ?_
    refine e_icmp_ge (tgt := 54) dX10_makeRoom_5 (by decide) ⟨by omega, by omega⟩ ⟨by omega, by omega⟩ (fun c_5 => ?_) (fun c_5 => ?_)
    · exfalso; omega
    · refine e_aload_n dX10_makeRoom_8 rfl ?_
      refine e_cV (as := []) (ci := 6) dX10_makeRoom_9 k_X6_takenRoom l_X10_297 i_X6_takenRoom v_X6_takenRoom hx rfl (by decide) ⟨_, _, rfl⟩ rfl rfl rfl rfl (Nat.le_of_ble_eq_true rfl) ⟨by decide, by decide⟩ (Nat.le_of_ble_eq_true rfl) (by decide) (c_6_takenRoom hx hm hR hI hW) ?_
      refine e_iload_n dX10_makeRoom_12 rfl ?_
      refine e_iadd dX10_makeRoom_13 ?_
      refine e_aload_n dX10_makeRoom_14 rfl ?_
      refine c_getI (by omega) dX10_makeRoom_15 f_X10_149 (Or.inl rfl) hx ?_
      rw [rm_4 hR (m := m) ⟨by omega, by omega⟩]
      have g_15 : 0 ≤ M 12 m ∧ M 12 m ≤ 200 := hW 12 m
      refine e_icmp_le (tgt := 54) dX10_makeRoom_18 (by decide) ⟨by omega, by omega⟩ ⟨by omega, by omega⟩ (fun c_18 => ?_) (fun c_18 => ?_)
      · refine e_ret dX10_makeRoom_54 rfl ?_
        rw [st, if_neg (by omega)]
        exact ⟨rfl, ⟨q_xt.rfl, hB⟩, rfl, hR⟩
      · refine e_aload_n dX10_makeRoom_21 rfl ?_
        refine e_aload_n dX10_makeRoom_22 rfl ?_
        have hgo : ¬ (goF M m 16) = -1 := by omega
        have hg2 := hg.resolve_left (fun g => hgo g.1)
        have hg3 := hg2.2.2.1
        have ep : 16 * m + ((goF M m 16) - 16 * m) = (goF M m 16) := by omega
        have gt := goes_tak hg2.1 hg2.2.2 16
        rw [if_pos (show (goF M m 16) < 16 * m + ((16 : Nat) : Int) by omega), if_pos (show (goF M m 16) < 16 * m + ((16 : Nat) : Int) by omega)] at gt
        refine e_cV (as := [_]) (ci := 10) dX10_makeRoom_23 k_X10_openedLongestAgo l_X10_351 i_X10_openedLongestAgo v_X10_openedLongestAgo hT rfl (by decide) ⟨_, _, rfl⟩ rfl rfl rfl rfl (Nat.le_of_ble_eq_true rfl) ⟨by decide, by decide⟩ (Nat.le_of_ble_eq_true rfl) (by decide) (c_10_openedLongestAgo hT hx hm hR hI hW) ?_
        rw [if_neg hgo]
        refine e_istore (ls2 := [_, _, _, _, _]) dX10_makeRoom_26 (Nat.le_of_ble_eq_true rfl) rfl ?_
        refine e_iload dX10_makeRoom_28 rfl ?_
        refine e_iconst dX10_makeRoom_30 ?_
        refine e_icmp_ne (tgt := 37) dX10_makeRoom_31 (by decide) ⟨by omega, by omega⟩ ⟨by omega, by omega⟩ (fun c_31 => ?_) (fun c_31 => ?_)
        · refine e_aload_n dX10_makeRoom_37 rfl ?_
          refine c_getR (kt := (31, 16, (140 + m))) (by omega) (Or.inl (by omega)) dX10_makeRoom_38 f_X10_105 hx (kl_c ⟨by omega, by omega⟩) (Nat.succ_ne_zero _) (fun q_38 h_38 => ?_)
          refine e_iload dX10_makeRoom_41 rfl ?_
          refine c_aald (ci := 1) (kt := (2, 0, (200 + (16 * m + ((goF M m 16) - 16 * m))))) (by omega) (Or.inl (by omega)) dX10_makeRoom_43 h_38 (by decide) (by omega) (by omega) (kl_p ⟨by omega, by omega⟩ ⟨by omega, by omega⟩) (Nat.succ_ne_zero _) (fun q_43 h_43 => ?_)
          refine e_iconst dX10_makeRoom_44 ?_
          refine c_putI (by omega) dX10_makeRoom_45 f_X10_109 rfl h_43 (by omega) ⟨by omega, by omega⟩ ?_
          refine e_iinc (ls2 := [_, _, _, _, _]) dX10_makeRoom_48 rfl (Nat.le_of_ble_eq_true rfl) rfl ?_
          refine e_goto (tgt := 2) dX10_makeRoom_51 (by decide) ?_
          refine e_drop (k := 4) (ls2 := [_, _, _, _, _]) rfl ?_
          rw [st, if_pos (by omega)]
          exact ih _ _ _ ⟨by omega, by omega⟩ (by rw [ep]; exact rc_away hR hW ⟨by omega, by omega⟩ hg3) (mi_state hI ⟨by omega, by omega⟩ (by omega) (by decide)) (WR.up hW ⟨(show (0 : Int) ≤ 1 by decide), (show (1 : Int) ≤ 2 by decide)⟩) hB (by rw [gt.1, gt.2.1]; show n ≤ M 12 m - _ + _; omega)
        · exfalso; omega
set_option maxRecDepth 20000 in
set_option maxHeartbeats 4000000 in
theorem c_10_makeRoom {K : q_K} {B M C : q_S} {a : Nat} (hT : K a = (11, 0, 100)) {x : Nat} {m n : Int} (hx : K x = (7, 0, 110 + m)) (hm : 0 ≤ m ∧ m ≤ 2) (hn : 0 ≤ n ∧ n ≤ 100) (hR : RC M C) (hI : MI M) (hW : WR M) (hB : q_tb K (M 50 16)) (h2 : n ≤ M 12 m - takF M m 16 + cgL M m 16) : q_E mX10_makeRoom 0 [some (q_R a), some (q_R x), some (q_I n), none, none] [] K B C 0 0 (PX none (mrF m n 16 M) K B) := by
  refine e_iconst dX10_makeRoom_0 ?_
  refine e_istore_n (ls2 := [_, _, _, _, _]) dX10_makeRoom_1 (Nat.le_of_ble_eq_true rfl) rfl ?_
  exact c_10_makeRoom_l hT hx hm hn 16 0 M C ⟨by omega, by omega⟩ hR hI hW hB h2
set_option maxRecDepth 20000 in
set_option maxHeartbeats 4000000 in
theorem c_10_open {K : q_K} {B M C : q_S} {a : Nat} (hT : K a = (11, 0, 100)) (hR : RC M C) (hI : MI M) (hW : WR M) (hB : q_tb K (M 50 16)) {c s : Nat} (hc : 1 ≤ c) (hs : 6 ≤ s) {m f : Int} (hm : q_iI m) (hf : q_iI f) (h99 : M 50 9 ≤ 999) : q_E mX10_open 0 [some (q_R a), some (q_I m), some (q_I f), none] [] K B C c s (PB (openF M m f) "java/lang/IndexOutOfBoundsException" "java/lang/IllegalStateException" "" K B) := by
  have h16 := rs_16 hW
  have h9 := rs_9 hW
  have hWN : WR (thr M 0) := hW.thr ⟨by decide, by decide⟩
  have hIN : MI (thr M 0) := mi_thr hI 0
  have hRN : RC (thr M 0) C := rc_thr hR 0
  have hp9 := fun (g1 : 0 ≤ m ∧ m < 3) (g2 : 0 ≤ f ∧ f < 16) => (show 0 ≤ (16 * m + f) ∧ (16 * m + f) < 48 by omega)
  have hm1 := hm.1
  have hm2 := hm.2
  have hf1 := hf.1
  have hf2 := hf.2
  by_cases e0 : 0 ≤ m ∧ m < 3
  · by_cases e1 : 0 ≤ f ∧ f < 16
    · by_cases e2 : M 2 (16 * m + f) = 1
      · refine e_iload_n dX10_open_0 rfl ?_
        refine e_iconst dX10_open_1 ?_
        refine e_cS (as := [_, _]) dX10_open_2 k_X10_needIndex l_X10_99 s_X10_needIndex rfl rfl rfl rfl (Nat.le_of_ble_eq_true rfl) ⟨by decide, by decide⟩ (Nat.le_of_ble_eq_true rfl) (by decide) (c_nI1 hm ⟨by decide, by decide⟩ (by omega)) ?_
        refine e_iload_n dX10_open_5 rfl ?_
        refine e_bipush dX10_open_6 (by decide) ?_
        refine e_cS (as := [_, _]) dX10_open_8 k_X10_needIndex l_X10_99 s_X10_needIndex rfl rfl rfl rfl (Nat.le_of_ble_eq_true rfl) ⟨by decide, by decide⟩ (Nat.le_of_ble_eq_true rfl) (by decide) (c_nI1 hf ⟨by decide, by decide⟩ (by omega)) ?_
        refine e_aload_n dX10_open_11 rfl ?_
        refine c_getR (kt := (36, 3, 102)) (by decide) (Or.inl (by decide)) dX10_open_12 f_X10_15 hT rfl (Nat.succ_ne_zero _) (fun q_12 h_12 => ?_)
        refine e_iload_n dX10_open_15 rfl ?_
        refine c_aald (ci := 6) (kt := (7, 0, (110 + m))) (by decide) (Or.inl (by decide)) dX10_open_16 h_12 (by decide) (by omega) (by omega) (kl_m ⟨by omega, by omega⟩) (Nat.succ_ne_zero _) (fun q_16 h_16 => ?_)
        refine c_getR (kt := (31, 16, (140 + m))) (by omega) (Or.inl (by omega)) dX10_open_17 f_X10_105 h_16 (kl_c ⟨by omega, by omega⟩) (Nat.succ_ne_zero _) (fun q_17 h_17 => ?_)
        refine e_iload_n dX10_open_20 rfl ?_
        refine c_aald (ci := 1) (kt := (2, 0, (200 + (16 * m + f)))) (by omega) (Or.inl (by omega)) dX10_open_21 h_17 (by decide) (by omega) (by omega) (kl_p ⟨by omega, by omega⟩ ⟨by omega, by omega⟩) (Nat.succ_ne_zero _) (fun q_21 h_21 => ?_)
        refine e_astore_n (ls2 := [_, _, _, _]) dX10_open_22 (Nat.le_of_ble_eq_true rfl) rfl ?_
        refine e_aload_n dX10_open_23 rfl ?_
        refine c_getI (by omega) dX10_open_24 f_X10_109 (Or.inl rfl) h_21 ?_
        rw [rp_0 hR (p := (16 * m + f)) ⟨by omega, by omega⟩]
        have g_24 : 0 ≤ M 2 (16 * m + f) ∧ M 2 (16 * m + f) ≤ 2 := hW 2 (16 * m + f)
        refine e_if_eq (tgt := 47) dX10_open_27 (by decide) ⟨by omega, by omega⟩ (fun c_27 => ?_) (fun c_27 => ?_)
        · exfalso; omega
        · refine e_aload_n dX10_open_30 rfl ?_
          refine c_getI (by omega) dX10_open_31 f_X10_109 (Or.inl rfl) h_21 ?_
          rw [rp_0 hR (p := (16 * m + f)) ⟨by omega, by omega⟩]
          have g_31 : 0 ≤ M 2 (16 * m + f) ∧ M 2 (16 * m + f) ≤ 2 := hW 2 (16 * m + f)
          refine e_iconst dX10_open_34 ?_
          refine e_icmp_ne (tgt := 57) dX10_open_35 (by decide) ⟨by omega, by omega⟩ ⟨by omega, by omega⟩ (fun c_35 => ?_) (fun c_35 => ?_)
          · exfalso; omega
          · refine e_aload_n dX10_open_38 rfl ?_
            refine e_iload_n dX10_open_39 rfl ?_
            refine e_aload_n dX10_open_40 rfl ?_
            refine e_cV (as := [_, _]) (ci := 10) dX10_open_41 k_X10_canFetch l_X10_198 i_X10_canFetch v_X10_canFetch hT rfl (by decide) ⟨_, _, rfl⟩ rfl rfl rfl rfl (Nat.le_of_ble_eq_true rfl) ⟨by decide, by decide⟩ (Nat.le_of_ble_eq_true rfl) (by decide) (c_10_canFetch (M := thr M 0) hT h_21 ⟨by omega, by omega⟩ ⟨by omega, by omega⟩ hRN hIN hWN c_27) ?_
            refine e_if_ne (tgt := 57) dX10_open_44 (by decide) bi_iI (fun c_44 => ?_) (fun c_44 => ?_)
            · simp only [bi_z, Classical.not_not] at c_44
              refine e_aload_n dX10_open_57 rfl ?_
              refine c_getI (by omega) dX10_open_58 f_X10_109 (Or.inl rfl) h_21 ?_
              rw [rp_0 hR (p := (16 * m + f)) ⟨by omega, by omega⟩]
              have g_58 : 0 ≤ M 2 (16 * m + f) ∧ M 2 (16 * m + f) ≤ 2 := hW 2 (16 * m + f)
              refine e_iconst dX10_open_61 ?_
              refine e_icmp_ne (tgt := 87) dX10_open_62 (by decide) ⟨by omega, by omega⟩ ⟨by omega, by omega⟩ (fun c_62 => ?_) (fun c_62 => ?_)
              · exfalso; omega
              · refine e_aload_n dX10_open_65 rfl ?_
                refine e_aload_n dX10_open_66 rfl ?_
                refine c_getR (kt := (36, 3, 102)) (by decide) (Or.inl (by decide)) dX10_open_67 f_X10_15 hT rfl (Nat.succ_ne_zero _) (fun q_67 h_67 => ?_)
                refine e_iload_n dX10_open_70 rfl ?_
                refine c_aald (ci := 6) (kt := (7, 0, (110 + m))) (by decide) (Or.inl (by decide)) dX10_open_71 h_67 (by decide) (by omega) (by omega) (kl_m ⟨by omega, by omega⟩) (Nat.succ_ne_zero _) (fun q_71 h_71 => ?_)
                refine e_aload_n dX10_open_72 rfl ?_
                have hv_73 : vcode (M 3 (16 * m + f)) := mi_3 hI ⟨by omega, by omega⟩
                have hg_73 := hv_73.1
                refine c_getR (kt := (1, 0, (1000000 + 3 * M 3 (16 * m + f)))) (by omega) (Or.inl (by omega)) dX10_open_73 f_X10_165 h_21 (kl_pc ⟨by omega, by omega⟩ (by omega) (rp_2 hR ⟨by omega, by omega⟩)) (Nat.succ_ne_zero _) (fun q_73 h_73 => ?_)
                refine c_getI (by omega) dX10_open_76 f_X10_204 (Or.inl rfl) h_73 ?_
                rw [cc_0 (rc_C hR) (c := M 3 (16 * m + f)) (by assumption)]
                have g_76 := mlen_nn (M 3 (16 * m + f))
                have hlen9 := vcode_len (mi_3 hI (p := (16 * m + f)) ⟨by omega, by omega⟩)
                refine e_cVX (as := [_, _]) (ci := 10) (c1 := 0) (s1 := 0) (c2 := c) (s2 := s) dX10_open_79 k_X10_makeRoom l_X10_207 i_X10_makeRoom v_X10_makeRoom hT rfl (by decide) ⟨_, _, rfl⟩ rfl rfl rfl rfl (Nat.le_of_ble_eq_true rfl) ⟨by decide, by decide⟩ (by omega) (by omega) (Nat.le_of_ble_eq_true rfl) (by decide) (c_10_makeRoom (M := thr M 0) hT h_71 ⟨by omega, by omega⟩ ⟨by omega, by omega⟩ hRN hIN hWN hB (by have c1 := c_44.2.2; have c2 : ¬ (thr M 0) 12 m - takF (thr M 0) m 16 + cgL (thr M 0) m 16 < mlen (M 3 (16 * m + f)) := c1; omega)) (fun K2 C2 x2 hB2 hR2 => ?_)
                have hT9 := xt_get x2 hT (Nat.succ_ne_zero _)
                have hx9 := xt_get x2 h_21 (Nat.succ_ne_zero _)
                have hWX : WR (mrF m (mlen (M 3 (16 * m + f))) 16 (thr M 0)) := mrF_ok 16 hWN
                have e9 : (mrF m (mlen (M 3 (16 * m + f))) 16 (thr M 0)) 50 9 = M 50 9 := mrF_o (by decide) 16 _
                have e3 : (mrF m (mlen (M 3 (16 * m + f))) 16 (thr M 0)) 3 (16 * m + f) = M 3 (16 * m + f) := mrF_o (by decide) 16 _
                have e41 : (mrF m (mlen (M 3 (16 * m + f))) 16 (thr M 0)) 50 41 = 0 := mrF_o (by decide) 16 _
                have e16 : (mrF m (mlen (M 3 (16 * m + f))) 16 (thr M 0)) 50 16 = M 50 16 := mrF_o (by decide) 16 _
                have hp9 : 0 ≤ (16 * m + f) ∧ (16 * m + f) < 48 := by omega
                have hvc := mi_3 hI hp9
                have hvc0 := hvc.1
                have hlen := vcode_len hvc
                have eX2 : ¬ (mrF m (mlen (M 3 (16 * m + f))) 16 (thr M 0)) 2 (16 * m + f) = 0 := mrF_2 16 (thr M 0) (16 * m + f) c_27
                have eo := open_eq hWN c_44
                have r2 : (openE (mrF m (mlen (M 3 (16 * m + f))) 16 (thr M 0)) (16 * m + f)).2 = q_us (q_us (q_us (mrF m (mlen (M 3 (16 * m + f))) 16 (thr M 0)) 2 (16 * m + f) 2) 50 9 (M 50 9 + 1)) 7 (16 * m + f) (M 50 9 + 1) := by simp only [openE]; rw [e9]
                have rO := rc_open hR2 hWX hp9 eX2
                rw [e9] at rO
                refine e_aload_n dX10_open_82 rfl ?_
                refine e_iconst dX10_open_83 ?_
                refine c_putI (by omega) dX10_open_84 f_X10_109 rfl hx9 (by omega) ⟨by omega, by omega⟩ ?_
                refine e_aload_n dX10_open_87 rfl ?_
                refine e_dup dX10_open_88 rfl ?_
                refine c_getI (by decide) dX10_open_89 f_X10_61 (Or.inl rfl) hT9 ?_
                try simp only [q_us_ap, editsF_3, Int.reduceEq, Int.reduceNeg, false_and, and_false, and_self, if_true, if_false, true_and, and_true, ite_self]
                rw [rs_opens hR2, e9]
                refine e_iconst dX10_open_92 ?_
                refine e_iadd dX10_open_93 ?_
                refine c_putI (by decide) dX10_open_94 f_X10_61 rfl hT9 (by decide) ⟨by omega, by omega⟩ ?_
                refine e_aload_n dX10_open_97 rfl ?_
                refine e_aload_n dX10_open_98 rfl ?_
                refine c_getI (by decide) dX10_open_99 f_X10_61 (Or.inl rfl) hT9 ?_
                try simp only [q_us_ap, editsF_3, Int.reduceEq, Int.reduceNeg, false_and, and_false, and_self, if_true, if_false, true_and, and_true, ite_self]
                refine c_putI (by omega) dX10_open_102 f_X10_211 rfl hx9 (by omega) ⟨by omega, by omega⟩ ?_
                refine e_aload_n dX10_open_105 rfl ?_
                refine c_getR (kt := (1, 0, (1000000 + 3 * M 3 (16 * m + f)))) (by omega) (Or.inl (by omega)) dX10_open_106 f_X10_165 hx9 (kl_pc hp9 hvc0 (by simp only [q_us_ap]; rw [if_neg (by omega), if_neg (by omega), if_neg (by omega), rp_2 hR2 hp9, e3])) (Nat.succ_ne_zero _) (fun q_106 h_106 => ?_)
                refine c_getI (by omega) dX10_open_109 f_X10_204 (Or.inl rfl) h_106 ?_
                try simp only [q_us_ap, editsF_3, Int.reduceEq, Int.reduceNeg, false_and, and_false, and_self, if_true, if_false, true_and, and_true, ite_self]
                rw [if_neg (show ¬ (1000000 + 3 * M 3 (16 * m + f) = 200 + (16 * m + f)) by omega), cc_0 (rc_C hR2) hvc]
                exact e_iret dX10_open_112 (Or.inl rfl) (pbmx (X := (openE (mrF m (mlen (M 3 (16 * m + f))) 16 (thr M 0)) (16 * m + f)).2) (by unfold openF; rw [if_neg (fun g => g (show inMF m f from ⟨⟨by omega, by omega⟩, by omega, by omega⟩)), if_neg c_27, if_pos e2]; exact eo.1) (by unfold openF; rw [if_neg (fun g => g (show inMF m f from ⟨⟨by omega, by omega⟩, by omega, by omega⟩)), if_neg c_27, if_pos e2]; exact eo.2.2) (by unfold openF; rw [if_neg (fun g => g (show inMF m f from ⟨⟨by omega, by omega⟩, by omega, by omega⟩)), if_neg c_27, if_pos e2]; exact eo.2.1) x2 (by rw [r2]; exact hB2) rO)
            · simp only [bi_z, Classical.not_not] at c_44
              exact e_thrS dX10_open_47 dX10_open_50 dX10_open_51 dX10_open_53 dX10_open_56 x_sta y_cant rfl (Nat.le_of_ble_eq_true rfl) ⟨by decide, by decide⟩ hc hs (pbx2 (M := thr M 0) hB hRN (by unfold openF; rw [if_neg (fun g => g (show inMF m f from ⟨⟨by omega, by omega⟩, by omega, by omega⟩)), if_neg c_27, if_pos e2]; exact (open_bad c_44).2) (by unfold openF; rw [if_neg (fun g => g (show inMF m f from ⟨⟨by omega, by omega⟩, by omega, by omega⟩)), if_neg c_27, if_pos e2]; exact (open_bad c_44).1))
      · refine e_iload_n dX10_open_0 rfl ?_
        refine e_iconst dX10_open_1 ?_
        refine e_cS (as := [_, _]) dX10_open_2 k_X10_needIndex l_X10_99 s_X10_needIndex rfl rfl rfl rfl (Nat.le_of_ble_eq_true rfl) ⟨by decide, by decide⟩ (Nat.le_of_ble_eq_true rfl) (by decide) (c_nI1 hm ⟨by decide, by decide⟩ (by omega)) ?_
        refine e_iload_n dX10_open_5 rfl ?_
        refine e_bipush dX10_open_6 (by decide) ?_
        refine e_cS (as := [_, _]) dX10_open_8 k_X10_needIndex l_X10_99 s_X10_needIndex rfl rfl rfl rfl (Nat.le_of_ble_eq_true rfl) ⟨by decide, by decide⟩ (Nat.le_of_ble_eq_true rfl) (by decide) (c_nI1 hf ⟨by decide, by decide⟩ (by omega)) ?_
        refine e_aload_n dX10_open_11 rfl ?_
        refine c_getR (kt := (36, 3, 102)) (by decide) (Or.inl (by decide)) dX10_open_12 f_X10_15 hT rfl (Nat.succ_ne_zero _) (fun q_12 h_12 => ?_)
        refine e_iload_n dX10_open_15 rfl ?_
        refine c_aald (ci := 6) (kt := (7, 0, (110 + m))) (by decide) (Or.inl (by decide)) dX10_open_16 h_12 (by decide) (by omega) (by omega) (kl_m ⟨by omega, by omega⟩) (Nat.succ_ne_zero _) (fun q_16 h_16 => ?_)
        refine c_getR (kt := (31, 16, (140 + m))) (by omega) (Or.inl (by omega)) dX10_open_17 f_X10_105 h_16 (kl_c ⟨by omega, by omega⟩) (Nat.succ_ne_zero _) (fun q_17 h_17 => ?_)
        refine e_iload_n dX10_open_20 rfl ?_
        refine c_aald (ci := 1) (kt := (2, 0, (200 + (16 * m + f)))) (by omega) (Or.inl (by omega)) dX10_open_21 h_17 (by decide) (by omega) (by omega) (kl_p ⟨by omega, by omega⟩ ⟨by omega, by omega⟩) (Nat.succ_ne_zero _) (fun q_21 h_21 => ?_)
        refine e_astore_n (ls2 := [_, _, _, _]) dX10_open_22 (Nat.le_of_ble_eq_true rfl) rfl ?_
        refine e_aload_n dX10_open_23 rfl ?_
        refine c_getI (by omega) dX10_open_24 f_X10_109 (Or.inl rfl) h_21 ?_
        rw [rp_0 hR (p := (16 * m + f)) ⟨by omega, by omega⟩]
        have g_24 : 0 ≤ M 2 (16 * m + f) ∧ M 2 (16 * m + f) ≤ 2 := hW 2 (16 * m + f)
        refine e_if_eq (tgt := 47) dX10_open_27 (by decide) ⟨by omega, by omega⟩ (fun c_27 => ?_) (fun c_27 => ?_)
        · exact e_thrS dX10_open_47 dX10_open_50 dX10_open_51 dX10_open_53 dX10_open_56 x_sta y_cant rfl (Nat.le_of_ble_eq_true rfl) ⟨by decide, by decide⟩ hc hs (pbq2 hB hR (by unfold openF; rw [if_neg (fun g => g (show inMF m f from ⟨⟨by omega, by omega⟩, by omega, by omega⟩)), if_pos c_27]))
        · refine e_aload_n dX10_open_30 rfl ?_
          refine c_getI (by omega) dX10_open_31 f_X10_109 (Or.inl rfl) h_21 ?_
          rw [rp_0 hR (p := (16 * m + f)) ⟨by omega, by omega⟩]
          have g_31 : 0 ≤ M 2 (16 * m + f) ∧ M 2 (16 * m + f) ≤ 2 := hW 2 (16 * m + f)
          refine e_iconst dX10_open_34 ?_
          refine e_icmp_ne (tgt := 57) dX10_open_35 (by decide) ⟨by omega, by omega⟩ ⟨by omega, by omega⟩ (fun c_35 => ?_) (fun c_35 => ?_)
          · refine e_aload_n dX10_open_57 rfl ?_
            refine c_getI (by omega) dX10_open_58 f_X10_109 (Or.inl rfl) h_21 ?_
            rw [rp_0 hR (p := (16 * m + f)) ⟨by omega, by omega⟩]
            have g_58 : 0 ≤ M 2 (16 * m + f) ∧ M 2 (16 * m + f) ≤ 2 := hW 2 (16 * m + f)
            refine e_iconst dX10_open_61 ?_
            refine e_icmp_ne (tgt := 87) dX10_open_62 (by decide) ⟨by omega, by omega⟩ ⟨by omega, by omega⟩ (fun c_62 => ?_) (fun c_62 => ?_)
            · have hp9 : 0 ≤ (16 * m + f) ∧ (16 * m + f) < 48 := by omega
              have hvc := mi_3 hI hp9
              have hvc0 := hvc.1
              have hlen := vcode_len hvc
              have e22 : M 2 (16 * m + f) = 2 := by omega
              have rO := rc_open hRN hWN hp9 (show ¬ M 2 (16 * m + f) = 0 by omega)
              rw [show q_us C (200 + (16 * m + f)) 0 2 = C from by rw [show (2 : Int) = C (200 + (16 * m + f)) 0 by rw [rp_0 hR hp9, e22]]; exact us_same _ _ _] at rO
              refine e_aload_n dX10_open_87 rfl ?_
              refine e_dup dX10_open_88 rfl ?_
              refine c_getI (by decide) dX10_open_89 f_X10_61 (Or.inl rfl) hT ?_
              rw [rs_opens hR]
              have g_89 := rs_9 hW
              refine e_iconst dX10_open_92 ?_
              refine e_iadd dX10_open_93 ?_
              refine c_putI (by decide) dX10_open_94 f_X10_61 rfl hT (by decide) ⟨by omega, by omega⟩ ?_
              refine e_aload_n dX10_open_97 rfl ?_
              refine e_aload_n dX10_open_98 rfl ?_
              refine c_getI (by decide) dX10_open_99 f_X10_61 (Or.inl rfl) hT ?_
              try simp only [q_us_ap, editsF_3, Int.reduceEq, Int.reduceNeg, false_and, and_false, and_self, if_true, if_false, true_and, and_true, ite_self]
              refine c_putI (by omega) dX10_open_102 f_X10_211 rfl h_21 (by omega) ⟨by omega, by omega⟩ ?_
              refine e_aload_n dX10_open_105 rfl ?_
              refine c_getR (kt := (1, 0, (1000000 + 3 * M 3 (16 * m + f)))) (by omega) (Or.inl (by omega)) dX10_open_106 f_X10_165 h_21 (kl_pc hp9 hvc0 (by simp only [q_us_ap]; rw [if_neg (by omega), if_neg (by omega), rp_2 hR hp9])) (Nat.succ_ne_zero _) (fun q_106 h_106 => ?_)
              refine c_getI (by omega) dX10_open_109 f_X10_204 (Or.inl rfl) h_106 ?_
              try simp only [q_us_ap, editsF_3, Int.reduceEq, Int.reduceNeg, false_and, and_false, and_self, if_true, if_false, true_and, and_true, ite_self]
              rw [cc_0 (rc_C hR) hvc]
              exact e_iret dX10_open_112 (Or.inl rfl) (pbmx (X := (openE (thr M 0) (16 * m + f)).2) (by unfold openF; rw [if_neg (fun g => g (show inMF m f from ⟨⟨by omega, by omega⟩, by omega, by omega⟩)), if_neg c_27, if_neg e2]; rfl) (by unfold openF; rw [if_neg (fun g => g (show inMF m f from ⟨⟨by omega, by omega⟩, by omega, by omega⟩)), if_neg c_27, if_neg e2]; exact fun _ _ _ _ _ => rfl) (by unfold openF; rw [if_neg (fun g => g (show inMF m f from ⟨⟨by omega, by omega⟩, by omega, by omega⟩)), if_neg c_27, if_neg e2]; simp only [openE, q_us_ap, Int.reduceEq, false_and, and_false, and_self, if_false, if_true]) q_xt.rfl hB rO)
            · exfalso; omega
          · exfalso; omega
    · refine e_iload_n dX10_open_0 rfl ?_
      refine e_iconst dX10_open_1 ?_
      refine e_cS (as := [_, _]) dX10_open_2 k_X10_needIndex l_X10_99 s_X10_needIndex rfl rfl rfl rfl (Nat.le_of_ble_eq_true rfl) ⟨by decide, by decide⟩ (Nat.le_of_ble_eq_true rfl) (by decide) (c_nI1 hm ⟨by decide, by decide⟩ (by omega)) ?_
      refine e_iload_n dX10_open_5 rfl ?_
      refine e_bipush dX10_open_6 (by decide) ?_
      exact e_cST (as := [_, _]) dX10_open_8 k_X10_needIndex l_X10_99 s_X10_needIndex rfl rfl rfl rfl (Nat.le_of_ble_eq_true rfl) ⟨by decide, by decide⟩ (Nat.le_of_ble_eq_true rfl) (by decide) (c_nI0 hf ⟨by decide, by decide⟩ hc hs (by omega)) (pbq1 hB hR (by unfold openF; rw [if_pos (show ¬ inMF m f from fun h => by have h1 := h.1; have h2 := h.2; omega)]))
  · refine e_iload_n dX10_open_0 rfl ?_
    refine e_iconst dX10_open_1 ?_
    exact e_cST (as := [_, _]) dX10_open_2 k_X10_needIndex l_X10_99 s_X10_needIndex rfl rfl rfl rfl (Nat.le_of_ble_eq_true rfl) ⟨by decide, by decide⟩ (Nat.le_of_ble_eq_true rfl) (by decide) (c_nI0 hm ⟨by decide, by decide⟩ hc hs (by omega)) (pbq1 hB hR (by unfold openF; rw [if_pos (show ¬ inMF m f from fun h => by have h1 := h.1; have h2 := h.2; omega)]))
