set_option maxRecDepth 20000 in
set_option maxHeartbeats 4000000 in
theorem m_takenAt {K : q_K} {M C : q_S} {a : Nat} (hT : K a = (12, 0, 50)) (hW : WR M) {m : Int} (hm : 0 ≤ m ∧ m ≤ 2) : q_E mX11_takenAt 0 [some (q_R a), some (q_I m), none, none] [] K M C 0 0 (e_is (some (q_I (takF M m 16))) K M C) := by
  have lp : ∀ (r k : Nat) (s c : Int), k + r = 16 → s = takF M m k → c = 16 * m + k → q_E mX11_takenAt 7 [some (q_R a), some (q_I m), some (q_I s), some (q_I c)] [] K M C 0 0 (e_is (some (q_I (takF M m 16))) K M C) := by
    intro r
    induction r with
    | zero =>
      intro k s c h1 h2 h3
      refine e_iload_n dX11_takenAt_7 rfl ?_
      refine e_bipush dX11_takenAt_8 (by decide) ?_
      refine e_iload_n dX11_takenAt_10 rfl ?_
      refine e_imul dX11_takenAt_11 ?_
      refine e_bipush dX11_takenAt_12 (by decide) ?_
      refine e_iadd dX11_takenAt_14 ?_
      refine e_icmp_ge (tgt := 50) dX11_takenAt_15 (by decide) ⟨by omega, by omega⟩ ⟨by omega, by omega⟩ (fun c_15 => ?_) (fun c_15 => ?_)
      · refine e_iload_n dX11_takenAt_50 rfl ?_
        exact e_iret dX11_takenAt_51 (Or.inl rfl) (e_ok (by (have e9 : k = 16 := (by omega)); subst e9; rw [h2]) rfl rfl)
      · exfalso; omega
    | succ r ih =>
      intro k s c h1 h2 h3
      refine e_iload_n dX11_takenAt_7 rfl ?_
      refine e_bipush dX11_takenAt_8 (by decide) ?_
      refine e_iload_n dX11_takenAt_10 rfl ?_
      refine e_imul dX11_takenAt_11 ?_
      refine e_bipush dX11_takenAt_12 (by decide) ?_
      refine e_iadd dX11_takenAt_14 ?_
      refine e_icmp_ge (tgt := 50) dX11_takenAt_15 (by decide) ⟨by omega, by omega⟩ ⟨by omega, by omega⟩ (fun c_15 => ?_) (fun c_15 => ?_)
      · exfalso; omega
      · refine e_iload_n dX11_takenAt_18 rfl ?_
        refine e_aload_n dX11_takenAt_19 rfl ?_
        refine m_getR (kt := (20, 48, 2)) (by decide) dX11_takenAt_20 f_X11_7 hT rfl (Nat.succ_ne_zero _) (fun q_20 h_20 => ?_)
        refine e_iload_n dX11_takenAt_23 rfl ?_
        refine m_iaw (by decide) (rg_2 hW) dX11_takenAt_24 h_20 (by omega) (by omega) (fun g_24 => ?_)
        refine e_iconst dX11_takenAt_25 ?_
        refine e_icmp_ne (tgt := 41) dX11_takenAt_26 (by decide) ⟨by omega, by omega⟩ ⟨by omega, by omega⟩ (fun c_26 => ?_) (fun c_26 => ?_)
        · refine e_iconst dX11_takenAt_41 ?_
          have g_t := takF_rg M m k
          refine e_iadd dX11_takenAt_42 ?_
          refine e_istore_n (ls2 := [_, _, _, _]) dX11_takenAt_43 (Nat.le_of_ble_eq_true rfl) rfl ?_
          refine e_iinc (ls2 := [_, _, _, _]) dX11_takenAt_44 rfl (Nat.le_of_ble_eq_true rfl) rfl ?_
          refine e_goto (tgt := 7) dX11_takenAt_47 (by decide) ?_
          exact ih (k + 1) _ _ (by omega) (by simp only [takF, ← h3]; split <;> omega) (by omega)
        · refine e_aload_n dX11_takenAt_29 rfl ?_
          refine m_getR (kt := (21, 48, 3)) (by decide) dX11_takenAt_30 f_X11_13 hT rfl (Nat.succ_ne_zero _) (fun q_30 h_30 => ?_)
          refine e_iload_n dX11_takenAt_33 rfl ?_
          refine m_law (by decide) (rg_3 hW) dX11_takenAt_34 h_30 (by omega) (by omega) (fun g_34 => ?_)
          refine e_cS (as := [_]) dX11_takenAt_35 k_X11_lengthOf l_X11_111 s_X11_lengthOf rfl rfl rfl rfl (Nat.le_of_ble_eq_true rfl) ⟨by decide, by decide⟩ (Nat.le_of_ble_eq_true rfl) (by decide) (m_lengthOf ⟨by omega, by omega⟩) ?_
          have g_35 := mlen_nn (M 3 c)
          refine e_goto (tgt := 42) dX11_takenAt_38 (by decide) ?_
          have g_t := takF_rg M m k
          refine e_iadd dX11_takenAt_42 ?_
          refine e_istore_n (ls2 := [_, _, _, _]) dX11_takenAt_43 (Nat.le_of_ble_eq_true rfl) rfl ?_
          refine e_iinc (ls2 := [_, _, _, _]) dX11_takenAt_44 rfl (Nat.le_of_ble_eq_true rfl) rfl ?_
          refine e_goto (tgt := 7) dX11_takenAt_47 (by decide) ?_
          exact ih (k + 1) _ _ (by omega) (by simp only [takF, ← h3]; split <;> omega) (by omega)
  refine e_iconst dX11_takenAt_0 ?_
  refine e_istore_n (ls2 := [_, _, _, _]) dX11_takenAt_1 (Nat.le_of_ble_eq_true rfl) rfl ?_
  refine e_bipush dX11_takenAt_2 (by decide) ?_
  refine e_iload_n dX11_takenAt_4 rfl ?_
  refine e_imul dX11_takenAt_5 ?_
  refine e_istore_n (ls2 := [_, _, _, _]) dX11_takenAt_6 (Nat.le_of_ble_eq_true rfl) rfl ?_
  exact lp 16 0 0 _ (by omega) rfl (by omega)
set_option maxRecDepth 20000 in
set_option maxHeartbeats 4000000 in
theorem m_taken {K : q_K} {M C : q_S} {a : Nat} (hT : K a = (12, 0, 50)) (hW : WR M) {m : Int} (hm : q_iI m)  : q_E mX11_taken 0 [some (q_R a), some (q_I m)] [] K M C 0 0 (e_is (some (q_I (takenF M m).1)) K (takenF M m).2 C) := by
  refine e_aload_n dX11_taken_0 rfl ?_
  refine e_iload_n dX11_taken_1 rfl ?_
  refine e_cS (as := [_]) dX11_taken_2 k_X11_isMachine l_X11_135 s_X11_isMachine rfl rfl rfl rfl (Nat.le_of_ble_eq_true rfl) ⟨by decide, by decide⟩ (Nat.le_of_ble_eq_true rfl) (by decide) (m_isMachine (by assumption)) ?_
  refine e_if_eq (tgt := 12) dX11_taken_5 (by decide) bi_iI (fun c_5 => ?_) (fun c_5 => ?_)
  · simp only [bi_z, Classical.not_not] at c_5
    refine e_iconst dX11_taken_12 ?_
    refine m_putI (by decide) dX11_taken_13 f_X11_101 rfl hT ⟨by omega, by omega⟩ ?_
    refine e_aload_n dX11_taken_16 rfl ?_
    refine m_getI (by decide) dX11_taken_17 f_X11_101 (Or.inl rfl) hT ?_
    simp only [q_us_ap, editsF_3, Int.reduceEq, Int.reduceNeg, false_and, and_false, and_self, if_true, if_false, true_and, and_true, ite_self]
    have g_17 := rs_41 hW
    refine e_if_ne (tgt := 31) dX11_taken_20 (by decide) ⟨by decide, by decide⟩ (fun c_20 => ?_) (fun c_20 => ?_)
    · refine e_iconst dX11_taken_31 ?_
      refine e_iret dX11_taken_32 (Or.inl rfl) ?_
      first
      | exact e_ok rfl rfl rfl
      | (unfold takenF; repeat' split
         all_goals first | exact e_ok rfl rfl rfl | (exfalso; omega) | (refine e_ok ?_ rfl rfl; unfold bi; repeat' split; all_goals first | rfl | (exfalso; omega)))
    · exact absurd c_20 (by decide)
  · simp only [bi_z, Classical.not_not] at c_5
    refine e_iconst dX11_taken_8 ?_
    refine e_goto (tgt := 13) dX11_taken_9 (by decide) ?_
    refine m_putI (by decide) dX11_taken_13 f_X11_101 rfl hT ⟨by omega, by omega⟩ ?_
    refine e_aload_n dX11_taken_16 rfl ?_
    refine m_getI (by decide) dX11_taken_17 f_X11_101 (Or.inl rfl) hT ?_
    simp only [q_us_ap, editsF_3, Int.reduceEq, Int.reduceNeg, false_and, and_false, and_self, if_true, if_false, true_and, and_true, ite_self]
    have g_17 := rs_41 hW
    refine e_if_ne (tgt := 31) dX11_taken_20 (by decide) ⟨by decide, by decide⟩ (fun c_20 => ?_) (fun c_20 => ?_)
    · exact absurd c_20 (by decide)
    · refine e_aload_n dX11_taken_23 rfl ?_
      refine e_iload_n dX11_taken_24 rfl ?_
      refine e_cV (as := [_]) (ci := 11) dX11_taken_25 k_X11_takenAt l_X11_220 i_X11_takenAt v_X11_takenAt hT rfl (by decide) ⟨_, _, rfl⟩ rfl rfl rfl rfl (Nat.le_of_ble_eq_true rfl) ⟨by decide, by decide⟩ (Nat.le_of_ble_eq_true rfl) (by decide) (m_takenAt hT (by first | exact hW | exact WR.up hW ⟨by decide, by decide⟩) ⟨by omega, by omega⟩) ?_
      try simp only [lockF_thr, rightF_thr, latestOf_thr, asOfT_thr]
      refine e_goto (tgt := 32) dX11_taken_28 (by decide) ?_
      refine e_iret dX11_taken_32 (Or.inl rfl) ?_
      first
      | exact e_ok rfl rfl rfl
      | (unfold takenF; repeat' split
         all_goals first | exact e_ok rfl rfl rfl | (exfalso; omega) | (refine e_ok ?_ rfl rfl; unfold bi; repeat' split; all_goals first | rfl | (exfalso; omega)))
set_option maxRecDepth 20000 in
set_option maxHeartbeats 4000000 in
theorem m_firstNoted {K : q_K} {M C : q_S} {a : Nat} (hT : K a = (12, 0, 50)) (hW : WR M) {m : Int} (hm : 0 ≤ m ∧ m ≤ 2) : q_E mX11_firstNoted 0 [some (q_R a), some (q_I m), none, none] [] K M C 0 0 (e_is (some (q_I (fnF M m 16))) K M C) := by
  have lp : ∀ (r k : Nat) (s c : Int), k + r = 16 → s = fnF M m k → c = 16 * m + k → q_E mX11_firstNoted 7 [some (q_R a), some (q_I m), some (q_I s), some (q_I c)] [] K M C 0 0 (e_is (some (q_I (fnF M m 16))) K M C) := by
    intro r
    induction r with
    | zero =>
      intro k s c h1 h2 h3
      refine e_iload_n dX11_firstNoted_7 rfl ?_
      refine e_bipush dX11_firstNoted_8 (by decide) ?_
      refine e_iload_n dX11_firstNoted_10 rfl ?_
      refine e_imul dX11_firstNoted_11 ?_
      refine e_bipush dX11_firstNoted_12 (by decide) ?_
      refine e_iadd dX11_firstNoted_14 ?_
      refine e_icmp_ge (tgt := 59) dX11_firstNoted_15 (by decide) ⟨by omega, by omega⟩ ⟨by omega, by omega⟩ (fun c_15 => ?_) (fun c_15 => ?_)
      · refine e_iload_n dX11_firstNoted_59 rfl ?_
        exact e_iret dX11_firstNoted_60 (Or.inl rfl) (e_ok (by (have e9 : k = 16 := (by omega)); subst e9; rw [h2]) rfl rfl)
      · exfalso; omega
    | succ r ih =>
      intro k s c h1 h2 h3
      have g_t := fnF_rg M m k
      refine e_iload_n dX11_firstNoted_7 rfl ?_
      refine e_bipush dX11_firstNoted_8 (by decide) ?_
      refine e_iload_n dX11_firstNoted_10 rfl ?_
      refine e_imul dX11_firstNoted_11 ?_
      refine e_bipush dX11_firstNoted_12 (by decide) ?_
      refine e_iadd dX11_firstNoted_14 ?_
      refine e_icmp_ge (tgt := 59) dX11_firstNoted_15 (by decide) ⟨by omega, by omega⟩ ⟨by omega, by omega⟩ (fun c_15 => ?_) (fun c_15 => ?_)
      · exfalso; omega
      · refine e_aload_n dX11_firstNoted_18 rfl ?_
        refine m_getR (kt := (20, 48, 8)) (by decide) dX11_firstNoted_19 f_X11_29 hT rfl (Nat.succ_ne_zero _) (fun q_19 h_19 => ?_)
        refine e_iload_n dX11_firstNoted_22 rfl ?_
        refine m_iaw (by decide) (rg_8 hW) dX11_firstNoted_23 h_19 (by omega) (by omega) (fun g_23 => ?_)
        refine e_if_le (tgt := 51) dX11_firstNoted_24 (by decide) ⟨by omega, by omega⟩ (fun c_24 => ?_) (fun c_24 => ?_)
        · refine e_iload_n dX11_firstNoted_51 rfl ?_
          refine e_istore_n (ls2 := [_, _, _, _]) dX11_firstNoted_52 (Nat.le_of_ble_eq_true rfl) rfl ?_
          refine e_iinc (ls2 := [_, _, _, _]) dX11_firstNoted_53 rfl (Nat.le_of_ble_eq_true rfl) rfl ?_
          refine e_goto (tgt := 7) dX11_firstNoted_56 (by decide) ?_
          exact ih (k + 1) _ _ (by omega) (by simp only [fnF, ← h3, ← h2]; split <;> omega) (by omega)
        · refine e_iload_n dX11_firstNoted_27 rfl ?_
          refine e_iconst dX11_firstNoted_28 ?_
          refine e_icmp_eq (tgt := 47) dX11_firstNoted_29 (by decide) ⟨by omega, by omega⟩ ⟨by omega, by omega⟩ (fun c_29 => ?_) (fun c_29 => ?_)
          · refine e_iload_n dX11_firstNoted_47 rfl ?_
            refine e_goto (tgt := 52) dX11_firstNoted_48 (by decide) ?_
            refine e_istore_n (ls2 := [_, _, _, _]) dX11_firstNoted_52 (Nat.le_of_ble_eq_true rfl) rfl ?_
            refine e_iinc (ls2 := [_, _, _, _]) dX11_firstNoted_53 rfl (Nat.le_of_ble_eq_true rfl) rfl ?_
            refine e_goto (tgt := 7) dX11_firstNoted_56 (by decide) ?_
            exact ih (k + 1) _ _ (by omega) (by simp only [fnF, ← h3, ← h2]; split <;> omega) (by omega)
          · refine e_aload_n dX11_firstNoted_32 rfl ?_
            refine m_getR (kt := (20, 48, 8)) (by decide) dX11_firstNoted_33 f_X11_29 hT rfl (Nat.succ_ne_zero _) (fun q_33 h_33 => ?_)
            refine e_iload_n dX11_firstNoted_36 rfl ?_
            refine m_iaw (by decide) (rg_8 hW) dX11_firstNoted_37 h_33 (by omega) (by omega) (fun g_37 => ?_)
            refine e_aload_n dX11_firstNoted_38 rfl ?_
            refine m_getR (kt := (20, 48, 8)) (by decide) dX11_firstNoted_39 f_X11_29 hT rfl (Nat.succ_ne_zero _) (fun q_39 h_39 => ?_)
            refine e_iload_n dX11_firstNoted_42 rfl ?_
            refine m_iaw (by decide) (rg_8 hW) dX11_firstNoted_43 h_39 (by omega) (by omega) (fun g_43 => ?_)
            refine e_icmp_ge (tgt := 51) dX11_firstNoted_44 (by decide) ⟨by omega, by omega⟩ ⟨by omega, by omega⟩ (fun c_44 => ?_) (fun c_44 => ?_)
            · refine e_iload_n dX11_firstNoted_51 rfl ?_
              refine e_istore_n (ls2 := [_, _, _, _]) dX11_firstNoted_52 (Nat.le_of_ble_eq_true rfl) rfl ?_
              refine e_iinc (ls2 := [_, _, _, _]) dX11_firstNoted_53 rfl (Nat.le_of_ble_eq_true rfl) rfl ?_
              refine e_goto (tgt := 7) dX11_firstNoted_56 (by decide) ?_
              exact ih (k + 1) _ _ (by omega) (by simp only [fnF, ← h3, ← h2]; split <;> omega) (by omega)
            · refine e_iload_n dX11_firstNoted_47 rfl ?_
              refine e_goto (tgt := 52) dX11_firstNoted_48 (by decide) ?_
              refine e_istore_n (ls2 := [_, _, _, _]) dX11_firstNoted_52 (Nat.le_of_ble_eq_true rfl) rfl ?_
              refine e_iinc (ls2 := [_, _, _, _]) dX11_firstNoted_53 rfl (Nat.le_of_ble_eq_true rfl) rfl ?_
              refine e_goto (tgt := 7) dX11_firstNoted_56 (by decide) ?_
              exact ih (k + 1) _ _ (by omega) (by simp only [fnF, ← h3, ← h2]; split <;> omega) (by omega)
  refine e_iconst dX11_firstNoted_0 ?_
  refine e_istore_n (ls2 := [_, _, _, _]) dX11_firstNoted_1 (Nat.le_of_ble_eq_true rfl) rfl ?_
  refine e_bipush dX11_firstNoted_2 (by decide) ?_
  refine e_iload_n dX11_firstNoted_4 rfl ?_
  refine e_imul dX11_firstNoted_5 ?_
  refine e_istore_n (ls2 := [_, _, _, _]) dX11_firstNoted_6 (Nat.le_of_ble_eq_true rfl) rfl ?_
  exact lp 16 0 (-1) _ (by omega) rfl (by omega)
set_option maxRecDepth 20000 in
set_option maxHeartbeats 4000000 in
theorem m_isHeld {K : q_K} {M C : q_S} {a : Nat} (hT : K a = (12, 0, 50)) (hW : WR M) {v : Int} (hv : 0 ≤ v ∧ v < 120) : q_E mX11_isHeld 0 [some (q_R a), some (q_I v), none, none] [] K M C 0 0 (e_is (some (q_I (heldI M v (M 50 27).toNat))) K M C) := by
  have lp : ∀ (r k : Nat) (s c : Int), k + r = (M 50 27).toNat → s = heldI M v k → c = k → s = 0 ∨ s = 1 → q_E mX11_isHeld 4 [some (q_R a), some (q_I v), some (q_I s), some (q_I c)] [] K M C 0 0 (e_is (some (q_I (heldI M v (M 50 27).toNat))) K M C) := by
    intro r
    induction r with
    | zero =>
      intro k s c h1 h2 h3 h4
      refine e_iload_n dX11_isHeld_4 rfl ?_
      refine e_aload_n dX11_isHeld_5 rfl ?_
      refine m_getI (by decide) dX11_isHeld_6 f_X11_236 (Or.inl rfl) hT ?_
      have g_6 := rs_27 hW
      refine e_icmp_ge (tgt := 67) dX11_isHeld_9 (by decide) ⟨by omega, by omega⟩ ⟨by omega, by omega⟩ (fun c_9 => ?_) (fun c_9 => ?_)
      · refine e_iload_n dX11_isHeld_67 rfl ?_
        exact e_iret dX11_isHeld_68 (Or.inr ⟨rfl, h4⟩) (e_ok (by (have e9 : k = (M 50 27).toNat := (by omega)); rw [h2, e9]) rfl rfl)
      · exfalso; omega
    | succ r ih =>
      intro k s c h1 h2 h3 h4
      refine e_iload_n dX11_isHeld_4 rfl ?_
      refine e_aload_n dX11_isHeld_5 rfl ?_
      refine m_getI (by decide) dX11_isHeld_6 f_X11_236 (Or.inl rfl) hT ?_
      have g_6 := rs_27 hW
      refine e_icmp_ge (tgt := 67) dX11_isHeld_9 (by decide) ⟨by omega, by omega⟩ ⟨by omega, by omega⟩ (fun c_9 => ?_) (fun c_9 => ?_)
      · exfalso; omega
      · refine e_iload_n dX11_isHeld_12 rfl ?_
        refine e_if_ne (tgt := 55) dX11_isHeld_13 (by decide) ⟨by omega, by omega⟩ (fun c_13 => ?_) (fun c_13 => ?_)
        · refine e_iconst dX11_isHeld_55 ?_
          refine e_goto (tgt := 60) dX11_isHeld_56 (by decide) ?_
          refine e_istore_n (ls2 := [_, _, _, _]) dX11_isHeld_60 (Nat.le_of_ble_eq_true rfl) rfl ?_
          refine e_iinc (ls2 := [_, _, _, _]) dX11_isHeld_61 rfl (Nat.le_of_ble_eq_true rfl) rfl ?_
          refine e_goto (tgt := 4) dX11_isHeld_64 (by decide) ?_
          exact ih (k + 1) _ _ (by omega) (by simp only [heldI, ← h3, ← h2]; split <;> omega) (by omega) (by omega)
        · refine e_aload_n dX11_isHeld_16 rfl ?_
          refine m_getR (kt := (20, 10, 28)) (by decide) dX11_isHeld_17 f_X11_74 hT rfl (Nat.succ_ne_zero _) (fun q_17 h_17 => ?_)
          refine e_iload_n dX11_isHeld_20 rfl ?_
          refine m_iaw (by decide) (rg_28 hW) dX11_isHeld_21 h_17 (by omega) (by omega) (fun g_21 => ?_)
          refine e_aload_n dX11_isHeld_22 rfl ?_
          refine m_getR (kt := (20, 120, 17)) (by decide) dX11_isHeld_23 f_X11_44 hT rfl (Nat.succ_ne_zero _) (fun q_23 h_23 => ?_)
          refine e_iload_n dX11_isHeld_26 rfl ?_
          refine m_iaw (by decide) (rg_17 hW) dX11_isHeld_27 h_23 (by omega) (by omega) (fun g_27 => ?_)
          refine e_icmp_ne (tgt := 59) dX11_isHeld_28 (by decide) ⟨by omega, by omega⟩ ⟨by omega, by omega⟩ (fun c_28 => ?_) (fun c_28 => ?_)
          · refine e_iconst dX11_isHeld_59 ?_
            refine e_istore_n (ls2 := [_, _, _, _]) dX11_isHeld_60 (Nat.le_of_ble_eq_true rfl) rfl ?_
            refine e_iinc (ls2 := [_, _, _, _]) dX11_isHeld_61 rfl (Nat.le_of_ble_eq_true rfl) rfl ?_
            refine e_goto (tgt := 4) dX11_isHeld_64 (by decide) ?_
            exact ih (k + 1) _ _ (by omega) (by simp only [heldI, ← h3, ← h2]; split <;> omega) (by omega) (by omega)
          · refine e_aload_n dX11_isHeld_31 rfl ?_
            refine m_getR (kt := (20, 120, 18)) (by decide) dX11_isHeld_32 f_X11_47 hT rfl (Nat.succ_ne_zero _) (fun q_32 h_32 => ?_)
            refine e_iload_n dX11_isHeld_35 rfl ?_
            refine m_iaw (by decide) (rg_18 hW) dX11_isHeld_36 h_32 (by omega) (by omega) (fun g_36 => ?_)
            refine e_aload_n dX11_isHeld_37 rfl ?_
            refine m_getR (kt := (20, 10, 29)) (by decide) dX11_isHeld_38 f_X11_77 hT rfl (Nat.succ_ne_zero _) (fun q_38 h_38 => ?_)
            refine e_iload_n dX11_isHeld_41 rfl ?_
            refine m_iaw (by decide) (rg_29 hW) dX11_isHeld_42 h_38 (by omega) (by omega) (fun g_42 => ?_)
            refine e_aload_n dX11_isHeld_43 rfl ?_
            refine m_getR (kt := (20, 10, 30)) (by decide) dX11_isHeld_44 f_X11_80 hT rfl (Nat.succ_ne_zero _) (fun q_44 h_44 => ?_)
            refine e_iload_n dX11_isHeld_47 rfl ?_
            refine m_iaw (by decide) (rg_30 hW) dX11_isHeld_48 h_44 (by omega) (by omega) (fun g_48 => ?_)
            refine e_cS (as := [_, _, _]) dX11_isHeld_49 k_X11_in l_X11_105 s_X11_in rfl rfl rfl rfl (Nat.le_of_ble_eq_true rfl) ⟨by decide, by decide⟩ (Nat.le_of_ble_eq_true rfl) (by decide) (m_in (by first | assumption | exact ⟨by decide, by decide⟩ | exact ⟨by omega, by omega⟩) (by first | assumption | exact ⟨by decide, by decide⟩ | exact ⟨by omega, by omega⟩) (by first | assumption | exact ⟨by decide, by decide⟩ | exact ⟨by omega, by omega⟩)) ?_
            refine e_if_eq (tgt := 59) dX11_isHeld_52 (by decide) bi_iI (fun c_52 => ?_) (fun c_52 => ?_)
            · simp only [bi_z, Classical.not_not] at c_52
              refine e_iconst dX11_isHeld_59 ?_
              refine e_istore_n (ls2 := [_, _, _, _]) dX11_isHeld_60 (Nat.le_of_ble_eq_true rfl) rfl ?_
              refine e_iinc (ls2 := [_, _, _, _]) dX11_isHeld_61 rfl (Nat.le_of_ble_eq_true rfl) rfl ?_
              refine e_goto (tgt := 4) dX11_isHeld_64 (by decide) ?_
              exact ih (k + 1) _ _ (by omega) (by simp only [heldI, ← h3, ← h2]; split <;> omega) (by omega) (by omega)
            · simp only [bi_z, Classical.not_not] at c_52
              refine e_iconst dX11_isHeld_55 ?_
              refine e_goto (tgt := 60) dX11_isHeld_56 (by decide) ?_
              refine e_istore_n (ls2 := [_, _, _, _]) dX11_isHeld_60 (Nat.le_of_ble_eq_true rfl) rfl ?_
              refine e_iinc (ls2 := [_, _, _, _]) dX11_isHeld_61 rfl (Nat.le_of_ble_eq_true rfl) rfl ?_
              refine e_goto (tgt := 4) dX11_isHeld_64 (by decide) ?_
              exact ih (k + 1) _ _ (by omega) (by simp only [heldI, ← h3, ← h2]; split <;> omega) (by omega) (by omega)
  refine e_iconst dX11_isHeld_0 ?_
  refine e_istore_n (ls2 := [_, _, _, _]) dX11_isHeld_1 (Nat.le_of_ble_eq_true rfl) rfl ?_
  refine e_iconst dX11_isHeld_2 ?_
  refine e_istore_n (ls2 := [_, _, _, _]) dX11_isHeld_3 (Nat.le_of_ble_eq_true rfl) rfl ?_
  exact lp (M 50 27).toNat 0 0 0 (by omega) rfl rfl (Or.inl rfl)
set_option maxRecDepth 20000 in
set_option maxHeartbeats 4000000 in
theorem m_isFollowed {K : q_K} {M C : q_S} {a : Nat} (hT : K a = (12, 0, 50)) (hW : WR M) {v : Int} (hv : 0 ≤ v ∧ v < M 50 16) : q_E mX11_isFollowed 0 [some (q_R a), some (q_I v), none, none] [] K M C 0 0 (e_is (some (q_I (follI M v (M 50 16 - v - 1).toNat))) K M C) := by
  have lp : ∀ (r k : Nat) (s c : Int), k + r = (M 50 16 - v - 1).toNat → s = follI M v k → c = v + 1 + k → s = 0 ∨ s = 1 → q_E mX11_isFollowed 6 [some (q_R a), some (q_I v), some (q_I s), some (q_I c)] [] K M C 0 0 (e_is (some (q_I (follI M v (M 50 16 - v - 1).toNat))) K M C) := by
    intro r
    induction r with
    | zero =>
      intro k s c h1 h2 h3 h4
      refine e_iload_n dX11_isFollowed_6 rfl ?_
      refine e_aload_n dX11_isFollowed_7 rfl ?_
      refine m_getI (by decide) dX11_isFollowed_8 f_X11_155 (Or.inl rfl) hT ?_
      have g_8 := rs_16 hW
      refine e_icmp_ge (tgt := 75) dX11_isFollowed_11 (by decide) ⟨by omega, by omega⟩ ⟨by omega, by omega⟩ (fun c_11 => ?_) (fun c_11 => ?_)
      · refine e_iload_n dX11_isFollowed_75 rfl ?_
        exact e_iret dX11_isFollowed_76 (Or.inr ⟨rfl, h4⟩) (e_ok (by (have e9 : k = (M 50 16 - v - 1).toNat := (by omega)); rw [h2, e9]) rfl rfl)
      · exfalso; omega
    | succ r ih =>
      intro k s c h1 h2 h3 h4
      refine e_iload_n dX11_isFollowed_6 rfl ?_
      refine e_aload_n dX11_isFollowed_7 rfl ?_
      refine m_getI (by decide) dX11_isFollowed_8 f_X11_155 (Or.inl rfl) hT ?_
      have g_8 := rs_16 hW
      refine e_icmp_ge (tgt := 75) dX11_isFollowed_11 (by decide) ⟨by omega, by omega⟩ ⟨by omega, by omega⟩ (fun c_11 => ?_) (fun c_11 => ?_)
      · exfalso; omega
      · refine e_iload_n dX11_isFollowed_14 rfl ?_
        refine e_if_ne (tgt := 63) dX11_isFollowed_15 (by decide) ⟨by omega, by omega⟩ (fun c_15 => ?_) (fun c_15 => ?_)
        · refine e_iconst dX11_isFollowed_63 ?_
          refine e_goto (tgt := 68) dX11_isFollowed_64 (by decide) ?_
          refine e_istore_n (ls2 := [_, _, _, _]) dX11_isFollowed_68 (Nat.le_of_ble_eq_true rfl) rfl ?_
          refine e_iinc (ls2 := [_, _, _, _]) dX11_isFollowed_69 rfl (Nat.le_of_ble_eq_true rfl) rfl ?_
          refine e_goto (tgt := 6) dX11_isFollowed_72 (by decide) ?_
          exact ih (k + 1) _ _ (by omega) (by simp only [follI, ← h3, ← h2]; split <;> omega) (by omega) (by omega)
        · refine e_aload_n dX11_isFollowed_18 rfl ?_
          refine m_getR (kt := (20, 120, 17)) (by decide) dX11_isFollowed_19 f_X11_44 hT rfl (Nat.succ_ne_zero _) (fun q_19 h_19 => ?_)
          refine e_iload_n dX11_isFollowed_22 rfl ?_
          refine m_iaw (by decide) (rg_17 hW) dX11_isFollowed_23 h_19 (by omega) (by omega) (fun g_23 => ?_)
          refine e_aload_n dX11_isFollowed_24 rfl ?_
          refine m_getR (kt := (20, 120, 17)) (by decide) dX11_isFollowed_25 f_X11_44 hT rfl (Nat.succ_ne_zero _) (fun q_25 h_25 => ?_)
          refine e_iload_n dX11_isFollowed_28 rfl ?_
          refine m_iaw (by decide) (rg_17 hW) dX11_isFollowed_29 h_25 (by omega) (by omega) (fun g_29 => ?_)
          refine e_icmp_ne (tgt := 67) dX11_isFollowed_30 (by decide) ⟨by omega, by omega⟩ ⟨by omega, by omega⟩ (fun c_30 => ?_) (fun c_30 => ?_)
          · refine e_iconst dX11_isFollowed_67 ?_
            refine e_istore_n (ls2 := [_, _, _, _]) dX11_isFollowed_68 (Nat.le_of_ble_eq_true rfl) rfl ?_
            refine e_iinc (ls2 := [_, _, _, _]) dX11_isFollowed_69 rfl (Nat.le_of_ble_eq_true rfl) rfl ?_
            refine e_goto (tgt := 6) dX11_isFollowed_72 (by decide) ?_
            exact ih (k + 1) _ _ (by omega) (by simp only [follI, ← h3, ← h2]; split <;> omega) (by omega) (by omega)
          · refine e_aload_n dX11_isFollowed_33 rfl ?_
            refine m_getR (kt := (20, 120, 22)) (by decide) dX11_isFollowed_34 f_X11_59 hT rfl (Nat.succ_ne_zero _) (fun q_34 h_34 => ?_)
            refine e_iload_n dX11_isFollowed_37 rfl ?_
            refine m_iaw (by decide) (rg_22 hW) dX11_isFollowed_38 h_34 (by omega) (by omega) (fun g_38 => ?_)
            refine e_if_ne (tgt := 67) dX11_isFollowed_39 (by decide) ⟨by omega, by omega⟩ (fun c_39 => ?_) (fun c_39 => ?_)
            · refine e_iconst dX11_isFollowed_67 ?_
              refine e_istore_n (ls2 := [_, _, _, _]) dX11_isFollowed_68 (Nat.le_of_ble_eq_true rfl) rfl ?_
              refine e_iinc (ls2 := [_, _, _, _]) dX11_isFollowed_69 rfl (Nat.le_of_ble_eq_true rfl) rfl ?_
              refine e_goto (tgt := 6) dX11_isFollowed_72 (by decide) ?_
              exact ih (k + 1) _ _ (by omega) (by simp only [follI, ← h3, ← h2]; split <;> omega) (by omega) (by omega)
            · refine e_aload_n dX11_isFollowed_42 rfl ?_
              refine m_getR (kt := (20, 120, 18)) (by decide) dX11_isFollowed_43 f_X11_47 hT rfl (Nat.succ_ne_zero _) (fun q_43 h_43 => ?_)
              refine e_iload_n dX11_isFollowed_46 rfl ?_
              refine m_iaw (by decide) (rg_18 hW) dX11_isFollowed_47 h_43 (by omega) (by omega) (fun g_47 => ?_)
              refine e_bipush dX11_isFollowed_48 (by decide) ?_
              refine e_idiv dX11_isFollowed_50 ⟨by omega, by omega⟩ ⟨by omega, by omega⟩ ?_
              refine e_aload_n dX11_isFollowed_51 rfl ?_
              refine m_getR (kt := (20, 120, 18)) (by decide) dX11_isFollowed_52 f_X11_47 hT rfl (Nat.succ_ne_zero _) (fun q_52 h_52 => ?_)
              refine e_iload_n dX11_isFollowed_55 rfl ?_
              refine m_iaw (by decide) (rg_18 hW) dX11_isFollowed_56 h_52 (by omega) (by omega) (fun g_56 => ?_)
              refine e_bipush dX11_isFollowed_57 (by decide) ?_
              refine e_idiv dX11_isFollowed_59 ⟨by omega, by omega⟩ ⟨by omega, by omega⟩ ?_
              refine e_icmp_ne (tgt := 67) dX11_isFollowed_60 (by decide) ⟨by omega, by omega⟩ ⟨by omega, by omega⟩ (fun c_60 => ?_) (fun c_60 => ?_)
              · refine e_iconst dX11_isFollowed_67 ?_
                refine e_istore_n (ls2 := [_, _, _, _]) dX11_isFollowed_68 (Nat.le_of_ble_eq_true rfl) rfl ?_
                refine e_iinc (ls2 := [_, _, _, _]) dX11_isFollowed_69 rfl (Nat.le_of_ble_eq_true rfl) rfl ?_
                refine e_goto (tgt := 6) dX11_isFollowed_72 (by decide) ?_
                exact ih (k + 1) _ _ (by omega) (by simp only [follI, ← h3, ← h2]; split <;> omega) (by omega) (by omega)
              · refine e_iconst dX11_isFollowed_63 ?_
                refine e_goto (tgt := 68) dX11_isFollowed_64 (by decide) ?_
                refine e_istore_n (ls2 := [_, _, _, _]) dX11_isFollowed_68 (Nat.le_of_ble_eq_true rfl) rfl ?_
                refine e_iinc (ls2 := [_, _, _, _]) dX11_isFollowed_69 rfl (Nat.le_of_ble_eq_true rfl) rfl ?_
                refine e_goto (tgt := 6) dX11_isFollowed_72 (by decide) ?_
                exact ih (k + 1) _ _ (by omega) (by simp only [follI, ← h3, ← h2]; split <;> omega) (by omega) (by omega)
  have g16 := rs_16 hW
  refine e_iconst dX11_isFollowed_0 ?_
  refine e_istore_n (ls2 := [_, _, _, _]) dX11_isFollowed_1 (Nat.le_of_ble_eq_true rfl) rfl ?_
  refine e_iload_n dX11_isFollowed_2 rfl ?_
  refine e_iconst dX11_isFollowed_3 ?_
  refine e_iadd dX11_isFollowed_4 ?_
  refine e_istore_n (ls2 := [_, _, _, _]) dX11_isFollowed_5 (Nat.le_of_ble_eq_true rfl) rfl ?_
  exact lp (M 50 16 - v - 1).toNat 0 0 _ (by omega) rfl (by omega) (Or.inl rfl)
