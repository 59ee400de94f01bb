set_option maxRecDepth 20000 in
set_option maxHeartbeats 4000000 in
theorem m_late {K : q_K} {M C : q_S} {a : Nat} (hT : K a = (12, 0, 50)) (hW : WR M) {m h : Int} (hm : q_iI m) (hh : q_iI h)  : q_E mX11_late 0 [some (q_R a), some (q_I m), some (q_I h), none] [] K M C 0 0 (e_is (some (q_I (lateF M m h).1)) K (lateF M m h).2 C) := by
  refine e_aload_n dX11_late_0 rfl ?_
  refine e_iload_n dX11_late_1 rfl ?_
  refine e_cS (as := [_]) dX11_late_2 k_X11_isMachine l_X11_135 s_X11_isMachine rfl rfl rfl rfl (Nat.le_of_ble_eq_true rfl) ⟨by decide, by decide⟩ (Nat.le_of_ble_eq_true rfl) (by decide) (m_isMachine (by assumption)) ?_
  refine e_if_ne (tgt := 12) dX11_late_5 (by decide) bi_iI (fun c_5 => ?_) (fun c_5 => ?_)
  · simp only [bi_z, Classical.not_not] at c_5
    refine e_iload_n dX11_late_12 rfl ?_
    refine e_iconst dX11_late_13 ?_
    refine e_bipush dX11_late_14 (by decide) ?_
    refine e_cS (as := [_, _, _]) dX11_late_16 k_X11_in l_X11_105 s_X11_in rfl rfl rfl rfl (Nat.le_of_ble_eq_true rfl) ⟨by decide, by decide⟩ (Nat.le_of_ble_eq_true rfl) (by decide) (m_in (by first | assumption | exact ⟨by decide, by decide⟩ | exact ⟨by omega, by omega⟩) (by first | assumption | exact ⟨by decide, by decide⟩ | exact ⟨by omega, by omega⟩) (by first | assumption | exact ⟨by decide, by decide⟩ | exact ⟨by omega, by omega⟩)) ?_
    refine e_if_ne (tgt := 26) dX11_late_19 (by decide) bi_iI (fun c_19 => ?_) (fun c_19 => ?_)
    · simp only [bi_z, Classical.not_not] at c_19
      refine e_iconst dX11_late_26 ?_
      refine m_putI (by decide) dX11_late_27 f_X11_101 rfl hT ⟨by omega, by omega⟩ ?_
      refine e_aload_n dX11_late_30 rfl ?_
      refine m_getI (by decide) dX11_late_31 f_X11_101 (Or.inl rfl) hT ?_
      simp only [q_us_ap, editsF_3, Int.reduceEq, Int.reduceNeg, false_and, and_false, and_self, if_true, if_false, true_and, and_true, ite_self]
      have g_31 := rs_41 hW
      refine e_if_le (tgt := 39) dX11_late_34 (by decide) ⟨by decide, by decide⟩ (fun c_34 => ?_) (fun c_34 => ?_)
      · refine e_aload_n dX11_late_39 rfl ?_
        refine m_getR (kt := (20, 3, 11)) (by decide) dX11_late_40 f_X11_32 hT rfl (Nat.succ_ne_zero _) (fun q_40 h_40 => ?_)
        refine e_iload_n dX11_late_43 rfl ?_
        refine m_iald (by decide) dX11_late_44 h_40 (by omega) (by omega) ?_
        simp only [q_us_ap, editsF_3, Int.reduceEq, Int.reduceNeg, false_and, and_false, and_self, if_true, if_false, true_and, and_true, ite_self]
        have g_44 := rg_11 hW m (by omega) (by omega)
        refine e_istore_n (ls2 := [_, _, _, _]) dX11_late_45 (Nat.le_of_ble_eq_true rfl) rfl ?_
        refine e_aload_n dX11_late_46 rfl ?_
        refine m_getR (kt := (20, 3, 11)) (by decide) dX11_late_47 f_X11_32 hT rfl (Nat.succ_ne_zero _) (fun q_47 h_47 => ?_)
        refine e_iload_n dX11_late_50 rfl ?_
        refine e_iload_n dX11_late_51 rfl ?_
        refine m_iast (by decide) dX11_late_52 h_47 (by omega) (by omega) ⟨by omega, by omega⟩ ?_
        refine e_iload_n dX11_late_53 rfl ?_
        refine e_iret dX11_late_54 (Or.inl rfl) ?_
        first
        | exact e_ok rfl rfl rfl
        | (unfold lateF; repeat' split
           all_goals first | exact e_ok rfl rfl rfl | (exfalso; omega) | (refine e_ok ?_ rfl rfl; unfold bi; repeat' split; all_goals first | rfl | (exfalso; omega)))
      · exact absurd c_34 (by decide)
    · simp only [bi_z, Classical.not_not] at c_19
      refine e_iconst dX11_late_22 ?_
      refine e_goto (tgt := 27) dX11_late_23 (by decide) ?_
      refine m_putI (by decide) dX11_late_27 f_X11_101 rfl hT ⟨by omega, by omega⟩ ?_
      refine e_aload_n dX11_late_30 rfl ?_
      refine m_getI (by decide) dX11_late_31 f_X11_101 (Or.inl rfl) hT ?_
      simp only [q_us_ap, editsF_3, Int.reduceEq, Int.reduceNeg, false_and, and_false, and_self, if_true, if_false, true_and, and_true, ite_self]
      have g_31 := rs_41 hW
      refine e_if_le (tgt := 39) dX11_late_34 (by decide) ⟨by decide, by decide⟩ (fun c_34 => ?_) (fun c_34 => ?_)
      · exact absurd c_34 (by decide)
      · refine e_iconst dX11_late_37 ?_
        refine e_iret dX11_late_38 (Or.inl rfl) ?_
        first
        | exact e_ok rfl rfl rfl
        | (unfold lateF; repeat' split
           all_goals first | exact e_ok rfl rfl rfl | (exfalso; omega) | (refine e_ok ?_ rfl rfl; unfold bi; repeat' split; all_goals first | rfl | (exfalso; omega)))
  · simp only [bi_z, Classical.not_not] at c_5
    refine e_iconst dX11_late_8 ?_
    refine e_goto (tgt := 27) dX11_late_9 (by decide) ?_
    refine m_putI (by decide) dX11_late_27 f_X11_101 rfl hT ⟨by omega, by omega⟩ ?_
    refine e_aload_n dX11_late_30 rfl ?_
    refine m_getI (by decide) dX11_late_31 f_X11_101 (Or.inl rfl) hT ?_
    simp only [q_us_ap, editsF_3, Int.reduceEq, Int.reduceNeg, false_and, and_false, and_self, if_true, if_false, true_and, and_true, ite_self]
    have g_31 := rs_41 hW
    refine e_if_le (tgt := 39) dX11_late_34 (by decide) ⟨by decide, by decide⟩ (fun c_34 => ?_) (fun c_34 => ?_)
    · exact absurd c_34 (by decide)
    · refine e_iconst dX11_late_37 ?_
      refine e_iret dX11_late_38 (Or.inl rfl) ?_
      first
      | exact e_ok rfl rfl rfl
      | (unfold lateF; repeat' split
         all_goals first | exact e_ok rfl rfl rfl | (exfalso; omega) | (refine e_ok ?_ rfl rfl; unfold bi; repeat' split; all_goals first | rfl | (exfalso; omega)))
set_option maxRecDepth 20000 in
set_option maxHeartbeats 4000000 in
theorem m_room {K : q_K} {M C : q_S} {a : Nat} (hT : K a = (12, 0, 50)) (hW : WR M) {m h : Int} (hm : q_iI m) (hh : q_iI h)  : q_E mX11_room 0 [some (q_R a), some (q_I m), some (q_I h), none] [] K M C 0 0 (e_is (some (q_I (roomF M m h).1)) K (roomF M m h).2 C) := by
  refine e_aload_n dX11_room_0 rfl ?_
  refine e_iload_n dX11_room_1 rfl ?_
  refine e_cS (as := [_]) dX11_room_2 k_X11_isMachine l_X11_135 s_X11_isMachine rfl rfl rfl rfl (Nat.le_of_ble_eq_true rfl) ⟨by decide, by decide⟩ (Nat.le_of_ble_eq_true rfl) (by decide) (m_isMachine (by assumption)) ?_
  refine e_if_ne (tgt := 12) dX11_room_5 (by decide) bi_iI (fun c_5 => ?_) (fun c_5 => ?_)
  · simp only [bi_z, Classical.not_not] at c_5
    refine e_iload_n dX11_room_12 rfl ?_
    refine e_iconst dX11_room_13 ?_
    refine e_sipush dX11_room_14 (by decide) ?_
    refine e_cS (as := [_, _, _]) dX11_room_17 k_X11_in l_X11_105 s_X11_in rfl rfl rfl rfl (Nat.le_of_ble_eq_true rfl) ⟨by decide, by decide⟩ (Nat.le_of_ble_eq_true rfl) (by decide) (m_in (by first | assumption | exact ⟨by decide, by decide⟩ | exact ⟨by omega, by omega⟩) (by first | assumption | exact ⟨by decide, by decide⟩ | exact ⟨by omega, by omega⟩) (by first | assumption | exact ⟨by decide, by decide⟩ | exact ⟨by omega, by omega⟩)) ?_
    refine e_if_ne (tgt := 27) dX11_room_20 (by decide) bi_iI (fun c_20 => ?_) (fun c_20 => ?_)
    · simp only [bi_z, Classical.not_not] at c_20
      refine e_iconst dX11_room_27 ?_
      refine m_putI (by decide) dX11_room_28 f_X11_101 rfl hT ⟨by omega, by omega⟩ ?_
      refine e_aload_n dX11_room_31 rfl ?_
      refine m_getI (by decide) dX11_room_32 f_X11_101 (Or.inl rfl) hT ?_
      simp only [q_us_ap, editsF_3, Int.reduceEq, Int.reduceNeg, false_and, and_false, and_self, if_true, if_false, true_and, and_true, ite_self]
      have g_32 := rs_41 hW
      refine e_if_le (tgt := 40) dX11_room_35 (by decide) ⟨by decide, by decide⟩ (fun c_35 => ?_) (fun c_35 => ?_)
      · refine e_aload_n dX11_room_40 rfl ?_
        refine m_getR (kt := (20, 3, 12)) (by decide) dX11_room_41 f_X11_35 hT rfl (Nat.succ_ne_zero _) (fun q_41 h_41 => ?_)
        refine e_iload_n dX11_room_44 rfl ?_
        refine m_iald (by decide) dX11_room_45 h_41 (by omega) (by omega) ?_
        simp only [q_us_ap, editsF_3, Int.reduceEq, Int.reduceNeg, false_and, and_false, and_self, if_true, if_false, true_and, and_true, ite_self]
        have g_45 := rg_12 hW m (by omega) (by omega)
        refine e_istore_n (ls2 := [_, _, _, _]) dX11_room_46 (Nat.le_of_ble_eq_true rfl) rfl ?_
        refine e_aload_n dX11_room_47 rfl ?_
        refine m_getR (kt := (20, 3, 12)) (by decide) dX11_room_48 f_X11_35 hT rfl (Nat.succ_ne_zero _) (fun q_48 h_48 => ?_)
        refine e_iload_n dX11_room_51 rfl ?_
        refine e_iload_n dX11_room_52 rfl ?_
        refine m_iast (by decide) dX11_room_53 h_48 (by omega) (by omega) ⟨by omega, by omega⟩ ?_
        refine e_iload_n dX11_room_54 rfl ?_
        refine e_iret dX11_room_55 (Or.inl rfl) ?_
        first
        | exact e_ok rfl rfl rfl
        | (unfold roomF; repeat' split
           all_goals first | exact e_ok rfl rfl rfl | (exfalso; omega) | (refine e_ok ?_ rfl rfl; unfold bi; repeat' split; all_goals first | rfl | (exfalso; omega)))
      · exact absurd c_35 (by decide)
    · simp only [bi_z, Classical.not_not] at c_20
      refine e_iconst dX11_room_23 ?_
      refine e_goto (tgt := 28) dX11_room_24 (by decide) ?_
      refine m_putI (by decide) dX11_room_28 f_X11_101 rfl hT ⟨by omega, by omega⟩ ?_
      refine e_aload_n dX11_room_31 rfl ?_
      refine m_getI (by decide) dX11_room_32 f_X11_101 (Or.inl rfl) hT ?_
      simp only [q_us_ap, editsF_3, Int.reduceEq, Int.reduceNeg, false_and, and_false, and_self, if_true, if_false, true_and, and_true, ite_self]
      have g_32 := rs_41 hW
      refine e_if_le (tgt := 40) dX11_room_35 (by decide) ⟨by decide, by decide⟩ (fun c_35 => ?_) (fun c_35 => ?_)
      · exact absurd c_35 (by decide)
      · refine e_iconst dX11_room_38 ?_
        refine e_iret dX11_room_39 (Or.inl rfl) ?_
        first
        | exact e_ok rfl rfl rfl
        | (unfold roomF; repeat' split
           all_goals first | exact e_ok rfl rfl rfl | (exfalso; omega) | (refine e_ok ?_ rfl rfl; unfold bi; repeat' split; all_goals first | rfl | (exfalso; omega)))
  · simp only [bi_z, Classical.not_not] at c_5
    refine e_iconst dX11_room_8 ?_
    refine e_goto (tgt := 28) dX11_room_9 (by decide) ?_
    refine m_putI (by decide) dX11_room_28 f_X11_101 rfl hT ⟨by omega, by omega⟩ ?_
    refine e_aload_n dX11_room_31 rfl ?_
    refine m_getI (by decide) dX11_room_32 f_X11_101 (Or.inl rfl) hT ?_
    simp only [q_us_ap, editsF_3, Int.reduceEq, Int.reduceNeg, false_and, and_false, and_self, if_true, if_false, true_and, and_true, ite_self]
    have g_32 := rs_41 hW
    refine e_if_le (tgt := 40) dX11_room_35 (by decide) ⟨by decide, by decide⟩ (fun c_35 => ?_) (fun c_35 => ?_)
    · exact absurd c_35 (by decide)
    · refine e_iconst dX11_room_38 ?_
      refine e_iret dX11_room_39 (Or.inl rfl) ?_
      first
      | exact e_ok rfl rfl rfl
      | (unfold roomF; repeat' split
         all_goals first | exact e_ok rfl rfl rfl | (exfalso; omega) | (refine e_ok ?_ rfl rfl; unfold bi; repeat' split; all_goals first | rfl | (exfalso; omega)))
set_option maxRecDepth 20000 in
set_option maxHeartbeats 4000000 in
theorem m_time {K : q_K} {M C : q_S} {a : Nat} (hT : K a = (12, 0, 50)) (hW : WR M)    : q_E mX11_time 0 [some (q_R a)] [] K M C 0 0 (e_is (some (q_I (timeF M).1)) K (timeF M).2 C) := by
  refine e_aload_n dX11_time_0 rfl ?_
  refine e_iconst dX11_time_1 ?_
  refine m_putI (by decide) dX11_time_2 f_X11_101 rfl hT ⟨by omega, by omega⟩ ?_
  refine e_aload_n dX11_time_5 rfl ?_
  refine m_getI (by decide) dX11_time_6 f_X11_132 (Or.inl rfl) hT ?_
  simp only [q_us_ap, editsF_3, Int.reduceEq, Int.reduceNeg, false_and, and_false, and_self, if_true, if_false, true_and, and_true, ite_self]
  refine e_iret dX11_time_9 (Or.inl rfl) ?_
  first
  | exact e_ok rfl rfl rfl
  | (unfold timeF; repeat' split
     all_goals first | exact e_ok rfl rfl rfl | (exfalso; omega) | (refine e_ok ?_ rfl rfl; unfold bi; repeat' split; all_goals first | rfl | (exfalso; omega)))
set_option maxRecDepth 20000 in
set_option maxHeartbeats 4000000 in
theorem m_versions {K : q_K} {M C : q_S} {a : Nat} (hT : K a = (12, 0, 50)) (hW : WR M)    : q_E mX11_versions 0 [some (q_R a)] [] K M C 0 0 (e_is (some (q_I (versionsF M).1)) K (versionsF M).2 C) := by
  refine e_aload_n dX11_versions_0 rfl ?_
  refine e_iconst dX11_versions_1 ?_
  refine m_putI (by decide) dX11_versions_2 f_X11_101 rfl hT ⟨by omega, by omega⟩ ?_
  refine e_aload_n dX11_versions_5 rfl ?_
  refine m_getI (by decide) dX11_versions_6 f_X11_155 (Or.inl rfl) hT ?_
  simp only [q_us_ap, editsF_3, Int.reduceEq, Int.reduceNeg, false_and, and_false, and_self, if_true, if_false, true_and, and_true, ite_self]
  refine e_iret dX11_versions_9 (Or.inl rfl) ?_
  first
  | exact e_ok rfl rfl rfl
  | (unfold versionsF; repeat' split
     all_goals first | exact e_ok rfl rfl rfl | (exfalso; omega) | (refine e_ok ?_ rfl rfl; unfold bi; repeat' split; all_goals first | rfl | (exfalso; omega)))
set_option maxRecDepth 20000 in
set_option maxHeartbeats 4000000 in
theorem m_release {K : q_K} {M C : q_S} {a : Nat} (hT : K a = (12, 0, 50)) (hW : WR M)    : q_E mX11_release 0 [some (q_R a), none] [] K M C 0 0 (e_is (some (q_I (releaseF M).1)) K (releaseF M).2 C) := by
  refine e_aload_n dX11_release_0 rfl ?_
  refine e_iconst dX11_release_1 ?_
  refine m_putI (by decide) dX11_release_2 f_X11_101 rfl hT ⟨by omega, by omega⟩ ?_
  refine e_aload_n dX11_release_5 rfl ?_
  refine m_getI (by decide) dX11_release_6 f_X11_236 (Or.inl rfl) hT ?_
  simp only [q_us_ap, editsF_3, Int.reduceEq, Int.reduceNeg, false_and, and_false, and_self, if_true, if_false, true_and, and_true, ite_self]
  have g_6 := rs_27 hW
  refine e_istore_n (ls2 := [_, _]) dX11_release_9 (Nat.le_of_ble_eq_true rfl) rfl ?_
  refine e_aload_n dX11_release_10 rfl ?_
  refine e_iconst dX11_release_11 ?_
  refine m_putI (by decide) dX11_release_12 f_X11_236 rfl hT ⟨by omega, by omega⟩ ?_
  refine e_iload_n dX11_release_15 rfl ?_
  refine e_iret dX11_release_16 (Or.inl rfl) ?_
  first
  | exact e_ok rfl rfl rfl
  | (unfold releaseF; repeat' split
     all_goals first | exact e_ok rfl rfl rfl | (exfalso; omega) | (refine e_ok ?_ rfl rfl; unfold bi; repeat' split; all_goals first | rfl | (exfalso; omega)))
set_option maxRecDepth 20000 in
set_option maxHeartbeats 4000000 in
theorem m_lockOf {K : q_K} {M C : q_S} {a : Nat} (hT : K a = (12, 0, 50)) (hW : WR M) {f : Int} (hf : q_iI f)  : q_E mX11_lockOf 0 [some (q_R a), some (q_I f)] [] K M C 0 0 (e_is (some (q_I (lockOfF M f).1)) K (lockOfF M f).2 C) := by
  refine e_aload_n dX11_lockOf_0 rfl ?_
  refine e_iload_n dX11_lockOf_1 rfl ?_
  refine e_cS (as := [_]) dX11_lockOf_2 k_X11_isFile l_X11_139 s_X11_isFile rfl rfl rfl rfl (Nat.le_of_ble_eq_true rfl) ⟨by decide, by decide⟩ (Nat.le_of_ble_eq_true rfl) (by decide) (m_isFile (by assumption)) ?_
  refine e_if_eq (tgt := 12) dX11_lockOf_5 (by decide) bi_iI (fun c_5 => ?_) (fun c_5 => ?_)
  · simp only [bi_z, Classical.not_not] at c_5
    refine e_iconst dX11_lockOf_12 ?_
    refine m_putI (by decide) dX11_lockOf_13 f_X11_101 rfl hT ⟨by omega, by omega⟩ ?_
    refine e_aload_n dX11_lockOf_16 rfl ?_
    refine m_getI (by decide) dX11_lockOf_17 f_X11_101 (Or.inl rfl) hT ?_
    simp only [q_us_ap, editsF_3, Int.reduceEq, Int.reduceNeg, false_and, and_false, and_self, if_true, if_false, true_and, and_true, ite_self]
    have g_17 := rs_41 hW
    refine e_if_ne (tgt := 31) dX11_lockOf_20 (by decide) ⟨by decide, by decide⟩ (fun c_20 => ?_) (fun c_20 => ?_)
    · refine e_iconst dX11_lockOf_31 ?_
      refine e_iret dX11_lockOf_32 (Or.inl rfl) ?_
      first
      | exact e_ok rfl rfl rfl
      | (unfold lockOfF; repeat' split
         all_goals first | exact e_ok rfl rfl rfl | (exfalso; omega) | (refine e_ok ?_ rfl rfl; unfold bi; repeat' split; all_goals first | rfl | (exfalso; omega)))
    · exact absurd c_20 (by decide)
  · simp only [bi_z, Classical.not_not] at c_5
    refine e_iconst dX11_lockOf_8 ?_
    refine e_goto (tgt := 13) dX11_lockOf_9 (by decide) ?_
    refine m_putI (by decide) dX11_lockOf_13 f_X11_101 rfl hT ⟨by omega, by omega⟩ ?_
    refine e_aload_n dX11_lockOf_16 rfl ?_
    refine m_getI (by decide) dX11_lockOf_17 f_X11_101 (Or.inl rfl) hT ?_
    simp only [q_us_ap, editsF_3, Int.reduceEq, Int.reduceNeg, false_and, and_false, and_self, if_true, if_false, true_and, and_true, ite_self]
    have g_17 := rs_41 hW
    refine e_if_ne (tgt := 31) dX11_lockOf_20 (by decide) ⟨by decide, by decide⟩ (fun c_20 => ?_) (fun c_20 => ?_)
    · exact absurd c_20 (by decide)
    · refine e_aload_n dX11_lockOf_23 rfl ?_
      refine e_iload_n dX11_lockOf_24 rfl ?_
      refine e_cV (as := [_]) (ci := 11) dX11_lockOf_25 k_X11_locker l_X11_161 i_X11_locker v_X11_locker hT rfl (by decide) ⟨_, _, rfl⟩ rfl rfl rfl rfl (Nat.le_of_ble_eq_true rfl) ⟨by decide, by decide⟩ (Nat.le_of_ble_eq_true rfl) (by decide) (m_locker hT (by first | exact hW | exact WR.up hW ⟨by decide, by decide⟩) ⟨by omega, by omega⟩) ?_
      try simp only [lockF_thr, rightF_thr, latestOf_thr, asOfT_thr]
      have g_25 := lockF_rg hW f
      refine e_goto (tgt := 32) dX11_lockOf_28 (by decide) ?_
      refine e_iret dX11_lockOf_32 (Or.inl rfl) ?_
      first
      | exact e_ok rfl rfl rfl
      | (unfold lockOfF; repeat' split
         all_goals first | exact e_ok rfl rfl rfl | (exfalso; omega) | (refine e_ok ?_ rfl rfl; unfold bi; repeat' split; all_goals first | rfl | (exfalso; omega)))
set_option maxRecDepth 20000 in
set_option maxHeartbeats 4000000 in
theorem m_right {K : q_K} {M C : q_S} {a : Nat} (hT : K a = (12, 0, 50)) (hW : WR M) {d m : Int} (hd : q_iI d) (hm : q_iI m)  : q_E mX11_right 0 [some (q_R a), some (q_I d), some (q_I m)] [] K M C 0 0 (e_is (some (q_I (rightMF M d m).1)) K (rightMF M d m).2 C) := by
  refine e_aload_n dX11_right_0 rfl ?_
  refine e_iload_n dX11_right_1 rfl ?_
  refine e_iconst dX11_right_2 ?_
  refine e_iconst dX11_right_3 ?_
  refine e_cS (as := [_, _, _]) dX11_right_4 k_X11_in l_X11_105 s_X11_in rfl rfl rfl rfl (Nat.le_of_ble_eq_true rfl) ⟨by decide, by decide⟩ (Nat.le_of_ble_eq_true rfl) (by decide) (m_in (by first | assumption | exact ⟨by decide, by decide⟩ | exact ⟨by omega, by omega⟩) (by first | assumption | exact ⟨by decide, by decide⟩ | exact ⟨by omega, by omega⟩) (by first | assumption | exact ⟨by decide, by decide⟩ | exact ⟨by omega, by omega⟩)) ?_
  refine e_if_eq (tgt := 21) dX11_right_7 (by decide) bi_iI (fun c_7 => ?_) (fun c_7 => ?_)
  · simp only [bi_z, Classical.not_not] at c_7
    refine e_iconst dX11_right_21 ?_
    refine m_putI (by decide) dX11_right_22 f_X11_101 rfl hT ⟨by omega, by omega⟩ ?_
    refine e_aload_n dX11_right_25 rfl ?_
    refine m_getI (by decide) dX11_right_26 f_X11_101 (Or.inl rfl) hT ?_
    simp only [q_us_ap, editsF_3, Int.reduceEq, Int.reduceNeg, false_and, and_false, and_self, if_true, if_false, true_and, and_true, ite_self]
    have g_26 := rs_41 hW
    refine e_if_ne (tgt := 41) dX11_right_29 (by decide) ⟨by decide, by decide⟩ (fun c_29 => ?_) (fun c_29 => ?_)
    · refine e_iconst dX11_right_41 ?_
      refine e_iret dX11_right_42 (Or.inl rfl) ?_
      first
      | exact e_ok rfl rfl rfl
      | (unfold rightMF; repeat' split
         all_goals first | exact e_ok rfl rfl rfl | (exfalso; omega) | (refine e_ok ?_ rfl rfl; unfold bi; repeat' split; all_goals first | rfl | (exfalso; omega)))
    · exact absurd c_29 (by decide)
  · simp only [bi_z, Classical.not_not] at c_7
    refine e_iload_n dX11_right_10 rfl ?_
    refine e_cS (as := [_]) dX11_right_11 k_X11_isMachine l_X11_135 s_X11_isMachine rfl rfl rfl rfl (Nat.le_of_ble_eq_true rfl) ⟨by decide, by decide⟩ (Nat.le_of_ble_eq_true rfl) (by decide) (m_isMachine (by assumption)) ?_
    refine e_if_eq (tgt := 21) dX11_right_14 (by decide) bi_iI (fun c_14 => ?_) (fun c_14 => ?_)
    · simp only [bi_z, Classical.not_not] at c_14
      refine e_iconst dX11_right_21 ?_
      refine m_putI (by decide) dX11_right_22 f_X11_101 rfl hT ⟨by omega, by omega⟩ ?_
      refine e_aload_n dX11_right_25 rfl ?_
      refine m_getI (by decide) dX11_right_26 f_X11_101 (Or.inl rfl) hT ?_
      simp only [q_us_ap, editsF_3, Int.reduceEq, Int.reduceNeg, false_and, and_false, and_self, if_true, if_false, true_and, and_true, ite_self]
      have g_26 := rs_41 hW
      refine e_if_ne (tgt := 41) dX11_right_29 (by decide) ⟨by decide, by decide⟩ (fun c_29 => ?_) (fun c_29 => ?_)
      · refine e_iconst dX11_right_41 ?_
        refine e_iret dX11_right_42 (Or.inl rfl) ?_
        first
        | exact e_ok rfl rfl rfl
        | (unfold rightMF; repeat' split
           all_goals first | exact e_ok rfl rfl rfl | (exfalso; omega) | (refine e_ok ?_ rfl rfl; unfold bi; repeat' split; all_goals first | rfl | (exfalso; omega)))
      · exact absurd c_29 (by decide)
    · simp only [bi_z, Classical.not_not] at c_14
      refine e_iconst dX11_right_17 ?_
      refine e_goto (tgt := 22) dX11_right_18 (by decide) ?_
      refine m_putI (by decide) dX11_right_22 f_X11_101 rfl hT ⟨by omega, by omega⟩ ?_
      refine e_aload_n dX11_right_25 rfl ?_
      refine m_getI (by decide) dX11_right_26 f_X11_101 (Or.inl rfl) hT ?_
      simp only [q_us_ap, editsF_3, Int.reduceEq, Int.reduceNeg, false_and, and_false, and_self, if_true, if_false, true_and, and_true, ite_self]
      have g_26 := rs_41 hW
      refine e_if_ne (tgt := 41) dX11_right_29 (by decide) ⟨by decide, by decide⟩ (fun c_29 => ?_) (fun c_29 => ?_)
      · exact absurd c_29 (by decide)
      · refine e_aload_n dX11_right_32 rfl ?_
        refine e_iload_n dX11_right_33 rfl ?_
        refine e_iload_n dX11_right_34 rfl ?_
        refine e_cV (as := [_, _]) (ci := 11) dX11_right_35 k_X11_rightOf l_X11_165 i_X11_rightOf v_X11_rightOf hT rfl (by decide) ⟨_, _, rfl⟩ rfl rfl rfl rfl (Nat.le_of_ble_eq_true rfl) ⟨by decide, by decide⟩ (Nat.le_of_ble_eq_true rfl) (by decide) (m_rightOf hT (by first | exact hW | exact WR.up hW ⟨by decide, by decide⟩) ⟨by omega, by omega⟩ ⟨by omega, by omega⟩) ?_
        try simp only [lockF_thr, rightF_thr, latestOf_thr, asOfT_thr]
        have g_35 := rightF_rg hW d m
        refine e_goto (tgt := 42) dX11_right_38 (by decide) ?_
        refine e_iret dX11_right_42 (Or.inl rfl) ?_
        first
        | exact e_ok rfl rfl rfl
        | (unfold rightMF; repeat' split
           all_goals first | exact e_ok rfl rfl rfl | (exfalso; omega) | (refine e_ok ?_ rfl rfl; unfold bi; repeat' split; all_goals first | rfl | (exfalso; omega)))
set_option maxRecDepth 20000 in
set_option maxHeartbeats 4000000 in
theorem m_breakLock {K : q_K} {M C : q_S} {a : Nat} (hT : K a = (12, 0, 50)) (hW : WR M) {f : Int} (hf : q_iI f)  : q_E mX11_breakLock 0 [some (q_R a), some (q_I f), none] [] K M C 0 0 (e_is (some (q_I (breakF M f).1)) K (breakF M f).2 C) := by
  refine e_aload_n dX11_breakLock_0 rfl ?_
  refine e_iload_n dX11_breakLock_1 rfl ?_
  refine e_cS (as := [_]) dX11_breakLock_2 k_X11_isFile l_X11_139 s_X11_isFile rfl rfl rfl rfl (Nat.le_of_ble_eq_true rfl) ⟨by decide, by decide⟩ (Nat.le_of_ble_eq_true rfl) (by decide) (m_isFile (by assumption)) ?_
  refine e_if_ne (tgt := 12) dX11_breakLock_5 (by decide) bi_iI (fun c_5 => ?_) (fun c_5 => ?_)
  · simp only [bi_z, Classical.not_not] at c_5
    refine e_aload_n dX11_breakLock_12 rfl ?_
    refine e_iload_n dX11_breakLock_13 rfl ?_
    refine e_cV (as := [_]) (ci := 11) dX11_breakLock_14 k_X11_locker l_X11_161 i_X11_locker v_X11_locker hT rfl (by decide) ⟨_, _, rfl⟩ rfl rfl rfl rfl (Nat.le_of_ble_eq_true rfl) ⟨by decide, by decide⟩ (Nat.le_of_ble_eq_true rfl) (by decide) (m_locker hT (by first | exact hW | exact WR.up hW ⟨by decide, by decide⟩) ⟨by omega, by omega⟩) ?_
    have g_14 := lockF_rg hW f
    refine e_iconst dX11_breakLock_17 ?_
    refine e_icmp_ne (tgt := 25) dX11_breakLock_18 (by decide) ⟨by omega, by omega⟩ ⟨by omega, by omega⟩ (fun c_18 => ?_) (fun c_18 => ?_)
    · refine e_iconst dX11_breakLock_25 ?_
      refine m_putI (by decide) dX11_breakLock_26 f_X11_101 rfl hT ⟨by omega, by omega⟩ ?_
      refine e_aload_n dX11_breakLock_29 rfl ?_
      refine m_getI (by decide) dX11_breakLock_30 f_X11_101 (Or.inl rfl) hT ?_
      simp only [q_us_ap, editsF_3, Int.reduceEq, Int.reduceNeg, false_and, and_false, and_self, if_true, if_false, true_and, and_true, ite_self]
      have g_30 := rs_41 hW
      refine e_if_le (tgt := 38) dX11_breakLock_33 (by decide) ⟨by decide, by decide⟩ (fun c_33 => ?_) (fun c_33 => ?_)
      · refine e_aload_n dX11_breakLock_38 rfl ?_
        refine e_iload_n dX11_breakLock_39 rfl ?_
        refine e_cV (as := [_]) (ci := 11) dX11_breakLock_40 k_X11_locker l_X11_161 i_X11_locker v_X11_locker hT rfl (by decide) ⟨_, _, rfl⟩ rfl rfl rfl rfl (Nat.le_of_ble_eq_true rfl) ⟨by decide, by decide⟩ (Nat.le_of_ble_eq_true rfl) (by decide) (m_locker hT (by first | exact hW | exact WR.up hW ⟨by decide, by decide⟩) ⟨by omega, by omega⟩) ?_
        try simp only [lockF_thr, rightF_thr, latestOf_thr, asOfT_thr]
        have g_40 := lockF_rg hW f
        refine e_istore_n (ls2 := [_, _, _]) dX11_breakLock_43 (Nat.le_of_ble_eq_true rfl) rfl ?_
        refine e_aload_n dX11_breakLock_44 rfl ?_
        refine m_getR (kt := (20, 16, 23)) (by decide) dX11_breakLock_45 f_X11_62 hT rfl (Nat.succ_ne_zero _) (fun q_45 h_45 => ?_)
        refine e_iload_n dX11_breakLock_48 rfl ?_
        refine e_iconst dX11_breakLock_49 ?_
        refine m_iast (by decide) dX11_breakLock_50 h_45 (by omega) (by omega) ⟨by omega, by omega⟩ ?_
        refine e_iload_n dX11_breakLock_51 rfl ?_
        refine e_iret dX11_breakLock_52 (Or.inl rfl) ?_
        first
        | exact e_ok rfl rfl rfl
        | (unfold breakF; repeat' split
           all_goals first | exact e_ok rfl rfl rfl | (exfalso; omega) | (refine e_ok ?_ rfl rfl; unfold bi; repeat' split; all_goals first | rfl | (exfalso; omega)))
      · exact absurd c_33 (by decide)
    · refine e_iconst dX11_breakLock_21 ?_
      refine e_goto (tgt := 26) dX11_breakLock_22 (by decide) ?_
      refine m_putI (by decide) dX11_breakLock_26 f_X11_101 rfl hT ⟨by omega, by omega⟩ ?_
      refine e_aload_n dX11_breakLock_29 rfl ?_
      refine m_getI (by decide) dX11_breakLock_30 f_X11_101 (Or.inl rfl) hT ?_
      simp only [q_us_ap, editsF_3, Int.reduceEq, Int.reduceNeg, false_and, and_false, and_self, if_true, if_false, true_and, and_true, ite_self]
      have g_30 := rs_41 hW
      refine e_if_le (tgt := 38) dX11_breakLock_33 (by decide) ⟨by decide, by decide⟩ (fun c_33 => ?_) (fun c_33 => ?_)
      · exact absurd c_33 (by decide)
      · refine e_iconst dX11_breakLock_36 ?_
        refine e_iret dX11_breakLock_37 (Or.inl rfl) ?_
        first
        | exact e_ok rfl rfl rfl
        | (unfold breakF; repeat' split
           all_goals first | exact e_ok rfl rfl rfl | (exfalso; omega) | (refine e_ok ?_ rfl rfl; unfold bi; repeat' split; all_goals first | rfl | (exfalso; omega)))
  · simp only [bi_z, Classical.not_not] at c_5
    refine e_iconst dX11_breakLock_8 ?_
    refine e_goto (tgt := 26) dX11_breakLock_9 (by decide) ?_
    refine m_putI (by decide) dX11_breakLock_26 f_X11_101 rfl hT ⟨by omega, by omega⟩ ?_
    refine e_aload_n dX11_breakLock_29 rfl ?_
    refine m_getI (by decide) dX11_breakLock_30 f_X11_101 (Or.inl rfl) hT ?_
    simp only [q_us_ap, editsF_3, Int.reduceEq, Int.reduceNeg, false_and, and_false, and_self, if_true, if_false, true_and, and_true, ite_self]
    have g_30 := rs_41 hW
    refine e_if_le (tgt := 38) dX11_breakLock_33 (by decide) ⟨by decide, by decide⟩ (fun c_33 => ?_) (fun c_33 => ?_)
    · exact absurd c_33 (by decide)
    · refine e_iconst dX11_breakLock_36 ?_
      refine e_iret dX11_breakLock_37 (Or.inl rfl) ?_
      first
      | exact e_ok rfl rfl rfl
      | (unfold breakF; repeat' split
         all_goals first | exact e_ok rfl rfl rfl | (exfalso; omega) | (refine e_ok ?_ rfl rfl; unfold bi; repeat' split; all_goals first | rfl | (exfalso; omega)))
set_option maxRecDepth 20000 in
set_option maxHeartbeats 4000000 in
theorem m_lock {K : q_K} {M C : q_S} {a : Nat} (hT : K a = (12, 0, 50)) (hW : WR M) {m f h : Int} (hm : q_iI m) (hf : q_iI f) (hh : q_iI h)  : q_E mX11_lock 0 [some (q_R a), some (q_I m), some (q_I f), some (q_I h)] [] K M C 0 0 (e_is (some (q_I (lockMF M m f h).1)) K (lockMF M m f h).2 C) := by
  refine e_aload_n dX11_lock_0 rfl ?_
  refine e_iload_n dX11_lock_1 rfl ?_
  refine e_cS (as := [_]) dX11_lock_2 k_X11_isMachine l_X11_135 s_X11_isMachine rfl rfl rfl rfl (Nat.le_of_ble_eq_true rfl) ⟨by decide, by decide⟩ (Nat.le_of_ble_eq_true rfl) (by decide) (m_isMachine (by assumption)) ?_
  refine e_if_eq (tgt := 15) dX11_lock_5 (by decide) bi_iI (fun c_5 => ?_) (fun c_5 => ?_)
  · simp only [bi_z, Classical.not_not] at c_5
    refine e_iconst dX11_lock_15 ?_
    refine e_goto (tgt := 56) dX11_lock_16 (by decide) ?_
    refine m_putI (by decide) dX11_lock_56 f_X11_101 rfl hT ⟨by omega, by omega⟩ ?_
    refine e_aload_n dX11_lock_59 rfl ?_
    refine m_getI (by decide) dX11_lock_60 f_X11_101 (Or.inl rfl) hT ?_
    simp only [q_us_ap, editsF_3, Int.reduceEq, Int.reduceNeg, false_and, and_false, and_self, if_true, if_false, true_and, and_true, ite_self]
    have g_60 := rs_41 hW
    refine e_if_le (tgt := 68) dX11_lock_63 (by decide) ⟨by decide, by decide⟩ (fun c_63 => ?_) (fun c_63 => ?_)
    · exact absurd c_63 (by decide)
    · refine e_iconst dX11_lock_66 ?_
      refine e_iret dX11_lock_67 (Or.inl rfl) ?_
      first
      | exact e_ok rfl rfl rfl
      | (unfold lockMF; repeat' split
         all_goals first | exact e_ok rfl rfl rfl | (exfalso; omega) | (refine e_ok ?_ rfl rfl; unfold bi; repeat' split; all_goals first | rfl | (exfalso; omega)))
  · simp only [bi_z, Classical.not_not] at c_5
    refine e_iload_n dX11_lock_8 rfl ?_
    refine e_cS (as := [_]) dX11_lock_9 k_X11_isFile l_X11_139 s_X11_isFile rfl rfl rfl rfl (Nat.le_of_ble_eq_true rfl) ⟨by decide, by decide⟩ (Nat.le_of_ble_eq_true rfl) (by decide) (m_isFile (by assumption)) ?_
    refine e_if_ne (tgt := 19) dX11_lock_12 (by decide) bi_iI (fun c_12 => ?_) (fun c_12 => ?_)
    · simp only [bi_z, Classical.not_not] at c_12
      refine e_iload_n dX11_lock_19 rfl ?_
      refine e_iconst dX11_lock_20 ?_
      refine e_bipush dX11_lock_21 (by decide) ?_
      refine e_cS (as := [_, _, _]) dX11_lock_23 k_X11_in l_X11_105 s_X11_in rfl rfl rfl rfl (Nat.le_of_ble_eq_true rfl) ⟨by decide, by decide⟩ (Nat.le_of_ble_eq_true rfl) (by decide) (m_in (by first | assumption | exact ⟨by decide, by decide⟩ | exact ⟨by omega, by omega⟩) (by first | assumption | exact ⟨by decide, by decide⟩ | exact ⟨by omega, by omega⟩) (by first | assumption | exact ⟨by decide, by decide⟩ | exact ⟨by omega, by omega⟩)) ?_
      refine e_if_ne (tgt := 33) dX11_lock_26 (by decide) bi_iI (fun c_26 => ?_) (fun c_26 => ?_)
      · simp only [bi_z, Classical.not_not] at c_26
        refine e_aload_n dX11_lock_33 rfl ?_
        refine e_iload_n dX11_lock_34 rfl ?_
        refine e_cV (as := [_]) (ci := 11) dX11_lock_35 k_X11_locker l_X11_161 i_X11_locker v_X11_locker hT rfl (by decide) ⟨_, _, rfl⟩ rfl rfl rfl rfl (Nat.le_of_ble_eq_true rfl) ⟨by decide, by decide⟩ (Nat.le_of_ble_eq_true rfl) (by decide) (m_locker hT (by first | exact hW | exact WR.up hW ⟨by decide, by decide⟩) ⟨by omega, by omega⟩) ?_
        have g_35 := lockF_rg hW f
        refine e_iconst dX11_lock_38 ?_
        refine e_icmp_eq (tgt := 55) dX11_lock_39 (by decide) ⟨by omega, by omega⟩ ⟨by omega, by omega⟩ (fun c_39 => ?_) (fun c_39 => ?_)
        · refine e_iconst dX11_lock_55 ?_
          refine m_putI (by decide) dX11_lock_56 f_X11_101 rfl hT ⟨by omega, by omega⟩ ?_
          refine e_aload_n dX11_lock_59 rfl ?_
          refine m_getI (by decide) dX11_lock_60 f_X11_101 (Or.inl rfl) hT ?_
          simp only [q_us_ap, editsF_3, Int.reduceEq, Int.reduceNeg, false_and, and_false, and_self, if_true, if_false, true_and, and_true, ite_self]
          have g_60 := rs_41 hW
          refine e_if_le (tgt := 68) dX11_lock_63 (by decide) ⟨by decide, by decide⟩ (fun c_63 => ?_) (fun c_63 => ?_)
          · refine e_aload_n dX11_lock_68 rfl ?_
            refine m_getR (kt := (20, 16, 23)) (by decide) dX11_lock_69 f_X11_62 hT rfl (Nat.succ_ne_zero _) (fun q_69 h_69 => ?_)
            refine e_iload_n dX11_lock_72 rfl ?_
            refine e_iload_n dX11_lock_73 rfl ?_
            refine e_iconst dX11_lock_74 ?_
            refine e_iadd dX11_lock_75 ?_
            refine m_iast (by decide) dX11_lock_76 h_69 (by omega) (by omega) ⟨by omega, by omega⟩ ?_
            refine e_aload_n dX11_lock_77 rfl ?_
            refine m_getR (kt := (20, 16, 24)) (by decide) dX11_lock_78 f_X11_65 hT rfl (Nat.succ_ne_zero _) (fun q_78 h_78 => ?_)
            refine e_iload_n dX11_lock_81 rfl ?_
            refine e_aload_n dX11_lock_82 rfl ?_
            refine m_getI (by decide) dX11_lock_83 f_X11_132 (Or.inl rfl) hT ?_
            simp only [q_us_ap, editsF_3, Int.reduceEq, Int.reduceNeg, false_and, and_false, and_self, if_true, if_false, true_and, and_true, ite_self]
            have g_83 := rs_1 hW
            refine e_iload_n dX11_lock_86 rfl ?_
            refine e_iadd dX11_lock_87 ?_
            refine m_iast (by decide) dX11_lock_88 h_78 (by omega) (by omega) ⟨by omega, by omega⟩ ?_
            refine e_aload_n dX11_lock_89 rfl ?_
            refine m_getR (kt := (20, 16, 24)) (by decide) dX11_lock_90 f_X11_65 hT rfl (Nat.succ_ne_zero _) (fun q_90 h_90 => ?_)
            refine e_iload_n dX11_lock_93 rfl ?_
            refine m_iald (by decide) dX11_lock_94 h_90 (by omega) (by omega) ?_
            simp only [q_us_ap, editsF_3, Int.reduceEq, Int.reduceNeg, false_and, and_false, and_self, if_true, if_false, true_and, and_true, ite_self]
            have g_94 := rg_24 hW f (by omega) (by omega)
            refine e_iret dX11_lock_95 (Or.inl rfl) ?_
            first
            | exact e_ok rfl rfl rfl
            | (unfold lockMF; repeat' split
               all_goals first | exact e_ok rfl rfl rfl | (exfalso; omega) | (refine e_ok ?_ rfl rfl; unfold bi; repeat' split; all_goals first | rfl | (exfalso; omega)))
          · exact absurd c_63 (by decide)
        · refine e_aload_n dX11_lock_42 rfl ?_
          refine e_iload_n dX11_lock_43 rfl ?_
          refine e_cV (as := [_]) (ci := 11) dX11_lock_44 k_X11_locker l_X11_161 i_X11_locker v_X11_locker hT rfl (by decide) ⟨_, _, rfl⟩ rfl rfl rfl rfl (Nat.le_of_ble_eq_true rfl) ⟨by decide, by decide⟩ (Nat.le_of_ble_eq_true rfl) (by decide) (m_locker hT (by first | exact hW | exact WR.up hW ⟨by decide, by decide⟩) ⟨by omega, by omega⟩) ?_
          have g_44 := lockF_rg hW f
          refine e_iload_n dX11_lock_47 rfl ?_
          refine e_icmp_eq (tgt := 55) dX11_lock_48 (by decide) ⟨by omega, by omega⟩ ⟨by omega, by omega⟩ (fun c_48 => ?_) (fun c_48 => ?_)
          · refine e_iconst dX11_lock_55 ?_
            refine m_putI (by decide) dX11_lock_56 f_X11_101 rfl hT ⟨by omega, by omega⟩ ?_
            refine e_aload_n dX11_lock_59 rfl ?_
            refine m_getI (by decide) dX11_lock_60 f_X11_101 (Or.inl rfl) hT ?_
            simp only [q_us_ap, editsF_3, Int.reduceEq, Int.reduceNeg, false_and, and_false, and_self, if_true, if_false, true_and, and_true, ite_self]
            have g_60 := rs_41 hW
            refine e_if_le (tgt := 68) dX11_lock_63 (by decide) ⟨by decide, by decide⟩ (fun c_63 => ?_) (fun c_63 => ?_)
            · refine e_aload_n dX11_lock_68 rfl ?_
              refine m_getR (kt := (20, 16, 23)) (by decide) dX11_lock_69 f_X11_62 hT rfl (Nat.succ_ne_zero _) (fun q_69 h_69 => ?_)
              refine e_iload_n dX11_lock_72 rfl ?_
              refine e_iload_n dX11_lock_73 rfl ?_
              refine e_iconst dX11_lock_74 ?_
              refine e_iadd dX11_lock_75 ?_
              refine m_iast (by decide) dX11_lock_76 h_69 (by omega) (by omega) ⟨by omega, by omega⟩ ?_
              refine e_aload_n dX11_lock_77 rfl ?_
              refine m_getR (kt := (20, 16, 24)) (by decide) dX11_lock_78 f_X11_65 hT rfl (Nat.succ_ne_zero _) (fun q_78 h_78 => ?_)
              refine e_iload_n dX11_lock_81 rfl ?_
              refine e_aload_n dX11_lock_82 rfl ?_
              refine m_getI (by decide) dX11_lock_83 f_X11_132 (Or.inl rfl) hT ?_
              simp only [q_us_ap, editsF_3, Int.reduceEq, Int.reduceNeg, false_and, and_false, and_self, if_true, if_false, true_and, and_true, ite_self]
              have g_83 := rs_1 hW
              refine e_iload_n dX11_lock_86 rfl ?_
              refine e_iadd dX11_lock_87 ?_
              refine m_iast (by decide) dX11_lock_88 h_78 (by omega) (by omega) ⟨by omega, by omega⟩ ?_
              refine e_aload_n dX11_lock_89 rfl ?_
              refine m_getR (kt := (20, 16, 24)) (by decide) dX11_lock_90 f_X11_65 hT rfl (Nat.succ_ne_zero _) (fun q_90 h_90 => ?_)
              refine e_iload_n dX11_lock_93 rfl ?_
              refine m_iald (by decide) dX11_lock_94 h_90 (by omega) (by omega) ?_
              simp only [q_us_ap, editsF_3, Int.reduceEq, Int.reduceNeg, false_and, and_false, and_self, if_true, if_false, true_and, and_true, ite_self]
              have g_94 := rg_24 hW f (by omega) (by omega)
              refine e_iret dX11_lock_95 (Or.inl rfl) ?_
              first
              | exact e_ok rfl rfl rfl
              | (unfold lockMF; repeat' split
                 all_goals first | exact e_ok rfl rfl rfl | (exfalso; omega) | (refine e_ok ?_ rfl rfl; unfold bi; repeat' split; all_goals first | rfl | (exfalso; omega)))
            · exact absurd c_63 (by decide)
          · refine e_iconst dX11_lock_51 ?_
            refine e_goto (tgt := 56) dX11_lock_52 (by decide) ?_
            refine m_putI (by decide) dX11_lock_56 f_X11_101 rfl hT ⟨by omega, by omega⟩ ?_
            refine e_aload_n dX11_lock_59 rfl ?_
            refine m_getI (by decide) dX11_lock_60 f_X11_101 (Or.inl rfl) hT ?_
            simp only [q_us_ap, editsF_3, Int.reduceEq, Int.reduceNeg, false_and, and_false, and_self, if_true, if_false, true_and, and_true, ite_self]
            have g_60 := rs_41 hW
            refine e_if_le (tgt := 68) dX11_lock_63 (by decide) ⟨by decide, by decide⟩ (fun c_63 => ?_) (fun c_63 => ?_)
            · exact absurd c_63 (by decide)
            · refine e_iconst dX11_lock_66 ?_
              refine e_iret dX11_lock_67 (Or.inl rfl) ?_
              first
              | exact e_ok rfl rfl rfl
              | (unfold lockMF; repeat' split
                 all_goals first | exact e_ok rfl rfl rfl | (exfalso; omega) | (refine e_ok ?_ rfl rfl; unfold bi; repeat' split; all_goals first | rfl | (exfalso; omega)))
      · simp only [bi_z, Classical.not_not] at c_26
        refine e_iconst dX11_lock_29 ?_
        refine e_goto (tgt := 56) dX11_lock_30 (by decide) ?_
        refine m_putI (by decide) dX11_lock_56 f_X11_101 rfl hT ⟨by omega, by omega⟩ ?_
        refine e_aload_n dX11_lock_59 rfl ?_
        refine m_getI (by decide) dX11_lock_60 f_X11_101 (Or.inl rfl) hT ?_
        simp only [q_us_ap, editsF_3, Int.reduceEq, Int.reduceNeg, false_and, and_false, and_self, if_true, if_false, true_and, and_true, ite_self]
        have g_60 := rs_41 hW
        refine e_if_le (tgt := 68) dX11_lock_63 (by decide) ⟨by decide, by decide⟩ (fun c_63 => ?_) (fun c_63 => ?_)
        · exact absurd c_63 (by decide)
        · refine e_iconst dX11_lock_66 ?_
          refine e_iret dX11_lock_67 (Or.inl rfl) ?_
          first
          | exact e_ok rfl rfl rfl
          | (unfold lockMF; repeat' split
             all_goals first | exact e_ok rfl rfl rfl | (exfalso; omega) | (refine e_ok ?_ rfl rfl; unfold bi; repeat' split; all_goals first | rfl | (exfalso; omega)))
    · simp only [bi_z, Classical.not_not] at c_12
      refine e_iconst dX11_lock_15 ?_
      refine e_goto (tgt := 56) dX11_lock_16 (by decide) ?_
      refine m_putI (by decide) dX11_lock_56 f_X11_101 rfl hT ⟨by omega, by omega⟩ ?_
      refine e_aload_n dX11_lock_59 rfl ?_
      refine m_getI (by decide) dX11_lock_60 f_X11_101 (Or.inl rfl) hT ?_
      simp only [q_us_ap, editsF_3, Int.reduceEq, Int.reduceNeg, false_and, and_false, and_self, if_true, if_false, true_and, and_true, ite_self]
      have g_60 := rs_41 hW
      refine e_if_le (tgt := 68) dX11_lock_63 (by decide) ⟨by decide, by decide⟩ (fun c_63 => ?_) (fun c_63 => ?_)
      · exact absurd c_63 (by decide)
      · refine e_iconst dX11_lock_66 ?_
        refine e_iret dX11_lock_67 (Or.inl rfl) ?_
        first
        | exact e_ok rfl rfl rfl
        | (unfold lockMF; repeat' split
           all_goals first | exact e_ok rfl rfl rfl | (exfalso; omega) | (refine e_ok ?_ rfl rfl; unfold bi; repeat' split; all_goals first | rfl | (exfalso; omega)))
set_option maxRecDepth 20000 in
set_option maxHeartbeats 4000000 in
theorem m_share {K : q_K} {M C : q_S} {a : Nat} (hT : K a = (12, 0, 50)) (hW : WR M) {d m r h : Int} (hd : q_iI d) (hm : q_iI m) (hr : q_iI r) (hh : q_iI h)  : q_E mX11_share 0 [some (q_R a), some (q_I d), some (q_I m), some (q_I r), some (q_I h)] [] K M C 0 0 (e_is none K (shareF M d m r h) C) := by
  refine e_aload_n dX11_share_0 rfl ?_
  refine e_iload_n dX11_share_1 rfl ?_
  refine e_iconst dX11_share_2 ?_
  refine e_iconst dX11_share_3 ?_
  refine e_cS (as := [_, _, _]) dX11_share_4 k_X11_in l_X11_105 s_X11_in rfl rfl rfl rfl (Nat.le_of_ble_eq_true rfl) ⟨by decide, by decide⟩ (Nat.le_of_ble_eq_true rfl) (by decide) (m_in (by first | assumption | exact ⟨by decide, by decide⟩ | exact ⟨by omega, by omega⟩) (by first | assumption | exact ⟨by decide, by decide⟩ | exact ⟨by omega, by omega⟩) (by first | assumption | exact ⟨by decide, by decide⟩ | exact ⟨by omega, by omega⟩)) ?_
  refine e_if_eq (tgt := 17) dX11_share_7 (by decide) bi_iI (fun c_7 => ?_) (fun c_7 => ?_)
  · simp only [bi_z, Classical.not_not] at c_7
    refine e_iconst dX11_share_17 ?_
    refine e_goto (tgt := 47) dX11_share_18 (by decide) ?_
    refine m_putI (by decide) dX11_share_47 f_X11_101 rfl hT ⟨by omega, by omega⟩ ?_
    refine e_aload_n dX11_share_50 rfl ?_
    refine m_getI (by decide) dX11_share_51 f_X11_101 (Or.inl rfl) hT ?_
    simp only [q_us_ap, editsF_3, Int.reduceEq, Int.reduceNeg, false_and, and_false, and_self, if_true, if_false, true_and, and_true, ite_self]
    have g_51 := rs_41 hW
    refine e_if_ne (tgt := 85) dX11_share_54 (by decide) ⟨by decide, by decide⟩ (fun c_54 => ?_) (fun c_54 => ?_)
    · refine e_ret dX11_share_85 rfl ?_
      first
      | exact e_ok rfl rfl rfl
      | (unfold shareF; repeat' split
         all_goals first | exact e_ok rfl rfl rfl | (exfalso; omega) | (refine e_ok ?_ rfl rfl; unfold bi; repeat' split; all_goals first | rfl | (exfalso; omega)))
    · exact absurd c_54 (by decide)
  · simp only [bi_z, Classical.not_not] at c_7
    refine e_iload_n dX11_share_10 rfl ?_
    refine e_cS (as := [_]) dX11_share_11 k_X11_isMachine l_X11_135 s_X11_isMachine rfl rfl rfl rfl (Nat.le_of_ble_eq_true rfl) ⟨by decide, by decide⟩ (Nat.le_of_ble_eq_true rfl) (by decide) (m_isMachine (by assumption)) ?_
    refine e_if_ne (tgt := 21) dX11_share_14 (by decide) bi_iI (fun c_14 => ?_) (fun c_14 => ?_)
    · simp only [bi_z, Classical.not_not] at c_14
      refine e_iload_n dX11_share_21 rfl ?_
      refine e_iconst dX11_share_22 ?_
      refine e_iconst dX11_share_23 ?_
      refine e_cS (as := [_, _, _]) dX11_share_24 k_X11_in l_X11_105 s_X11_in rfl rfl rfl rfl (Nat.le_of_ble_eq_true rfl) ⟨by decide, by decide⟩ (Nat.le_of_ble_eq_true rfl) (by decide) (m_in (by first | assumption | exact ⟨by decide, by decide⟩ | exact ⟨by omega, by omega⟩) (by first | assumption | exact ⟨by decide, by decide⟩ | exact ⟨by omega, by omega⟩) (by first | assumption | exact ⟨by decide, by decide⟩ | exact ⟨by omega, by omega⟩)) ?_
      refine e_if_eq (tgt := 42) dX11_share_27 (by decide) bi_iI (fun c_27 => ?_) (fun c_27 => ?_)
      · simp only [bi_z, Classical.not_not] at c_27
        refine e_iconst dX11_share_42 ?_
        refine e_goto (tgt := 47) dX11_share_43 (by decide) ?_
        refine m_putI (by decide) dX11_share_47 f_X11_101 rfl hT ⟨by omega, by omega⟩ ?_
        refine e_aload_n dX11_share_50 rfl ?_
        refine m_getI (by decide) dX11_share_51 f_X11_101 (Or.inl rfl) hT ?_
        simp only [q_us_ap, editsF_3, Int.reduceEq, Int.reduceNeg, false_and, and_false, and_self, if_true, if_false, true_and, and_true, ite_self]
        have g_51 := rs_41 hW
        refine e_if_ne (tgt := 85) dX11_share_54 (by decide) ⟨by decide, by decide⟩ (fun c_54 => ?_) (fun c_54 => ?_)
        · refine e_ret dX11_share_85 rfl ?_
          first
          | exact e_ok rfl rfl rfl
          | (unfold shareF; repeat' split
             all_goals first | exact e_ok rfl rfl rfl | (exfalso; omega) | (refine e_ok ?_ rfl rfl; unfold bi; repeat' split; all_goals first | rfl | (exfalso; omega)))
        · exact absurd c_54 (by decide)
      · simp only [bi_z, Classical.not_not] at c_27
        refine e_iload dX11_share_30 rfl ?_
        refine e_iconst dX11_share_32 ?_
        refine e_sipush dX11_share_33 (by decide) ?_
        refine e_cS (as := [_, _, _]) dX11_share_36 k_X11_in l_X11_105 s_X11_in rfl rfl rfl rfl (Nat.le_of_ble_eq_true rfl) ⟨by decide, by decide⟩ (Nat.le_of_ble_eq_true rfl) (by decide) (m_in (by first | assumption | exact ⟨by decide, by decide⟩ | exact ⟨by omega, by omega⟩) (by first | assumption | exact ⟨by decide, by decide⟩ | exact ⟨by omega, by omega⟩) (by first | assumption | exact ⟨by decide, by decide⟩ | exact ⟨by omega, by omega⟩)) ?_
        refine e_if_ne (tgt := 46) dX11_share_39 (by decide) bi_iI (fun c_39 => ?_) (fun c_39 => ?_)
        · simp only [bi_z, Classical.not_not] at c_39
          refine e_iconst dX11_share_46 ?_
          refine m_putI (by decide) dX11_share_47 f_X11_101 rfl hT ⟨by omega, by omega⟩ ?_
          refine e_aload_n dX11_share_50 rfl ?_
          refine m_getI (by decide) dX11_share_51 f_X11_101 (Or.inl rfl) hT ?_
          simp only [q_us_ap, editsF_3, Int.reduceEq, Int.reduceNeg, false_and, and_false, and_self, if_true, if_false, true_and, and_true, ite_self]
          have g_51 := rs_41 hW
          refine e_if_ne (tgt := 85) dX11_share_54 (by decide) ⟨by decide, by decide⟩ (fun c_54 => ?_) (fun c_54 => ?_)
          · exact absurd c_54 (by decide)
          · refine e_aload_n dX11_share_57 rfl ?_
            refine m_getR (kt := (20, 12, 25)) (by decide) dX11_share_58 f_X11_68 hT rfl (Nat.succ_ne_zero _) (fun q_58 h_58 => ?_)
            refine e_iconst dX11_share_61 ?_
            refine e_iload_n dX11_share_62 rfl ?_
            refine e_imul dX11_share_63 ?_
            refine e_iload_n dX11_share_64 rfl ?_
            refine e_iadd dX11_share_65 ?_
            refine e_iload_n dX11_share_66 rfl ?_
            refine m_iast (by decide) dX11_share_67 h_58 (by omega) (by omega) ⟨by omega, by omega⟩ ?_
            refine e_aload_n dX11_share_68 rfl ?_
            refine m_getR (kt := (20, 12, 26)) (by decide) dX11_share_69 f_X11_71 hT rfl (Nat.succ_ne_zero _) (fun q_69 h_69 => ?_)
            refine e_iconst dX11_share_72 ?_
            refine e_iload_n dX11_share_73 rfl ?_
            refine e_imul dX11_share_74 ?_
            refine e_iload_n dX11_share_75 rfl ?_
            refine e_iadd dX11_share_76 ?_
            refine e_aload_n dX11_share_77 rfl ?_
            refine m_getI (by decide) dX11_share_78 f_X11_132 (Or.inl rfl) hT ?_
            simp only [q_us_ap, editsF_3, Int.reduceEq, Int.reduceNeg, false_and, and_false, and_self, if_true, if_false, true_and, and_true, ite_self]
            have g_78 := rs_1 hW
            refine e_iload dX11_share_81 rfl ?_
            refine e_iadd dX11_share_83 ?_
            refine m_iast (by decide) dX11_share_84 h_69 (by omega) (by omega) ⟨by omega, by omega⟩ ?_
            refine e_ret dX11_share_85 rfl ?_
            first
            | exact e_ok rfl rfl rfl
            | (unfold shareF; repeat' split
               all_goals first | exact e_ok rfl rfl rfl | (exfalso; omega) | (refine e_ok ?_ rfl rfl; unfold bi; repeat' split; all_goals first | rfl | (exfalso; omega)))
        · simp only [bi_z, Classical.not_not] at c_39
          refine e_iconst dX11_share_42 ?_
          refine e_goto (tgt := 47) dX11_share_43 (by decide) ?_
          refine m_putI (by decide) dX11_share_47 f_X11_101 rfl hT ⟨by omega, by omega⟩ ?_
          refine e_aload_n dX11_share_50 rfl ?_
          refine m_getI (by decide) dX11_share_51 f_X11_101 (Or.inl rfl) hT ?_
          simp only [q_us_ap, editsF_3, Int.reduceEq, Int.reduceNeg, false_and, and_false, and_self, if_true, if_false, true_and, and_true, ite_self]
          have g_51 := rs_41 hW
          refine e_if_ne (tgt := 85) dX11_share_54 (by decide) ⟨by decide, by decide⟩ (fun c_54 => ?_) (fun c_54 => ?_)
          · refine e_ret dX11_share_85 rfl ?_
            first
            | exact e_ok rfl rfl rfl
            | (unfold shareF; repeat' split
               all_goals first | exact e_ok rfl rfl rfl | (exfalso; omega) | (refine e_ok ?_ rfl rfl; unfold bi; repeat' split; all_goals first | rfl | (exfalso; omega)))
          · exact absurd c_54 (by decide)
    · simp only [bi_z, Classical.not_not] at c_14
      refine e_iconst dX11_share_17 ?_
      refine e_goto (tgt := 47) dX11_share_18 (by decide) ?_
      refine m_putI (by decide) dX11_share_47 f_X11_101 rfl hT ⟨by omega, by omega⟩ ?_
      refine e_aload_n dX11_share_50 rfl ?_
      refine m_getI (by decide) dX11_share_51 f_X11_101 (Or.inl rfl) hT ?_
      simp only [q_us_ap, editsF_3, Int.reduceEq, Int.reduceNeg, false_and, and_false, and_self, if_true, if_false, true_and, and_true, ite_self]
      have g_51 := rs_41 hW
      refine e_if_ne (tgt := 85) dX11_share_54 (by decide) ⟨by decide, by decide⟩ (fun c_54 => ?_) (fun c_54 => ?_)
      · refine e_ret dX11_share_85 rfl ?_
        first
        | exact e_ok rfl rfl rfl
        | (unfold shareF; repeat' split
           all_goals first | exact e_ok rfl rfl rfl | (exfalso; omega) | (refine e_ok ?_ rfl rfl; unfold bi; repeat' split; all_goals first | rfl | (exfalso; omega)))
      · exact absurd c_54 (by decide)
set_option maxRecDepth 20000 in
set_option maxHeartbeats 4000000 in
theorem m_hold {K : q_K} {M C : q_S} {a : Nat} (hT : K a = (12, 0, 50)) (hW : WR M) {f x y : Int} (hf : q_iI f) (hx : q_iI x) (hy : q_iI y)  : q_E mX11_hold 0 [some (q_R a), some (q_I f), some (q_I x), some (q_I y)] [] K M C 0 0 (e_is (some (q_I (holdF M f x y).1)) K (holdF M f x y).2 C) := by
  refine e_aload_n dX11_hold_0 rfl ?_
  refine e_iload_n dX11_hold_1 rfl ?_
  refine e_cS (as := [_]) dX11_hold_2 k_X11_isFile l_X11_139 s_X11_isFile rfl rfl rfl rfl (Nat.le_of_ble_eq_true rfl) ⟨by decide, by decide⟩ (Nat.le_of_ble_eq_true rfl) (by decide) (m_isFile (by assumption)) ?_
  refine e_if_ne (tgt := 12) dX11_hold_5 (by decide) bi_iI (fun c_5 => ?_) (fun c_5 => ?_)
  · simp only [bi_z, Classical.not_not] at c_5
    refine e_iload_n dX11_hold_12 rfl ?_
    refine e_iconst dX11_hold_13 ?_
    refine e_sipush dX11_hold_14 (by decide) ?_
    refine e_cS (as := [_, _, _]) dX11_hold_17 k_X11_in l_X11_105 s_X11_in rfl rfl rfl rfl (Nat.le_of_ble_eq_true rfl) ⟨by decide, by decide⟩ (Nat.le_of_ble_eq_true rfl) (by decide) (m_in (by first | assumption | exact ⟨by decide, by decide⟩ | exact ⟨by omega, by omega⟩) (by first | assumption | exact ⟨by decide, by decide⟩ | exact ⟨by omega, by omega⟩) (by first | assumption | exact ⟨by decide, by decide⟩ | exact ⟨by omega, by omega⟩)) ?_
    refine e_if_eq (tgt := 34) dX11_hold_20 (by decide) bi_iI (fun c_20 => ?_) (fun c_20 => ?_)
    · simp only [bi_z, Classical.not_not] at c_20
      refine e_iconst dX11_hold_34 ?_
      refine e_goto (tgt := 52) dX11_hold_35 (by decide) ?_
      refine m_putI (by decide) dX11_hold_52 f_X11_101 rfl hT ⟨by omega, by omega⟩ ?_
      refine e_aload_n dX11_hold_55 rfl ?_
      refine m_getI (by decide) dX11_hold_56 f_X11_101 (Or.inl rfl) hT ?_
      simp only [q_us_ap, editsF_3, Int.reduceEq, Int.reduceNeg, false_and, and_false, and_self, if_true, if_false, true_and, and_true, ite_self]
      have g_56 := rs_41 hW
      refine e_if_le (tgt := 64) dX11_hold_59 (by decide) ⟨by decide, by decide⟩ (fun c_59 => ?_) (fun c_59 => ?_)
      · exact absurd c_59 (by decide)
      · refine e_iconst dX11_hold_62 ?_
        refine e_iret dX11_hold_63 (Or.inl rfl) ?_
        first
        | exact e_ok rfl rfl rfl
        | (unfold holdF; repeat' split
           all_goals first | exact e_ok rfl rfl rfl | (exfalso; omega) | (refine e_ok ?_ rfl rfl; unfold bi; repeat' split; all_goals first | rfl | (exfalso; omega)))
    · simp only [bi_z, Classical.not_not] at c_20
      refine e_iload_n dX11_hold_23 rfl ?_
      refine e_iload_n dX11_hold_24 rfl ?_
      refine e_sipush dX11_hold_25 (by decide) ?_
      refine e_cS (as := [_, _, _]) dX11_hold_28 k_X11_in l_X11_105 s_X11_in rfl rfl rfl rfl (Nat.le_of_ble_eq_true rfl) ⟨by decide, by decide⟩ (Nat.le_of_ble_eq_true rfl) (by decide) (m_in (by first | assumption | exact ⟨by decide, by decide⟩ | exact ⟨by omega, by omega⟩) (by first | assumption | exact ⟨by decide, by decide⟩ | exact ⟨by omega, by omega⟩) (by first | assumption | exact ⟨by decide, by decide⟩ | exact ⟨by omega, by omega⟩)) ?_
      refine e_if_ne (tgt := 38) dX11_hold_31 (by decide) bi_iI (fun c_31 => ?_) (fun c_31 => ?_)
      · simp only [bi_z, Classical.not_not] at c_31
        refine e_aload_n dX11_hold_38 rfl ?_
        refine m_getI (by decide) dX11_hold_39 f_X11_236 (Or.inl rfl) hT ?_
        have g_39 := rs_27 hW
        refine e_bipush dX11_hold_42 (by decide) ?_
        refine e_icmp_ne (tgt := 51) dX11_hold_44 (by decide) ⟨by omega, by omega⟩ ⟨by omega, by omega⟩ (fun c_44 => ?_) (fun c_44 => ?_)
        · refine e_iconst dX11_hold_51 ?_
          refine m_putI (by decide) dX11_hold_52 f_X11_101 rfl hT ⟨by omega, by omega⟩ ?_
          refine e_aload_n dX11_hold_55 rfl ?_
          refine m_getI (by decide) dX11_hold_56 f_X11_101 (Or.inl rfl) hT ?_
          simp only [q_us_ap, editsF_3, Int.reduceEq, Int.reduceNeg, false_and, and_false, and_self, if_true, if_false, true_and, and_true, ite_self]
          have g_56 := rs_41 hW
          refine e_if_le (tgt := 64) dX11_hold_59 (by decide) ⟨by decide, by decide⟩ (fun c_59 => ?_) (fun c_59 => ?_)
          · refine e_aload_n dX11_hold_64 rfl ?_
            refine m_getR (kt := (20, 10, 28)) (by decide) dX11_hold_65 f_X11_74 hT rfl (Nat.succ_ne_zero _) (fun q_65 h_65 => ?_)
            refine e_aload_n dX11_hold_68 rfl ?_
            refine m_getI (by decide) dX11_hold_69 f_X11_236 (Or.inl rfl) hT ?_
            simp only [q_us_ap, editsF_3, Int.reduceEq, Int.reduceNeg, false_and, and_false, and_self, if_true, if_false, true_and, and_true, ite_self]
            have g_69 := rs_27 hW
            refine e_iload_n dX11_hold_72 rfl ?_
            refine m_iast (by decide) dX11_hold_73 h_65 (by omega) (by omega) ⟨by omega, by omega⟩ ?_
            refine e_aload_n dX11_hold_74 rfl ?_
            refine m_getR (kt := (20, 10, 29)) (by decide) dX11_hold_75 f_X11_77 hT rfl (Nat.succ_ne_zero _) (fun q_75 h_75 => ?_)
            refine e_aload_n dX11_hold_78 rfl ?_
            refine m_getI (by decide) dX11_hold_79 f_X11_236 (Or.inl rfl) hT ?_
            simp only [q_us_ap, editsF_3, Int.reduceEq, Int.reduceNeg, false_and, and_false, and_self, if_true, if_false, true_and, and_true, ite_self]
            have g_79 := rs_27 hW
            refine e_iload_n dX11_hold_82 rfl ?_
            refine m_iast (by decide) dX11_hold_83 h_75 (by omega) (by omega) ⟨by omega, by omega⟩ ?_
            refine e_aload_n dX11_hold_84 rfl ?_
            refine m_getR (kt := (20, 10, 30)) (by decide) dX11_hold_85 f_X11_80 hT rfl (Nat.succ_ne_zero _) (fun q_85 h_85 => ?_)
            refine e_aload_n dX11_hold_88 rfl ?_
            refine m_getI (by decide) dX11_hold_89 f_X11_236 (Or.inl rfl) hT ?_
            simp only [q_us_ap, editsF_3, Int.reduceEq, Int.reduceNeg, false_and, and_false, and_self, if_true, if_false, true_and, and_true, ite_self]
            have g_89 := rs_27 hW
            refine e_iload_n dX11_hold_92 rfl ?_
            refine m_iast (by decide) dX11_hold_93 h_85 (by omega) (by omega) ⟨by omega, by omega⟩ ?_
            refine e_aload_n dX11_hold_94 rfl ?_
            refine e_dup dX11_hold_95 rfl ?_
            refine m_getI (by decide) dX11_hold_96 f_X11_236 (Or.inl rfl) hT ?_
            simp only [q_us_ap, editsF_3, Int.reduceEq, Int.reduceNeg, false_and, and_false, and_self, if_true, if_false, true_and, and_true, ite_self]
            have g_96 := rs_27 hW
            refine e_iconst dX11_hold_99 ?_
            refine e_iadd dX11_hold_100 ?_
            refine m_putI (by decide) dX11_hold_101 f_X11_236 rfl hT ⟨by omega, by omega⟩ ?_
            refine e_aload_n dX11_hold_104 rfl ?_
            refine m_getI (by decide) dX11_hold_105 f_X11_236 (Or.inl rfl) hT ?_
            simp only [q_us_ap, editsF_3, Int.reduceEq, Int.reduceNeg, false_and, and_false, and_self, if_true, if_false, true_and, and_true, ite_self]
            have g_105 := rs_27 hW
            refine e_iret dX11_hold_108 (Or.inl rfl) ?_
            first
            | exact e_ok rfl rfl rfl
            | (unfold holdF; repeat' split
               all_goals first | exact e_ok rfl rfl rfl | (exfalso; omega) | (refine e_ok ?_ rfl rfl; unfold bi; repeat' split; all_goals first | rfl | (exfalso; omega)))
          · exact absurd c_59 (by decide)
        · refine e_iconst dX11_hold_47 ?_
          refine e_goto (tgt := 52) dX11_hold_48 (by decide) ?_
          refine m_putI (by decide) dX11_hold_52 f_X11_101 rfl hT ⟨by omega, by omega⟩ ?_
          refine e_aload_n dX11_hold_55 rfl ?_
          refine m_getI (by decide) dX11_hold_56 f_X11_101 (Or.inl rfl) hT ?_
          simp only [q_us_ap, editsF_3, Int.reduceEq, Int.reduceNeg, false_and, and_false, and_self, if_true, if_false, true_and, and_true, ite_self]
          have g_56 := rs_41 hW
          refine e_if_le (tgt := 64) dX11_hold_59 (by decide) ⟨by decide, by decide⟩ (fun c_59 => ?_) (fun c_59 => ?_)
          · exact absurd c_59 (by decide)
          · refine e_iconst dX11_hold_62 ?_
            refine e_iret dX11_hold_63 (Or.inl rfl) ?_
            first
            | exact e_ok rfl rfl rfl
            | (unfold holdF; repeat' split
               all_goals first | exact e_ok rfl rfl rfl | (exfalso; omega) | (refine e_ok ?_ rfl rfl; unfold bi; repeat' split; all_goals first | rfl | (exfalso; omega)))
      · simp only [bi_z, Classical.not_not] at c_31
        refine e_iconst dX11_hold_34 ?_
        refine e_goto (tgt := 52) dX11_hold_35 (by decide) ?_
        refine m_putI (by decide) dX11_hold_52 f_X11_101 rfl hT ⟨by omega, by omega⟩ ?_
        refine e_aload_n dX11_hold_55 rfl ?_
        refine m_getI (by decide) dX11_hold_56 f_X11_101 (Or.inl rfl) hT ?_
        simp only [q_us_ap, editsF_3, Int.reduceEq, Int.reduceNeg, false_and, and_false, and_self, if_true, if_false, true_and, and_true, ite_self]
        have g_56 := rs_41 hW
        refine e_if_le (tgt := 64) dX11_hold_59 (by decide) ⟨by decide, by decide⟩ (fun c_59 => ?_) (fun c_59 => ?_)
        · exact absurd c_59 (by decide)
        · refine e_iconst dX11_hold_62 ?_
          refine e_iret dX11_hold_63 (Or.inl rfl) ?_
          first
          | exact e_ok rfl rfl rfl
          | (unfold holdF; repeat' split
             all_goals first | exact e_ok rfl rfl rfl | (exfalso; omega) | (refine e_ok ?_ rfl rfl; unfold bi; repeat' split; all_goals first | rfl | (exfalso; omega)))
  · simp only [bi_z, Classical.not_not] at c_5
    refine e_iconst dX11_hold_8 ?_
    refine e_goto (tgt := 52) dX11_hold_9 (by decide) ?_
    refine m_putI (by decide) dX11_hold_52 f_X11_101 rfl hT ⟨by omega, by omega⟩ ?_
    refine e_aload_n dX11_hold_55 rfl ?_
    refine m_getI (by decide) dX11_hold_56 f_X11_101 (Or.inl rfl) hT ?_
    simp only [q_us_ap, editsF_3, Int.reduceEq, Int.reduceNeg, false_and, and_false, and_self, if_true, if_false, true_and, and_true, ite_self]
    have g_56 := rs_41 hW
    refine e_if_le (tgt := 64) dX11_hold_59 (by decide) ⟨by decide, by decide⟩ (fun c_59 => ?_) (fun c_59 => ?_)
    · exact absurd c_59 (by decide)
    · refine e_iconst dX11_hold_62 ?_
      refine e_iret dX11_hold_63 (Or.inl rfl) ?_
      first
      | exact e_ok rfl rfl rfl
      | (unfold holdF; repeat' split
         all_goals first | exact e_ok rfl rfl rfl | (exfalso; omega) | (refine e_ok ?_ rfl rfl; unfold bi; repeat' split; all_goals first | rfl | (exfalso; omega)))
set_option maxRecDepth 20000 in
set_option maxHeartbeats 4000000 in
theorem m_pin {K : q_K} {M C : q_S} {a : Nat} (hT : K a = (12, 0, 50)) (hW : WR M) {m f b : Int} (hm : q_iI m) (hf : q_iI f) (hb : q_iI b) (hb2 : b = 0 ∨ b = 1) : q_E mX11_pin 0 [some (q_R a), some (q_I m), some (q_I f), some (q_I b), none] [] K M C 0 0 (e_is (some (q_I (pinF M m f b).1)) K (pinF M m f b).2 C) := by
  rcases hb2 with rfl | rfl
  · refine e_aload_n dX11_pin_0 rfl ?_
    refine e_iload_n dX11_pin_1 rfl ?_
    refine e_cS (as := [_]) dX11_pin_2 k_X11_isMachine l_X11_135 s_X11_isMachine rfl rfl rfl rfl (Nat.le_of_ble_eq_true rfl) ⟨by decide, by decide⟩ (Nat.le_of_ble_eq_true rfl) (by decide) (m_isMachine (by assumption)) ?_
    refine e_if_eq (tgt := 19) dX11_pin_5 (by decide) bi_iI (fun c_5 => ?_) (fun c_5 => ?_)
    · simp only [bi_z, Classical.not_not] at c_5
      refine e_iconst dX11_pin_19 ?_
      refine m_putI (by decide) dX11_pin_20 f_X11_101 rfl hT ⟨by omega, by omega⟩ ?_
      refine e_aload_n dX11_pin_23 rfl ?_
      refine m_getI (by decide) dX11_pin_24 f_X11_101 (Or.inl rfl) hT ?_
      simp only [q_us_ap, editsF_3, Int.reduceEq, Int.reduceNeg, false_and, and_false, and_self, if_true, if_false, true_and, and_true, ite_self]
      have g_24 := rs_41 hW
      refine e_if_le (tgt := 32) dX11_pin_27 (by decide) ⟨by decide, by decide⟩ (fun c_27 => ?_) (fun c_27 => ?_)
      · exact absurd c_27 (by decide)
      · refine e_iconst dX11_pin_30 ?_
        refine e_iret dX11_pin_31 (Or.inr ⟨rfl, by omega⟩) ?_
        first
        | exact e_ok rfl rfl rfl
        | (unfold pinF; repeat' split
           all_goals first | exact e_ok rfl rfl rfl | (exfalso; omega) | (refine e_ok ?_ rfl rfl; unfold bi; repeat' split; all_goals first | rfl | (exfalso; omega)))
    · simp only [bi_z, Classical.not_not] at c_5
      refine e_iload_n dX11_pin_8 rfl ?_
      refine e_cS (as := [_]) dX11_pin_9 k_X11_isFile l_X11_139 s_X11_isFile rfl rfl rfl rfl (Nat.le_of_ble_eq_true rfl) ⟨by decide, by decide⟩ (Nat.le_of_ble_eq_true rfl) (by decide) (m_isFile (by assumption)) ?_
      refine e_if_eq (tgt := 19) dX11_pin_12 (by decide) bi_iI (fun c_12 => ?_) (fun c_12 => ?_)
      · simp only [bi_z, Classical.not_not] at c_12
        refine e_iconst dX11_pin_19 ?_
        refine m_putI (by decide) dX11_pin_20 f_X11_101 rfl hT ⟨by omega, by omega⟩ ?_
        refine e_aload_n dX11_pin_23 rfl ?_
        refine m_getI (by decide) dX11_pin_24 f_X11_101 (Or.inl rfl) hT ?_
        simp only [q_us_ap, editsF_3, Int.reduceEq, Int.reduceNeg, false_and, and_false, and_self, if_true, if_false, true_and, and_true, ite_self]
        have g_24 := rs_41 hW
        refine e_if_le (tgt := 32) dX11_pin_27 (by decide) ⟨by decide, by decide⟩ (fun c_27 => ?_) (fun c_27 => ?_)
        · exact absurd c_27 (by decide)
        · refine e_iconst dX11_pin_30 ?_
          refine e_iret dX11_pin_31 (Or.inr ⟨rfl, by omega⟩) ?_
          first
          | exact e_ok rfl rfl rfl
          | (unfold pinF; repeat' split
             all_goals first | exact e_ok rfl rfl rfl | (exfalso; omega) | (refine e_ok ?_ rfl rfl; unfold bi; repeat' split; all_goals first | rfl | (exfalso; omega)))
      · simp only [bi_z, Classical.not_not] at c_12
        refine e_iconst dX11_pin_15 ?_
        refine e_goto (tgt := 20) dX11_pin_16 (by decide) ?_
        refine m_putI (by decide) dX11_pin_20 f_X11_101 rfl hT ⟨by omega, by omega⟩ ?_
        refine e_aload_n dX11_pin_23 rfl ?_
        refine m_getI (by decide) dX11_pin_24 f_X11_101 (Or.inl rfl) hT ?_
        simp only [q_us_ap, editsF_3, Int.reduceEq, Int.reduceNeg, false_and, and_false, and_self, if_true, if_false, true_and, and_true, ite_self]
        have g_24 := rs_41 hW
        refine e_if_le (tgt := 32) dX11_pin_27 (by decide) ⟨by decide, by decide⟩ (fun c_27 => ?_) (fun c_27 => ?_)
        · refine e_aload_n dX11_pin_32 rfl ?_
          refine m_getR (kt := (20, 48, 6)) (by decide) dX11_pin_33 f_X11_23 hT rfl (Nat.succ_ne_zero _) (fun q_33 h_33 => ?_)
          refine e_bipush dX11_pin_36 (by decide) ?_
          refine e_iload_n dX11_pin_38 rfl ?_
          refine e_imul dX11_pin_39 ?_
          refine e_iload_n dX11_pin_40 rfl ?_
          refine e_iadd dX11_pin_41 ?_
          refine m_iald (by decide) dX11_pin_42 h_33 (by omega) (by omega) ?_
          simp only [q_us_ap, editsF_3, Int.reduceEq, Int.reduceNeg, false_and, and_false, and_self, if_true, if_false, true_and, and_true, ite_self]
          have g_42 := rg_6 hW ((16 * m) + f) (by omega) (by omega)
          refine e_iconst dX11_pin_43 ?_
          refine e_icmp_ne (tgt := 51) dX11_pin_44 (by decide) ⟨by omega, by omega⟩ ⟨by omega, by omega⟩ (fun c_44 => ?_) (fun c_44 => ?_)
          · refine e_iconst dX11_pin_51 ?_
            refine e_istore (ls2 := [_, _, _, _, _]) dX11_pin_52 (Nat.le_of_ble_eq_true rfl) rfl ?_
            refine e_aload_n dX11_pin_54 rfl ?_
            refine m_getR (kt := (20, 48, 6)) (by decide) dX11_pin_55 f_X11_23 hT rfl (Nat.succ_ne_zero _) (fun q_55 h_55 => ?_)
            refine e_bipush dX11_pin_58 (by decide) ?_
            refine e_iload_n dX11_pin_60 rfl ?_
            refine e_imul dX11_pin_61 ?_
            refine e_iload_n dX11_pin_62 rfl ?_
            refine e_iadd dX11_pin_63 ?_
            refine e_iload_n dX11_pin_64 rfl ?_
            refine e_if_eq (tgt := 72) dX11_pin_65 (by decide) ⟨by decide, by decide⟩ (fun c_65 => ?_) (fun c_65 => ?_)
            · refine e_iconst dX11_pin_72 ?_
              refine m_iast (by decide) dX11_pin_73 h_55 (by omega) (by omega) ⟨by omega, by omega⟩ ?_
              refine e_iload dX11_pin_74 rfl ?_
              refine e_iret dX11_pin_76 (Or.inr ⟨rfl, by omega⟩) ?_
              first
              | exact e_ok rfl rfl rfl
              | (unfold pinF; repeat' split
                 all_goals first | exact e_ok rfl rfl rfl | (exfalso; omega) | (refine e_ok ?_ rfl rfl; unfold bi; repeat' split; all_goals first | rfl | (exfalso; omega)))
            · exact absurd c_65 (by decide)
          · refine e_iconst dX11_pin_47 ?_
            refine e_goto (tgt := 52) dX11_pin_48 (by decide) ?_
            refine e_istore (ls2 := [_, _, _, _, _]) dX11_pin_52 (Nat.le_of_ble_eq_true rfl) rfl ?_
            refine e_aload_n dX11_pin_54 rfl ?_
            refine m_getR (kt := (20, 48, 6)) (by decide) dX11_pin_55 f_X11_23 hT rfl (Nat.succ_ne_zero _) (fun q_55 h_55 => ?_)
            refine e_bipush dX11_pin_58 (by decide) ?_
            refine e_iload_n dX11_pin_60 rfl ?_
            refine e_imul dX11_pin_61 ?_
            refine e_iload_n dX11_pin_62 rfl ?_
            refine e_iadd dX11_pin_63 ?_
            refine e_iload_n dX11_pin_64 rfl ?_
            refine e_if_eq (tgt := 72) dX11_pin_65 (by decide) ⟨by decide, by decide⟩ (fun c_65 => ?_) (fun c_65 => ?_)
            · refine e_iconst dX11_pin_72 ?_
              refine m_iast (by decide) dX11_pin_73 h_55 (by omega) (by omega) ⟨by omega, by omega⟩ ?_
              refine e_iload dX11_pin_74 rfl ?_
              refine e_iret dX11_pin_76 (Or.inr ⟨rfl, by omega⟩) ?_
              first
              | exact e_ok rfl rfl rfl
              | (unfold pinF; repeat' split
                 all_goals first | exact e_ok rfl rfl rfl | (exfalso; omega) | (refine e_ok ?_ rfl rfl; unfold bi; repeat' split; all_goals first | rfl | (exfalso; omega)))
            · exact absurd c_65 (by decide)
        · exact absurd c_27 (by decide)
  · refine e_aload_n dX11_pin_0 rfl ?_
    refine e_iload_n dX11_pin_1 rfl ?_
    refine e_cS (as := [_]) dX11_pin_2 k_X11_isMachine l_X11_135 s_X11_isMachine rfl rfl rfl rfl (Nat.le_of_ble_eq_true rfl) ⟨by decide, by decide⟩ (Nat.le_of_ble_eq_true rfl) (by decide) (m_isMachine (by assumption)) ?_
    refine e_if_eq (tgt := 19) dX11_pin_5 (by decide) bi_iI (fun c_5 => ?_) (fun c_5 => ?_)
    · simp only [bi_z, Classical.not_not] at c_5
      refine e_iconst dX11_pin_19 ?_
      refine m_putI (by decide) dX11_pin_20 f_X11_101 rfl hT ⟨by omega, by omega⟩ ?_
      refine e_aload_n dX11_pin_23 rfl ?_
      refine m_getI (by decide) dX11_pin_24 f_X11_101 (Or.inl rfl) hT ?_
      simp only [q_us_ap, editsF_3, Int.reduceEq, Int.reduceNeg, false_and, and_false, and_self, if_true, if_false, true_and, and_true, ite_self]
      have g_24 := rs_41 hW
      refine e_if_le (tgt := 32) dX11_pin_27 (by decide) ⟨by decide, by decide⟩ (fun c_27 => ?_) (fun c_27 => ?_)
      · exact absurd c_27 (by decide)
      · refine e_iconst dX11_pin_30 ?_
        refine e_iret dX11_pin_31 (Or.inr ⟨rfl, by omega⟩) ?_
        first
        | exact e_ok rfl rfl rfl
        | (unfold pinF; repeat' split
           all_goals first | exact e_ok rfl rfl rfl | (exfalso; omega) | (refine e_ok ?_ rfl rfl; unfold bi; repeat' split; all_goals first | rfl | (exfalso; omega)))
    · simp only [bi_z, Classical.not_not] at c_5
      refine e_iload_n dX11_pin_8 rfl ?_
      refine e_cS (as := [_]) dX11_pin_9 k_X11_isFile l_X11_139 s_X11_isFile rfl rfl rfl rfl (Nat.le_of_ble_eq_true rfl) ⟨by decide, by decide⟩ (Nat.le_of_ble_eq_true rfl) (by decide) (m_isFile (by assumption)) ?_
      refine e_if_eq (tgt := 19) dX11_pin_12 (by decide) bi_iI (fun c_12 => ?_) (fun c_12 => ?_)
      · simp only [bi_z, Classical.not_not] at c_12
        refine e_iconst dX11_pin_19 ?_
        refine m_putI (by decide) dX11_pin_20 f_X11_101 rfl hT ⟨by omega, by omega⟩ ?_
        refine e_aload_n dX11_pin_23 rfl ?_
        refine m_getI (by decide) dX11_pin_24 f_X11_101 (Or.inl rfl) hT ?_
        simp only [q_us_ap, editsF_3, Int.reduceEq, Int.reduceNeg, false_and, and_false, and_self, if_true, if_false, true_and, and_true, ite_self]
        have g_24 := rs_41 hW
        refine e_if_le (tgt := 32) dX11_pin_27 (by decide) ⟨by decide, by decide⟩ (fun c_27 => ?_) (fun c_27 => ?_)
        · exact absurd c_27 (by decide)
        · refine e_iconst dX11_pin_30 ?_
          refine e_iret dX11_pin_31 (Or.inr ⟨rfl, by omega⟩) ?_
          first
          | exact e_ok rfl rfl rfl
          | (unfold pinF; repeat' split
             all_goals first | exact e_ok rfl rfl rfl | (exfalso; omega) | (refine e_ok ?_ rfl rfl; unfold bi; repeat' split; all_goals first | rfl | (exfalso; omega)))
      · simp only [bi_z, Classical.not_not] at c_12
        refine e_iconst dX11_pin_15 ?_
        refine e_goto (tgt := 20) dX11_pin_16 (by decide) ?_
        refine m_putI (by decide) dX11_pin_20 f_X11_101 rfl hT ⟨by omega, by omega⟩ ?_
        refine e_aload_n dX11_pin_23 rfl ?_
        refine m_getI (by decide) dX11_pin_24 f_X11_101 (Or.inl rfl) hT ?_
        simp only [q_us_ap, editsF_3, Int.reduceEq, Int.reduceNeg, false_and, and_false, and_self, if_true, if_false, true_and, and_true, ite_self]
        have g_24 := rs_41 hW
        refine e_if_le (tgt := 32) dX11_pin_27 (by decide) ⟨by decide, by decide⟩ (fun c_27 => ?_) (fun c_27 => ?_)
        · refine e_aload_n dX11_pin_32 rfl ?_
          refine m_getR (kt := (20, 48, 6)) (by decide) dX11_pin_33 f_X11_23 hT rfl (Nat.succ_ne_zero _) (fun q_33 h_33 => ?_)
          refine e_bipush dX11_pin_36 (by decide) ?_
          refine e_iload_n dX11_pin_38 rfl ?_
          refine e_imul dX11_pin_39 ?_
          refine e_iload_n dX11_pin_40 rfl ?_
          refine e_iadd dX11_pin_41 ?_
          refine m_iald (by decide) dX11_pin_42 h_33 (by omega) (by omega) ?_
          simp only [q_us_ap, editsF_3, Int.reduceEq, Int.reduceNeg, false_and, and_false, and_self, if_true, if_false, true_and, and_true, ite_self]
          have g_42 := rg_6 hW ((16 * m) + f) (by omega) (by omega)
          refine e_iconst dX11_pin_43 ?_
          refine e_icmp_ne (tgt := 51) dX11_pin_44 (by decide) ⟨by omega, by omega⟩ ⟨by omega, by omega⟩ (fun c_44 => ?_) (fun c_44 => ?_)
          · refine e_iconst dX11_pin_51 ?_
            refine e_istore (ls2 := [_, _, _, _, _]) dX11_pin_52 (Nat.le_of_ble_eq_true rfl) rfl ?_
            refine e_aload_n dX11_pin_54 rfl ?_
            refine m_getR (kt := (20, 48, 6)) (by decide) dX11_pin_55 f_X11_23 hT rfl (Nat.succ_ne_zero _) (fun q_55 h_55 => ?_)
            refine e_bipush dX11_pin_58 (by decide) ?_
            refine e_iload_n dX11_pin_60 rfl ?_
            refine e_imul dX11_pin_61 ?_
            refine e_iload_n dX11_pin_62 rfl ?_
            refine e_iadd dX11_pin_63 ?_
            refine e_iload_n dX11_pin_64 rfl ?_
            refine e_if_eq (tgt := 72) dX11_pin_65 (by decide) ⟨by decide, by decide⟩ (fun c_65 => ?_) (fun c_65 => ?_)
            · exact absurd c_65 (by decide)
            · refine e_iconst dX11_pin_68 ?_
              refine e_goto (tgt := 73) dX11_pin_69 (by decide) ?_
              refine m_iast (by decide) dX11_pin_73 h_55 (by omega) (by omega) ⟨by omega, by omega⟩ ?_
              refine e_iload dX11_pin_74 rfl ?_
              refine e_iret dX11_pin_76 (Or.inr ⟨rfl, by omega⟩) ?_
              first
              | exact e_ok rfl rfl rfl
              | (unfold pinF; repeat' split
                 all_goals first | exact e_ok rfl rfl rfl | (exfalso; omega) | (refine e_ok ?_ rfl rfl; unfold bi; repeat' split; all_goals first | rfl | (exfalso; omega)))
          · refine e_iconst dX11_pin_47 ?_
            refine e_goto (tgt := 52) dX11_pin_48 (by decide) ?_
            refine e_istore (ls2 := [_, _, _, _, _]) dX11_pin_52 (Nat.le_of_ble_eq_true rfl) rfl ?_
            refine e_aload_n dX11_pin_54 rfl ?_
            refine m_getR (kt := (20, 48, 6)) (by decide) dX11_pin_55 f_X11_23 hT rfl (Nat.succ_ne_zero _) (fun q_55 h_55 => ?_)
            refine e_bipush dX11_pin_58 (by decide) ?_
            refine e_iload_n dX11_pin_60 rfl ?_
            refine e_imul dX11_pin_61 ?_
            refine e_iload_n dX11_pin_62 rfl ?_
            refine e_iadd dX11_pin_63 ?_
            refine e_iload_n dX11_pin_64 rfl ?_
            refine e_if_eq (tgt := 72) dX11_pin_65 (by decide) ⟨by decide, by decide⟩ (fun c_65 => ?_) (fun c_65 => ?_)
            · exact absurd c_65 (by decide)
            · refine e_iconst dX11_pin_68 ?_
              refine e_goto (tgt := 73) dX11_pin_69 (by decide) ?_
              refine m_iast (by decide) dX11_pin_73 h_55 (by omega) (by omega) ⟨by omega, by omega⟩ ?_
              refine e_iload dX11_pin_74 rfl ?_
              refine e_iret dX11_pin_76 (Or.inr ⟨rfl, by omega⟩) ?_
              first
              | exact e_ok rfl rfl rfl
              | (unfold pinF; repeat' split
                 all_goals first | exact e_ok rfl rfl rfl | (exfalso; omega) | (refine e_ok ?_ rfl rfl; unfold bi; repeat' split; all_goals first | rfl | (exfalso; omega)))
        · exact absurd c_27 (by decide)
set_option maxRecDepth 20000 in
set_option maxHeartbeats 4000000 in
theorem m_draft {K : q_K} {M C : q_S} {a : Nat} (hT : K a = (12, 0, 50)) (hW : WR M) {n : Int} (hn : q_iI n)  : q_E mX11_draft 0 [some (q_R a), some (q_I n)] [] K M C 0 0 (e_is (some (q_I (draftF M n).1)) K (draftF M n).2 C) := by
  refine e_aload_n dX11_draft_0 rfl ?_
  refine e_iload_n dX11_draft_1 rfl ?_
  refine e_iconst dX11_draft_2 ?_
  refine e_bipush dX11_draft_3 (by decide) ?_
  refine e_cS (as := [_, _, _]) dX11_draft_5 k_X11_in l_X11_105 s_X11_in rfl rfl rfl rfl (Nat.le_of_ble_eq_true rfl) ⟨by decide, by decide⟩ (Nat.le_of_ble_eq_true rfl) (by decide) (m_in (by first | assumption | exact ⟨by decide, by decide⟩ | exact ⟨by omega, by omega⟩) (by first | assumption | exact ⟨by decide, by decide⟩ | exact ⟨by omega, by omega⟩) (by first | assumption | exact ⟨by decide, by decide⟩ | exact ⟨by omega, by omega⟩)) ?_
  refine e_if_ne (tgt := 15) dX11_draft_8 (by decide) bi_iI (fun c_8 => ?_) (fun c_8 => ?_)
  · simp only [bi_z, Classical.not_not] at c_8
    refine e_aload_n dX11_draft_15 rfl ?_
    refine m_getL (by decide) dX11_draft_16 f_X11_119 hT ?_
    have g_16 := rs_0 hW
    refine e_cS (as := [_]) dX11_draft_19 k_X11_lengthOf l_X11_111 s_X11_lengthOf rfl rfl rfl rfl (Nat.le_of_ble_eq_true rfl) ⟨by decide, by decide⟩ (Nat.le_of_ble_eq_true rfl) (by decide) (m_lengthOf ⟨by omega, by omega⟩) ?_
    have g_19 := mlen_nn (M 50 0)
    refine e_bipush dX11_draft_22 (by decide) ?_
    refine e_icmp_ne (tgt := 31) dX11_draft_24 (by decide) ⟨by omega, by omega⟩ ⟨by omega, by omega⟩ (fun c_24 => ?_) (fun c_24 => ?_)
    · refine e_iconst dX11_draft_31 ?_
      refine m_putI (by decide) dX11_draft_32 f_X11_101 rfl hT ⟨by omega, by omega⟩ ?_
      refine e_aload_n dX11_draft_35 rfl ?_
      refine m_getI (by decide) dX11_draft_36 f_X11_101 (Or.inl rfl) hT ?_
      simp only [q_us_ap, editsF_3, Int.reduceEq, Int.reduceNeg, false_and, and_false, and_self, if_true, if_false, true_and, and_true, ite_self]
      have g_36 := rs_41 hW
      refine e_if_le (tgt := 44) dX11_draft_39 (by decide) ⟨by decide, by decide⟩ (fun c_39 => ?_) (fun c_39 => ?_)
      · refine e_aload_n dX11_draft_44 rfl ?_
        refine e_aload_n dX11_draft_45 rfl ?_
        refine m_getL (by decide) dX11_draft_46 f_X11_119 hT ?_
        simp only [q_us_ap, editsF_3, Int.reduceEq, Int.reduceNeg, false_and, and_false, and_self, if_true, if_false, true_and, and_true, ite_self]
        have g_46 := rs_0 hW
        refine e_lconst (z := 0) dX11_draft_49 rfl ?_
        refine e_lcmp dX11_draft_50 ⟨by omega, by omega⟩ ⟨by omega, by omega⟩ ?_
        refine e_if_ne (tgt := 60) dX11_draft_51 (by decide) (q_cmp_iI _ _) (fun c_51 => ?_) (fun c_51 => ?_)
        · rw [q_cmp_eq] at c_51
          refine e_ldc2 dX11_draft_60 cl_X11_109 ?_
          refine e_aload_n dX11_draft_63 rfl ?_
          refine m_getL (by decide) dX11_draft_64 f_X11_119 hT ?_
          simp only [q_us_ap, editsF_3, Int.reduceEq, Int.reduceNeg, false_and, and_false, and_self, if_true, if_false, true_and, and_true, ite_self]
          have g_64 := rs_0 hW
          refine e_lmul dX11_draft_67 ?_
          refine e_iload_n dX11_draft_68 rfl ?_
          refine e_i2l dX11_draft_69 ⟨by omega, by omega⟩ ?_
          refine e_ladd dX11_draft_70 ?_
          refine m_putL (by decide) dX11_draft_71 f_X11_119 rfl hT ⟨by omega, by omega⟩ ?_
          refine e_aload_n dX11_draft_74 rfl ?_
          refine m_getL (by decide) dX11_draft_75 f_X11_119 hT ?_
          simp only [q_us_ap, editsF_3, Int.reduceEq, Int.reduceNeg, false_and, and_false, and_self, if_true, if_false, true_and, and_true, ite_self]
          have g_75 := rs_0 hW
          refine e_cS (as := [_]) dX11_draft_78 k_X11_lengthOf l_X11_111 s_X11_lengthOf rfl rfl rfl rfl (Nat.le_of_ble_eq_true rfl) ⟨by decide, by decide⟩ (Nat.le_of_ble_eq_true rfl) (by decide) (m_lengthOf ⟨by omega, by omega⟩) ?_
          try simp only [lockF_thr, rightF_thr, latestOf_thr, asOfT_thr]
          have g_78 := mlen_nn ((10 * (M 50 0)) + n)
          refine e_iret dX11_draft_81 (Or.inl rfl) ?_
          first
          | exact e_ok rfl rfl rfl
          | (unfold draftF; repeat' split
             all_goals first | exact e_ok rfl rfl rfl | (exfalso; omega) | (refine e_ok ?_ rfl rfl; unfold bi; repeat' split; all_goals first | rfl | (exfalso; omega)))
        · rw [q_cmp_eq] at c_51
          refine e_ldc2 dX11_draft_54 cl_X11_109 ?_
          refine e_goto (tgt := 68) dX11_draft_57 (by decide) ?_
          refine e_iload_n dX11_draft_68 rfl ?_
          refine e_i2l dX11_draft_69 ⟨by omega, by omega⟩ ?_
          refine e_ladd dX11_draft_70 ?_
          refine m_putL (by decide) dX11_draft_71 f_X11_119 rfl hT ⟨by omega, by omega⟩ ?_
          refine e_aload_n dX11_draft_74 rfl ?_
          refine m_getL (by decide) dX11_draft_75 f_X11_119 hT ?_
          simp only [q_us_ap, editsF_3, Int.reduceEq, Int.reduceNeg, false_and, and_false, and_self, if_true, if_false, true_and, and_true, ite_self]
          have g_75 := rs_0 hW
          refine e_cS (as := [_]) dX11_draft_78 k_X11_lengthOf l_X11_111 s_X11_lengthOf rfl rfl rfl rfl (Nat.le_of_ble_eq_true rfl) ⟨by decide, by decide⟩ (Nat.le_of_ble_eq_true rfl) (by decide) (m_lengthOf ⟨by omega, by omega⟩) ?_
          try simp only [lockF_thr, rightF_thr, latestOf_thr, asOfT_thr]
          have g_78 := mlen_nn (10 + n)
          refine e_iret dX11_draft_81 (Or.inl rfl) ?_
          first
          | exact e_ok rfl rfl rfl
          | (unfold draftF; repeat' split
             all_goals first | exact e_ok rfl rfl rfl | (exfalso; omega) | (refine e_ok ?_ rfl rfl; unfold bi; repeat' split; all_goals first | rfl | (exfalso; omega)))
      · exact absurd c_39 (by decide)
    · refine e_iconst dX11_draft_27 ?_
      refine e_goto (tgt := 32) dX11_draft_28 (by decide) ?_
      refine m_putI (by decide) dX11_draft_32 f_X11_101 rfl hT ⟨by omega, by omega⟩ ?_
      refine e_aload_n dX11_draft_35 rfl ?_
      refine m_getI (by decide) dX11_draft_36 f_X11_101 (Or.inl rfl) hT ?_
      simp only [q_us_ap, editsF_3, Int.reduceEq, Int.reduceNeg, false_and, and_false, and_self, if_true, if_false, true_and, and_true, ite_self]
      have g_36 := rs_41 hW
      refine e_if_le (tgt := 44) dX11_draft_39 (by decide) ⟨by decide, by decide⟩ (fun c_39 => ?_) (fun c_39 => ?_)
      · exact absurd c_39 (by decide)
      · refine e_iconst dX11_draft_42 ?_
        refine e_iret dX11_draft_43 (Or.inl rfl) ?_
        first
        | exact e_ok rfl rfl rfl
        | (unfold draftF; repeat' split
           all_goals first | exact e_ok rfl rfl rfl | (exfalso; omega) | (refine e_ok ?_ rfl rfl; unfold bi; repeat' split; all_goals first | rfl | (exfalso; omega)))
  · simp only [bi_z, Classical.not_not] at c_8
    refine e_iconst dX11_draft_11 ?_
    refine e_goto (tgt := 32) dX11_draft_12 (by decide) ?_
    refine m_putI (by decide) dX11_draft_32 f_X11_101 rfl hT ⟨by omega, by omega⟩ ?_
    refine e_aload_n dX11_draft_35 rfl ?_
    refine m_getI (by decide) dX11_draft_36 f_X11_101 (Or.inl rfl) hT ?_
    simp only [q_us_ap, editsF_3, Int.reduceEq, Int.reduceNeg, false_and, and_false, and_self, if_true, if_false, true_and, and_true, ite_self]
    have g_36 := rs_41 hW
    refine e_if_le (tgt := 44) dX11_draft_39 (by decide) ⟨by decide, by decide⟩ (fun c_39 => ?_) (fun c_39 => ?_)
    · exact absurd c_39 (by decide)
    · refine e_iconst dX11_draft_42 ?_
      refine e_iret dX11_draft_43 (Or.inl rfl) ?_
      first
      | exact e_ok rfl rfl rfl
      | (unfold draftF; repeat' split
         all_goals first | exact e_ok rfl rfl rfl | (exfalso; omega) | (refine e_ok ?_ rfl rfl; unfold bi; repeat' split; all_goals first | rfl | (exfalso; omega)))
