set_option maxRecDepth 20000 in
set_option maxHeartbeats 4000000 in
theorem m_restore {K : q_K} {M C : q_S} {a : Nat} (hT : K a = (12, 0, 50)) (hW : WR M) {f t : Int} (hf : q_iI f) (ht : q_iI t) : q_E mX11_restore 0 [some (q_R a), some (q_I f), some (q_I t)] [] K M C 0 0 (e_is (some (q_I (restoreF M f t).1)) K (restoreF M f t).2 C) := by
  have g16 := rs_16 hW
  have g1 := rs_1 hW
  by_cases e0 : ¬ (0 ≤ f ∧ f ≤ 15)
  · refine e_aload_n dX11_restore_0 rfl ?_
    refine e_iload_n dX11_restore_1 rfl ?_
    refine e_cS (as := [_]) dX11_restore_2 k_X11_isFile l_X11_139 s_X11_isFile rfl rfl rfl rfl (Nat.le_of_ble_eq_true rfl) ⟨by decide, by decide⟩ (Nat.le_of_ble_eq_true rfl) (by decide) (m_isFile (by assumption)) ?_
    refine e_if_ne (tgt := 12) dX11_restore_5 (by decide) bi_iI (fun c_5 => ?_) (fun c_5 => ?_)
    · simp only [bi_z, Classical.not_not] at c_5
      exfalso; omega
    · simp only [bi_z, Classical.not_not] at c_5
      refine e_iconst dX11_restore_8 ?_
      refine e_goto (tgt := 42) dX11_restore_9 (by decide) ?_
      refine m_putI (by decide) dX11_restore_42 f_X11_101 rfl hT ⟨by omega, by omega⟩ ?_
      refine e_aload_n dX11_restore_45 rfl ?_
      refine m_getI (by decide) dX11_restore_46 f_X11_101 (Or.inl rfl) hT ?_
      simp only [q_us_ap, editsF_3, Int.reduceEq, Int.reduceNeg, false_and, and_false, and_self, if_true, if_false, true_and, and_true, ite_self]
      have g_46 := rs_41 hW
      refine e_if_ne (tgt := 61) dX11_restore_49 (by decide) ⟨by decide, by decide⟩ (fun c_49 => ?_) (fun c_49 => ?_)
      · refine e_iconst dX11_restore_61 ?_
        exact e_iret dX11_restore_62 (Or.inl rfl) (e_ok (by unfold restoreF; rw [if_pos e0]) (by unfold restoreF; rw [if_pos e0]) rfl)
      · exact absurd c_49 (by decide)
  ·
    by_cases e1 : ¬ (0 ≤ t ∧ t ≤ M 50 1)
    · refine e_aload_n dX11_restore_0 rfl ?_
      refine e_iload_n dX11_restore_1 rfl ?_
      refine e_cS (as := [_]) dX11_restore_2 k_X11_isFile l_X11_139 s_X11_isFile rfl rfl rfl rfl (Nat.le_of_ble_eq_true rfl) ⟨by decide, by decide⟩ (Nat.le_of_ble_eq_true rfl) (by decide) (m_isFile (by assumption)) ?_
      refine e_if_ne (tgt := 12) dX11_restore_5 (by decide) bi_iI (fun c_5 => ?_) (fun c_5 => ?_)
      · simp only [bi_z, Classical.not_not] at c_5
        refine e_iload_n dX11_restore_12 rfl ?_
        refine e_iconst dX11_restore_13 ?_
        refine e_aload_n dX11_restore_14 rfl ?_
        refine m_getI (by decide) dX11_restore_15 f_X11_132 (Or.inl rfl) hT ?_
        have g_15 := rs_1 hW
        refine e_cS (as := [_, _, _]) dX11_restore_18 k_X11_in l_X11_105 s_X11_in rfl rfl rfl rfl (Nat.le_of_ble_eq_true rfl) ⟨by decide, by decide⟩ (Nat.le_of_ble_eq_true rfl) (by decide) (m_in (by first | assumption | exact ⟨by decide, by decide⟩ | exact ⟨by omega, by omega⟩) (by first | assumption | exact ⟨by decide, by decide⟩ | exact ⟨by omega, by omega⟩) (by first | assumption | exact ⟨by decide, by decide⟩ | exact ⟨by omega, by omega⟩)) ?_
        refine e_if_ne (tgt := 28) dX11_restore_21 (by decide) bi_iI (fun c_21 => ?_) (fun c_21 => ?_)
        · simp only [bi_z, Classical.not_not] at c_21
          exfalso; omega
        · simp only [bi_z, Classical.not_not] at c_21
          refine e_iconst dX11_restore_24 ?_
          refine e_goto (tgt := 42) dX11_restore_25 (by decide) ?_
          refine m_putI (by decide) dX11_restore_42 f_X11_101 rfl hT ⟨by omega, by omega⟩ ?_
          refine e_aload_n dX11_restore_45 rfl ?_
          refine m_getI (by decide) dX11_restore_46 f_X11_101 (Or.inl rfl) hT ?_
          simp only [q_us_ap, editsF_3, Int.reduceEq, Int.reduceNeg, false_and, and_false, and_self, if_true, if_false, true_and, and_true, ite_self]
          have g_46 := rs_41 hW
          refine e_if_ne (tgt := 61) dX11_restore_49 (by decide) ⟨by decide, by decide⟩ (fun c_49 => ?_) (fun c_49 => ?_)
          · refine e_iconst dX11_restore_61 ?_
            exact e_iret dX11_restore_62 (Or.inl rfl) (e_ok (by unfold restoreF; rw [if_neg e0, if_pos e1]) (by unfold restoreF; rw [if_neg e0, if_pos e1]) rfl)
          · exact absurd c_49 (by decide)
      · simp only [bi_z, Classical.not_not] at c_5
        exfalso; omega
    ·
      by_cases e2 : 100 < M 50 16
      · refine e_aload_n dX11_restore_0 rfl ?_
        refine e_iload_n dX11_restore_1 rfl ?_
        refine e_cS (as := [_]) dX11_restore_2 k_X11_isFile l_X11_139 s_X11_isFile rfl rfl rfl rfl (Nat.le_of_ble_eq_true rfl) ⟨by decide, by decide⟩ (Nat.le_of_ble_eq_true rfl) (by decide) (m_isFile (by assumption)) ?_
        refine e_if_ne (tgt := 12) dX11_restore_5 (by decide) bi_iI (fun c_5 => ?_) (fun c_5 => ?_)
        · simp only [bi_z, Classical.not_not] at c_5
          refine e_iload_n dX11_restore_12 rfl ?_
          refine e_iconst dX11_restore_13 ?_
          refine e_aload_n dX11_restore_14 rfl ?_
          refine m_getI (by decide) dX11_restore_15 f_X11_132 (Or.inl rfl) hT ?_
          have g_15 := rs_1 hW
          refine e_cS (as := [_, _, _]) dX11_restore_18 k_X11_in l_X11_105 s_X11_in rfl rfl rfl rfl (Nat.le_of_ble_eq_true rfl) ⟨by decide, by decide⟩ (Nat.le_of_ble_eq_true rfl) (by decide) (m_in (by first | assumption | exact ⟨by decide, by decide⟩ | exact ⟨by omega, by omega⟩) (by first | assumption | exact ⟨by decide, by decide⟩ | exact ⟨by omega, by omega⟩) (by first | assumption | exact ⟨by decide, by decide⟩ | exact ⟨by omega, by omega⟩)) ?_
          refine e_if_ne (tgt := 28) dX11_restore_21 (by decide) bi_iI (fun c_21 => ?_) (fun c_21 => ?_)
          · simp only [bi_z, Classical.not_not] at c_21
            refine e_aload_n dX11_restore_28 rfl ?_
            refine m_getI (by decide) dX11_restore_29 f_X11_155 (Or.inl rfl) hT ?_
            have g_29 := rs_16 hW
            refine e_bipush dX11_restore_32 (by decide) ?_
            refine e_icmp_le (tgt := 41) dX11_restore_34 (by decide) ⟨by omega, by omega⟩ ⟨by omega, by omega⟩ (fun c_34 => ?_) (fun c_34 => ?_)
            · exfalso; omega
            · refine e_iconst dX11_restore_37 ?_
              refine e_goto (tgt := 42) dX11_restore_38 (by decide) ?_
              refine m_putI (by decide) dX11_restore_42 f_X11_101 rfl hT ⟨by omega, by omega⟩ ?_
              refine e_aload_n dX11_restore_45 rfl ?_
              refine m_getI (by decide) dX11_restore_46 f_X11_101 (Or.inl rfl) hT ?_
              simp only [q_us_ap, editsF_3, Int.reduceEq, Int.reduceNeg, false_and, and_false, and_self, if_true, if_false, true_and, and_true, ite_self]
              have g_46 := rs_41 hW
              refine e_if_ne (tgt := 61) dX11_restore_49 (by decide) ⟨by decide, by decide⟩ (fun c_49 => ?_) (fun c_49 => ?_)
              · refine e_iconst dX11_restore_61 ?_
                exact e_iret dX11_restore_62 (Or.inl rfl) (e_ok (by unfold restoreF; rw [if_neg e0, if_neg e1, if_pos e2]) (by unfold restoreF; rw [if_neg e0, if_neg e1, if_pos e2]) rfl)
              · exact absurd c_49 (by decide)
          · simp only [bi_z, Classical.not_not] at c_21
            exfalso; omega
        · simp only [bi_z, Classical.not_not] at c_5
          exfalso; omega
      ·
        refine e_aload_n dX11_restore_0 rfl ?_
        refine e_iload_n dX11_restore_1 rfl ?_
        refine e_cS (as := [_]) dX11_restore_2 k_X11_isFile l_X11_139 s_X11_isFile rfl rfl rfl rfl (Nat.le_of_ble_eq_true rfl) ⟨by decide, by decide⟩ (Nat.le_of_ble_eq_true rfl) (by decide) (m_isFile (by assumption)) ?_
        refine e_if_ne (tgt := 12) dX11_restore_5 (by decide) bi_iI (fun c_5 => ?_) (fun c_5 => ?_)
        · simp only [bi_z, Classical.not_not] at c_5
          refine e_iload_n dX11_restore_12 rfl ?_
          refine e_iconst dX11_restore_13 ?_
          refine e_aload_n dX11_restore_14 rfl ?_
          refine m_getI (by decide) dX11_restore_15 f_X11_132 (Or.inl rfl) hT ?_
          have g_15 := rs_1 hW
          refine e_cS (as := [_, _, _]) dX11_restore_18 k_X11_in l_X11_105 s_X11_in rfl rfl rfl rfl (Nat.le_of_ble_eq_true rfl) ⟨by decide, by decide⟩ (Nat.le_of_ble_eq_true rfl) (by decide) (m_in (by first | assumption | exact ⟨by decide, by decide⟩ | exact ⟨by omega, by omega⟩) (by first | assumption | exact ⟨by decide, by decide⟩ | exact ⟨by omega, by omega⟩) (by first | assumption | exact ⟨by decide, by decide⟩ | exact ⟨by omega, by omega⟩)) ?_
          refine e_if_ne (tgt := 28) dX11_restore_21 (by decide) bi_iI (fun c_21 => ?_) (fun c_21 => ?_)
          · simp only [bi_z, Classical.not_not] at c_21
            refine e_aload_n dX11_restore_28 rfl ?_
            refine m_getI (by decide) dX11_restore_29 f_X11_155 (Or.inl rfl) hT ?_
            have g_29 := rs_16 hW
            refine e_bipush dX11_restore_32 (by decide) ?_
            refine e_icmp_le (tgt := 41) dX11_restore_34 (by decide) ⟨by omega, by omega⟩ ⟨by omega, by omega⟩ (fun c_34 => ?_) (fun c_34 => ?_)
            · refine e_iconst dX11_restore_41 ?_
              refine m_putI (by decide) dX11_restore_42 f_X11_101 rfl hT ⟨by omega, by omega⟩ ?_
              refine e_aload_n dX11_restore_45 rfl ?_
              refine m_getI (by decide) dX11_restore_46 f_X11_101 (Or.inl rfl) hT ?_
              simp only [q_us_ap, editsF_3, Int.reduceEq, Int.reduceNeg, false_and, and_false, and_self, if_true, if_false, true_and, and_true, ite_self]
              have g_46 := rs_41 hW
              refine e_if_ne (tgt := 61) dX11_restore_49 (by decide) ⟨by decide, by decide⟩ (fun c_49 => ?_) (fun c_49 => ?_)
              · exact absurd c_49 (by decide)
              · refine e_aload_n dX11_restore_52 rfl ?_
                refine e_iload_n dX11_restore_53 rfl ?_
                refine e_iload_n dX11_restore_54 rfl ?_
                refine e_cV (as := [_, _]) (ci := 11) dX11_restore_55 k_X11_restores l_X11_255 i_X11_restores v_X11_restores hT rfl (by decide) ⟨_, _, rfl⟩ rfl rfl rfl rfl (Nat.le_of_ble_eq_true rfl) ⟨by decide, by decide⟩ (Nat.le_of_ble_eq_true rfl) (by decide) (m_restores hT (WR.up hW ⟨by decide, by decide⟩) ⟨by omega, by omega⟩ ⟨by omega, by omega⟩ (by show M 50 16 < 120; omega)) ?_
                refine e_goto (tgt := 62) dX11_restore_58 (by decide) ?_
                exact e_iret dX11_restore_62 (Or.inl rfl) (e_ok (by unfold restoreF; rw [if_neg e0, if_neg e1, if_neg e2]) (by unfold restoreF; rw [if_neg e0, if_neg e1, if_neg e2]) rfl)
            · exfalso; omega
          · simp only [bi_z, Classical.not_not] at c_21
            exfalso; omega
        · simp only [bi_z, Classical.not_not] at c_5
          exfalso; omega
theorem restoresF_o {M : q_S} {f t z j : Int} (h : z < 17) : (restoresF M f t).2 z j = M z j := by
  unfold restoresF; split
  · rfl
  · exact makesF_o h
theorem restoresF_16 (M : q_S) (f t : Int) : M 50 16 ≤ (restoresF M f t).2 50 16 ∧ (restoresF M f t).2 50 16 ≤ M 50 16 + 1 := by
  unfold restoresF; split
  · exact ⟨Int.le_refl _, by show M 50 16 ≤ M 50 16 + 1; omega⟩
  · simp only [makesF, q_us_ap, and_self, if_true]; omega
theorem restoresF_50 {M : q_S} {f t j : Int} (h : j ≠ 16) : (restoresF M f t).2 50 j = M 50 j := by
  unfold restoresF; split
  · rfl
  · simp only [makesF, q_us_ap, Int.reduceEq, false_and, if_false, true_and, if_neg h]
theorem wr_restores {M : q_S} (h : WR M) {f t : Int} (hf : 0 ≤ f ∧ f ≤ 15) (hv : M 50 16 < 120) : WR (restoresF M f t).2 := by
  unfold restoresF; split
  · exact h
  · exact h.makes hv hf ⟨by decide, by decide⟩ (h 21 _) (h 20 _)
theorem restoresF_1 (M : q_S) (f t : Int) (h : WR M) : (restoresF M f t).1 = -1 ∨ (0 ≤ (restoresF M f t).1 ∧ (restoresF M f t).1 ≤ 120) := by
  have := rs_16 h
  unfold restoresF; split
  · exact Or.inl rfl
  · exact Or.inr this
set_option maxRecDepth 20000 in
set_option maxHeartbeats 4000000 in
theorem m_rf_l {K : q_K} {M C : q_S} {a : Nat} (hT : K a = (12, 0, 50)) (hW : WR M) {d t : Int} (hd : 0 ≤ d ∧ d ≤ 3) (ht : 0 ≤ t ∧ t ≤ 2000) : ∀ (r k : Nat) (n i : Int) (S : q_S), (k + r = 16) → ((n, S) = rfF (thr M 0) d t k) → (i = k) → (0 ≤ n ∧ n ≤ k) → (WR S) → (S 50 41 = 0) → (S 50 16 ≤ 100 + k) → q_E mX11_restoreFolder 52 [some (q_R a), some (q_I d), some (q_I t), some (q_I n), some (q_I i), none, none, none] [] K S C 0 0 (e_is (some (q_I (rfF (thr M 0) d t 16).1)) K (rfF (thr M 0) d t 16).2 C) := by
  intro r
  induction r with
  | zero =>
    intro k n i S h1 h2 h3 h4 hS h6 h7
    refine e_iload dX11_restoreFolder_52 rfl ?_
    refine e_bipush dX11_restoreFolder_54 (by decide) ?_
    refine e_icmp_ge (tgt := 160) dX11_restoreFolder_56 (by decide) ⟨by omega, by omega⟩ ⟨by omega, by omega⟩ (fun c_56 => ?_) (fun c_56 => ?_)
    · refine e_iload_n dX11_restoreFolder_160 rfl ?_
      exact e_iret dX11_restoreFolder_161 (Or.inl rfl) (e_ok (by rw [show 16 = k by omega, ← h2]) (by rw [show 16 = k by omega, ← h2]) rfl)
    · exfalso; omega
  | succ r ih =>
    intro k n i S h1 h2 h3 h4 hS h6 h7
    have e16 := rs_16 hS
    have gr1 := restoresF_1 S i t hS
    have gr16 := restoresF_16 S i t
    have ga := asOfT_rg hS i t
    have gl := latestOf_rg hS i
    refine e_iload dX11_restoreFolder_52 rfl ?_
    refine e_bipush dX11_restoreFolder_54 (by decide) ?_
    refine e_icmp_ge (tgt := 160) dX11_restoreFolder_56 (by decide) ⟨by omega, by omega⟩ ⟨by omega, by omega⟩ (fun c_56 => ?_) (fun c_56 => ?_)
    · exfalso; omega
    · refine e_aload_n dX11_restoreFolder_59 rfl ?_
      refine m_getI (by decide) dX11_restoreFolder_60 f_X11_101 (Or.inl rfl) hT ?_
      have g_60 := rs_41 hS
      refine e_if_ne (tgt := 160) dX11_restoreFolder_63 (by decide) ⟨by omega, by omega⟩ (fun c_63 => ?_) (fun c_63 => ?_)
      · exfalso; omega
      · refine e_aload_n dX11_restoreFolder_66 rfl ?_
        refine e_iload dX11_restoreFolder_67 rfl ?_
        refine e_iload_n dX11_restoreFolder_69 rfl ?_
        refine e_cV (as := [_, _]) (ci := 11) dX11_restoreFolder_70 k_X11_asOfTime l_X11_252 i_X11_asOfTime v_X11_asOfTime hT rfl (by decide) ⟨_, _, rfl⟩ rfl rfl rfl rfl (Nat.le_of_ble_eq_true rfl) ⟨by decide, by decide⟩ (Nat.le_of_ble_eq_true rfl) (by decide) (m_asOfTime hT hS ⟨by omega, by omega⟩ ⟨by omega, by omega⟩) ?_
        have g_70 := asOfT_rg hS i t
        refine e_istore (ls2 := [_, _, _, _, _, _, _, _]) dX11_restoreFolder_73 (Nat.le_of_ble_eq_true rfl) rfl ?_
        refine e_aload_n dX11_restoreFolder_75 rfl ?_
        refine e_iload dX11_restoreFolder_76 rfl ?_
        refine e_cV (as := [_]) (ci := 11) dX11_restoreFolder_78 k_X11_latestOf l_X11_184 i_X11_latestOf v_X11_latestOf hT rfl (by decide) ⟨_, _, rfl⟩ rfl rfl rfl rfl (Nat.le_of_ble_eq_true rfl) ⟨by decide, by decide⟩ (Nat.le_of_ble_eq_true rfl) (by decide) (m_latestOf hT hS ⟨by omega, by omega⟩) ?_
        have g_78 := latestOf_rg hS i
        refine e_istore (ls2 := [_, _, _, _, _, _, _, _]) dX11_restoreFolder_81 (Nat.le_of_ble_eq_true rfl) rfl ?_
        refine e_aload_n dX11_restoreFolder_83 rfl ?_
        refine e_iload dX11_restoreFolder_84 rfl ?_
        refine e_cV (as := [_]) (ci := 11) dX11_restoreFolder_86 k_X11_isIn l_X11_158 i_X11_isIn v_X11_isIn hT rfl (by decide) ⟨_, _, rfl⟩ rfl rfl rfl rfl (Nat.le_of_ble_eq_true rfl) ⟨by decide, by decide⟩ (Nat.le_of_ble_eq_true rfl) (by decide) (m_isIn hT hS ⟨by omega, by omega⟩) ?_
        refine e_if_eq (tgt := 103) dX11_restoreFolder_89 (by decide) bi_iI (fun c_89 => ?_) (fun c_89 => ?_)
        · simp only [bi_z, Classical.not_not] at c_89
          refine e_aload_n dX11_restoreFolder_103 rfl ?_
          refine e_iload dX11_restoreFolder_104 rfl ?_
          refine e_cV (as := [_]) (ci := 11) dX11_restoreFolder_106 k_X11_isIn l_X11_158 i_X11_isIn v_X11_isIn hT rfl (by decide) ⟨_, _, rfl⟩ rfl rfl rfl rfl (Nat.le_of_ble_eq_true rfl) ⟨by decide, by decide⟩ (Nat.le_of_ble_eq_true rfl) (by decide) (m_isIn hT hS ⟨by omega, by omega⟩) ?_
          refine e_if_eq (tgt := 127) dX11_restoreFolder_109 (by decide) bi_iI (fun c_109 => ?_) (fun c_109 => ?_)
          · simp only [bi_z, Classical.not_not] at c_109
            refine e_iconst dX11_restoreFolder_127 ?_
            refine e_istore (ls2 := [_, _, _, _, _, _, _, _]) dX11_restoreFolder_128 (Nat.le_of_ble_eq_true rfl) rfl ?_
            refine e_iload_n dX11_restoreFolder_130 rfl ?_
            refine e_iload dX11_restoreFolder_131 rfl ?_
            refine e_if_eq (tgt := 151) dX11_restoreFolder_133 (by decide) ⟨by decide, by decide⟩ (fun c_133 => ?_) (fun c_133 => ?_)
            · refine e_iconst dX11_restoreFolder_151 ?_
              refine e_iadd dX11_restoreFolder_152 ?_
              refine e_istore_n (ls2 := [_, _, _, _, _, _, _, _]) dX11_restoreFolder_153 (Nat.le_of_ble_eq_true rfl) rfl ?_
              refine e_iinc (ls2 := [_, _, _, _, _, _, _, _]) dX11_restoreFolder_154 rfl (Nat.le_of_ble_eq_true rfl) rfl ?_
              refine e_goto (tgt := 52) dX11_restoreFolder_157 (by decide) ?_
              refine e_drop (k := 5) (ls2 := [_, _, _, _, _, _, _, _]) rfl ?_
              refine e_drop (k := 6) (ls2 := [_, _, _, _, _, _, _, _]) rfl ?_
              refine e_drop (k := 7) (ls2 := [_, _, _, _, _, _, _, _]) rfl ?_
              exact ih (k + 1) _ _ _ (by omega) (by simp only [rfF, ← h2, ← h3]; split <;> first | rfl | (exfalso; omega) | (congr 1; omega) | (split <;> first | rfl | (exfalso; omega) | (congr 1; omega))) (by omega) (by omega) (by first | exact hS | exact wr_restores hS ⟨by omega, by omega⟩ (by omega)) (by first | exact h6 | (rw [restoresF_50 (by decide)]; exact h6)) (by omega)
            · exact absurd c_133 (by decide)
          · simp only [bi_z, Classical.not_not] at c_109
            refine e_aload_n dX11_restoreFolder_112 rfl ?_
            refine m_getR (kt := (20, 120, 20)) (by decide) dX11_restoreFolder_113 f_X11_53 hT rfl (Nat.succ_ne_zero _) (fun q_113 h_113 => ?_)
            refine e_iload dX11_restoreFolder_116 rfl ?_
            refine m_iaw (by decide) (rg_20 hS) dX11_restoreFolder_118 h_113 (by omega) (by omega) (fun g_118 => ?_)
            refine e_iload_n dX11_restoreFolder_119 rfl ?_
            refine e_icmp_ne (tgt := 127) dX11_restoreFolder_120 (by decide) ⟨by omega, by omega⟩ ⟨by omega, by omega⟩ (fun c_120 => ?_) (fun c_120 => ?_)
            · refine e_iconst dX11_restoreFolder_127 ?_
              refine e_istore (ls2 := [_, _, _, _, _, _, _, _]) dX11_restoreFolder_128 (Nat.le_of_ble_eq_true rfl) rfl ?_
              refine e_iload_n dX11_restoreFolder_130 rfl ?_
              refine e_iload dX11_restoreFolder_131 rfl ?_
              refine e_if_eq (tgt := 151) dX11_restoreFolder_133 (by decide) ⟨by decide, by decide⟩ (fun c_133 => ?_) (fun c_133 => ?_)
              · refine e_iconst dX11_restoreFolder_151 ?_
                refine e_iadd dX11_restoreFolder_152 ?_
                refine e_istore_n (ls2 := [_, _, _, _, _, _, _, _]) dX11_restoreFolder_153 (Nat.le_of_ble_eq_true rfl) rfl ?_
                refine e_iinc (ls2 := [_, _, _, _, _, _, _, _]) dX11_restoreFolder_154 rfl (Nat.le_of_ble_eq_true rfl) rfl ?_
                refine e_goto (tgt := 52) dX11_restoreFolder_157 (by decide) ?_
                refine e_drop (k := 5) (ls2 := [_, _, _, _, _, _, _, _]) rfl ?_
                refine e_drop (k := 6) (ls2 := [_, _, _, _, _, _, _, _]) rfl ?_
                refine e_drop (k := 7) (ls2 := [_, _, _, _, _, _, _, _]) rfl ?_
                exact ih (k + 1) _ _ _ (by omega) (by simp only [rfF, ← h2, ← h3]; split <;> first | rfl | (exfalso; omega) | (congr 1; omega) | (split <;> first | rfl | (exfalso; omega) | (congr 1; omega))) (by omega) (by omega) (by first | exact hS | exact wr_restores hS ⟨by omega, by omega⟩ (by omega)) (by first | exact h6 | (rw [restoresF_50 (by decide)]; exact h6)) (by omega)
              · exact absurd c_133 (by decide)
            · refine e_iconst dX11_restoreFolder_123 ?_
              refine e_goto (tgt := 128) dX11_restoreFolder_124 (by decide) ?_
              refine e_istore (ls2 := [_, _, _, _, _, _, _, _]) dX11_restoreFolder_128 (Nat.le_of_ble_eq_true rfl) rfl ?_
              refine e_iload_n dX11_restoreFolder_130 rfl ?_
              refine e_iload dX11_restoreFolder_131 rfl ?_
              refine e_if_eq (tgt := 151) dX11_restoreFolder_133 (by decide) ⟨by decide, by decide⟩ (fun c_133 => ?_) (fun c_133 => ?_)
              · exact absurd c_133 (by decide)
              · refine e_aload_n dX11_restoreFolder_136 rfl ?_
                refine e_iload dX11_restoreFolder_137 rfl ?_
                refine e_iload_n dX11_restoreFolder_139 rfl ?_
                refine e_cV (as := [_, _]) (ci := 11) dX11_restoreFolder_140 k_X11_restores l_X11_255 i_X11_restores v_X11_restores hT rfl (by decide) ⟨_, _, rfl⟩ rfl rfl rfl rfl (Nat.le_of_ble_eq_true rfl) ⟨by decide, by decide⟩ (Nat.le_of_ble_eq_true rfl) (by decide) (m_restores hT hS ⟨by omega, by omega⟩ ⟨by omega, by omega⟩ (by omega)) ?_
                refine e_iconst dX11_restoreFolder_143 ?_
                refine e_icmp_eq (tgt := 151) dX11_restoreFolder_144 (by decide) ⟨by omega, by omega⟩ ⟨by omega, by omega⟩ (fun c_144 => ?_) (fun c_144 => ?_)
                · refine e_iconst dX11_restoreFolder_151 ?_
                  refine e_iadd dX11_restoreFolder_152 ?_
                  refine e_istore_n (ls2 := [_, _, _, _, _, _, _, _]) dX11_restoreFolder_153 (Nat.le_of_ble_eq_true rfl) rfl ?_
                  refine e_iinc (ls2 := [_, _, _, _, _, _, _, _]) dX11_restoreFolder_154 rfl (Nat.le_of_ble_eq_true rfl) rfl ?_
                  refine e_goto (tgt := 52) dX11_restoreFolder_157 (by decide) ?_
                  refine e_drop (k := 5) (ls2 := [_, _, _, _, _, _, _, _]) rfl ?_
                  refine e_drop (k := 6) (ls2 := [_, _, _, _, _, _, _, _]) rfl ?_
                  refine e_drop (k := 7) (ls2 := [_, _, _, _, _, _, _, _]) rfl ?_
                  exact ih (k + 1) _ _ _ (by omega) (by simp only [rfF, ← h2, ← h3]; split <;> first | rfl | (exfalso; omega) | (congr 1; omega) | (split <;> first | rfl | (exfalso; omega) | (congr 1; omega))) (by omega) (by omega) (by first | exact hS | exact wr_restores hS ⟨by omega, by omega⟩ (by omega)) (by first | exact h6 | (rw [restoresF_50 (by decide)]; exact h6)) (by omega)
                · refine e_iconst dX11_restoreFolder_147 ?_
                  refine e_goto (tgt := 152) dX11_restoreFolder_148 (by decide) ?_
                  refine e_iadd dX11_restoreFolder_152 ?_
                  refine e_istore_n (ls2 := [_, _, _, _, _, _, _, _]) dX11_restoreFolder_153 (Nat.le_of_ble_eq_true rfl) rfl ?_
                  refine e_iinc (ls2 := [_, _, _, _, _, _, _, _]) dX11_restoreFolder_154 rfl (Nat.le_of_ble_eq_true rfl) rfl ?_
                  refine e_goto (tgt := 52) dX11_restoreFolder_157 (by decide) ?_
                  refine e_drop (k := 5) (ls2 := [_, _, _, _, _, _, _, _]) rfl ?_
                  refine e_drop (k := 6) (ls2 := [_, _, _, _, _, _, _, _]) rfl ?_
                  refine e_drop (k := 7) (ls2 := [_, _, _, _, _, _, _, _]) rfl ?_
                  exact ih (k + 1) _ _ _ (by omega) (by simp only [rfF, ← h2, ← h3]; split <;> first | rfl | (exfalso; omega) | (congr 1; omega) | (split <;> first | rfl | (exfalso; omega) | (congr 1; omega))) (by omega) (by omega) (by first | exact hS | exact wr_restores hS ⟨by omega, by omega⟩ (by omega)) (by first | exact h6 | (rw [restoresF_50 (by decide)]; exact h6)) (by omega)
        · simp only [bi_z, Classical.not_not] at c_89
          refine e_aload_n dX11_restoreFolder_92 rfl ?_
          refine m_getR (kt := (20, 120, 20)) (by decide) dX11_restoreFolder_93 f_X11_53 hT rfl (Nat.succ_ne_zero _) (fun q_93 h_93 => ?_)
          refine e_iload dX11_restoreFolder_96 rfl ?_
          refine m_iaw (by decide) (rg_20 hS) dX11_restoreFolder_98 h_93 (by omega) (by omega) (fun g_98 => ?_)
          refine e_iload_n dX11_restoreFolder_99 rfl ?_
          refine e_icmp_eq (tgt := 123) dX11_restoreFolder_100 (by decide) ⟨by omega, by omega⟩ ⟨by omega, by omega⟩ (fun c_100 => ?_) (fun c_100 => ?_)
          · refine e_iconst dX11_restoreFolder_123 ?_
            refine e_goto (tgt := 128) dX11_restoreFolder_124 (by decide) ?_
            refine e_istore (ls2 := [_, _, _, _, _, _, _, _]) dX11_restoreFolder_128 (Nat.le_of_ble_eq_true rfl) rfl ?_
            refine e_iload_n dX11_restoreFolder_130 rfl ?_
            refine e_iload dX11_restoreFolder_131 rfl ?_
            refine e_if_eq (tgt := 151) dX11_restoreFolder_133 (by decide) ⟨by decide, by decide⟩ (fun c_133 => ?_) (fun c_133 => ?_)
            · exact absurd c_133 (by decide)
            · refine e_aload_n dX11_restoreFolder_136 rfl ?_
              refine e_iload dX11_restoreFolder_137 rfl ?_
              refine e_iload_n dX11_restoreFolder_139 rfl ?_
              refine e_cV (as := [_, _]) (ci := 11) dX11_restoreFolder_140 k_X11_restores l_X11_255 i_X11_restores v_X11_restores hT rfl (by decide) ⟨_, _, rfl⟩ rfl rfl rfl rfl (Nat.le_of_ble_eq_true rfl) ⟨by decide, by decide⟩ (Nat.le_of_ble_eq_true rfl) (by decide) (m_restores hT hS ⟨by omega, by omega⟩ ⟨by omega, by omega⟩ (by omega)) ?_
              refine e_iconst dX11_restoreFolder_143 ?_
              refine e_icmp_eq (tgt := 151) dX11_restoreFolder_144 (by decide) ⟨by omega, by omega⟩ ⟨by omega, by omega⟩ (fun c_144 => ?_) (fun c_144 => ?_)
              · refine e_iconst dX11_restoreFolder_151 ?_
                refine e_iadd dX11_restoreFolder_152 ?_
                refine e_istore_n (ls2 := [_, _, _, _, _, _, _, _]) dX11_restoreFolder_153 (Nat.le_of_ble_eq_true rfl) rfl ?_
                refine e_iinc (ls2 := [_, _, _, _, _, _, _, _]) dX11_restoreFolder_154 rfl (Nat.le_of_ble_eq_true rfl) rfl ?_
                refine e_goto (tgt := 52) dX11_restoreFolder_157 (by decide) ?_
                refine e_drop (k := 5) (ls2 := [_, _, _, _, _, _, _, _]) rfl ?_
                refine e_drop (k := 6) (ls2 := [_, _, _, _, _, _, _, _]) rfl ?_
                refine e_drop (k := 7) (ls2 := [_, _, _, _, _, _, _, _]) rfl ?_
                exact ih (k + 1) _ _ _ (by omega) (by simp only [rfF, ← h2, ← h3]; split <;> first | rfl | (exfalso; omega) | (congr 1; omega) | (split <;> first | rfl | (exfalso; omega) | (congr 1; omega))) (by omega) (by omega) (by first | exact hS | exact wr_restores hS ⟨by omega, by omega⟩ (by omega)) (by first | exact h6 | (rw [restoresF_50 (by decide)]; exact h6)) (by omega)
              · refine e_iconst dX11_restoreFolder_147 ?_
                refine e_goto (tgt := 152) dX11_restoreFolder_148 (by decide) ?_
                refine e_iadd dX11_restoreFolder_152 ?_
                refine e_istore_n (ls2 := [_, _, _, _, _, _, _, _]) dX11_restoreFolder_153 (Nat.le_of_ble_eq_true rfl) rfl ?_
                refine e_iinc (ls2 := [_, _, _, _, _, _, _, _]) dX11_restoreFolder_154 rfl (Nat.le_of_ble_eq_true rfl) rfl ?_
                refine e_goto (tgt := 52) dX11_restoreFolder_157 (by decide) ?_
                refine e_drop (k := 5) (ls2 := [_, _, _, _, _, _, _, _]) rfl ?_
                refine e_drop (k := 6) (ls2 := [_, _, _, _, _, _, _, _]) rfl ?_
                refine e_drop (k := 7) (ls2 := [_, _, _, _, _, _, _, _]) rfl ?_
                exact ih (k + 1) _ _ _ (by omega) (by simp only [rfF, ← h2, ← h3]; split <;> first | rfl | (exfalso; omega) | (congr 1; omega) | (split <;> first | rfl | (exfalso; omega) | (congr 1; omega))) (by omega) (by omega) (by first | exact hS | exact wr_restores hS ⟨by omega, by omega⟩ (by omega)) (by first | exact h6 | (rw [restoresF_50 (by decide)]; exact h6)) (by omega)
          · refine e_aload_n dX11_restoreFolder_103 rfl ?_
            refine e_iload dX11_restoreFolder_104 rfl ?_
            refine e_cV (as := [_]) (ci := 11) dX11_restoreFolder_106 k_X11_isIn l_X11_158 i_X11_isIn v_X11_isIn hT rfl (by decide) ⟨_, _, rfl⟩ rfl rfl rfl rfl (Nat.le_of_ble_eq_true rfl) ⟨by decide, by decide⟩ (Nat.le_of_ble_eq_true rfl) (by decide) (m_isIn hT hS ⟨by omega, by omega⟩) ?_
            refine e_if_eq (tgt := 127) dX11_restoreFolder_109 (by decide) bi_iI (fun c_109 => ?_) (fun c_109 => ?_)
            · simp only [bi_z, Classical.not_not] at c_109
              refine e_iconst dX11_restoreFolder_127 ?_
              refine e_istore (ls2 := [_, _, _, _, _, _, _, _]) dX11_restoreFolder_128 (Nat.le_of_ble_eq_true rfl) rfl ?_
              refine e_iload_n dX11_restoreFolder_130 rfl ?_
              refine e_iload dX11_restoreFolder_131 rfl ?_
              refine e_if_eq (tgt := 151) dX11_restoreFolder_133 (by decide) ⟨by decide, by decide⟩ (fun c_133 => ?_) (fun c_133 => ?_)
              · refine e_iconst dX11_restoreFolder_151 ?_
                refine e_iadd dX11_restoreFolder_152 ?_
                refine e_istore_n (ls2 := [_, _, _, _, _, _, _, _]) dX11_restoreFolder_153 (Nat.le_of_ble_eq_true rfl) rfl ?_
                refine e_iinc (ls2 := [_, _, _, _, _, _, _, _]) dX11_restoreFolder_154 rfl (Nat.le_of_ble_eq_true rfl) rfl ?_
                refine e_goto (tgt := 52) dX11_restoreFolder_157 (by decide) ?_
                refine e_drop (k := 5) (ls2 := [_, _, _, _, _, _, _, _]) rfl ?_
                refine e_drop (k := 6) (ls2 := [_, _, _, _, _, _, _, _]) rfl ?_
                refine e_drop (k := 7) (ls2 := [_, _, _, _, _, _, _, _]) rfl ?_
                exact ih (k + 1) _ _ _ (by omega) (by simp only [rfF, ← h2, ← h3]; split <;> first | rfl | (exfalso; omega) | (congr 1; omega) | (split <;> first | rfl | (exfalso; omega) | (congr 1; omega))) (by omega) (by omega) (by first | exact hS | exact wr_restores hS ⟨by omega, by omega⟩ (by omega)) (by first | exact h6 | (rw [restoresF_50 (by decide)]; exact h6)) (by omega)
              · exact absurd c_133 (by decide)
            · simp only [bi_z, Classical.not_not] at c_109
              refine e_aload_n dX11_restoreFolder_112 rfl ?_
              refine m_getR (kt := (20, 120, 20)) (by decide) dX11_restoreFolder_113 f_X11_53 hT rfl (Nat.succ_ne_zero _) (fun q_113 h_113 => ?_)
              refine e_iload dX11_restoreFolder_116 rfl ?_
              refine m_iaw (by decide) (rg_20 hS) dX11_restoreFolder_118 h_113 (by omega) (by omega) (fun g_118 => ?_)
              refine e_iload_n dX11_restoreFolder_119 rfl ?_
              refine e_icmp_ne (tgt := 127) dX11_restoreFolder_120 (by decide) ⟨by omega, by omega⟩ ⟨by omega, by omega⟩ (fun c_120 => ?_) (fun c_120 => ?_)
              · refine e_iconst dX11_restoreFolder_127 ?_
                refine e_istore (ls2 := [_, _, _, _, _, _, _, _]) dX11_restoreFolder_128 (Nat.le_of_ble_eq_true rfl) rfl ?_
                refine e_iload_n dX11_restoreFolder_130 rfl ?_
                refine e_iload dX11_restoreFolder_131 rfl ?_
                refine e_if_eq (tgt := 151) dX11_restoreFolder_133 (by decide) ⟨by decide, by decide⟩ (fun c_133 => ?_) (fun c_133 => ?_)
                · refine e_iconst dX11_restoreFolder_151 ?_
                  refine e_iadd dX11_restoreFolder_152 ?_
                  refine e_istore_n (ls2 := [_, _, _, _, _, _, _, _]) dX11_restoreFolder_153 (Nat.le_of_ble_eq_true rfl) rfl ?_
                  refine e_iinc (ls2 := [_, _, _, _, _, _, _, _]) dX11_restoreFolder_154 rfl (Nat.le_of_ble_eq_true rfl) rfl ?_
                  refine e_goto (tgt := 52) dX11_restoreFolder_157 (by decide) ?_
                  refine e_drop (k := 5) (ls2 := [_, _, _, _, _, _, _, _]) rfl ?_
                  refine e_drop (k := 6) (ls2 := [_, _, _, _, _, _, _, _]) rfl ?_
                  refine e_drop (k := 7) (ls2 := [_, _, _, _, _, _, _, _]) rfl ?_
                  exact ih (k + 1) _ _ _ (by omega) (by simp only [rfF, ← h2, ← h3]; split <;> first | rfl | (exfalso; omega) | (congr 1; omega) | (split <;> first | rfl | (exfalso; omega) | (congr 1; omega))) (by omega) (by omega) (by first | exact hS | exact wr_restores hS ⟨by omega, by omega⟩ (by omega)) (by first | exact h6 | (rw [restoresF_50 (by decide)]; exact h6)) (by omega)
                · exact absurd c_133 (by decide)
              · refine e_iconst dX11_restoreFolder_123 ?_
                refine e_goto (tgt := 128) dX11_restoreFolder_124 (by decide) ?_
                refine e_istore (ls2 := [_, _, _, _, _, _, _, _]) dX11_restoreFolder_128 (Nat.le_of_ble_eq_true rfl) rfl ?_
                refine e_iload_n dX11_restoreFolder_130 rfl ?_
                refine e_iload dX11_restoreFolder_131 rfl ?_
                refine e_if_eq (tgt := 151) dX11_restoreFolder_133 (by decide) ⟨by decide, by decide⟩ (fun c_133 => ?_) (fun c_133 => ?_)
                · exact absurd c_133 (by decide)
                · refine e_aload_n dX11_restoreFolder_136 rfl ?_
                  refine e_iload dX11_restoreFolder_137 rfl ?_
                  refine e_iload_n dX11_restoreFolder_139 rfl ?_
                  refine e_cV (as := [_, _]) (ci := 11) dX11_restoreFolder_140 k_X11_restores l_X11_255 i_X11_restores v_X11_restores hT rfl (by decide) ⟨_, _, rfl⟩ rfl rfl rfl rfl (Nat.le_of_ble_eq_true rfl) ⟨by decide, by decide⟩ (Nat.le_of_ble_eq_true rfl) (by decide) (m_restores hT hS ⟨by omega, by omega⟩ ⟨by omega, by omega⟩ (by omega)) ?_
                  refine e_iconst dX11_restoreFolder_143 ?_
                  refine e_icmp_eq (tgt := 151) dX11_restoreFolder_144 (by decide) ⟨by omega, by omega⟩ ⟨by omega, by omega⟩ (fun c_144 => ?_) (fun c_144 => ?_)
                  · refine e_iconst dX11_restoreFolder_151 ?_
                    refine e_iadd dX11_restoreFolder_152 ?_
                    refine e_istore_n (ls2 := [_, _, _, _, _, _, _, _]) dX11_restoreFolder_153 (Nat.le_of_ble_eq_true rfl) rfl ?_
                    refine e_iinc (ls2 := [_, _, _, _, _, _, _, _]) dX11_restoreFolder_154 rfl (Nat.le_of_ble_eq_true rfl) rfl ?_
                    refine e_goto (tgt := 52) dX11_restoreFolder_157 (by decide) ?_
                    refine e_drop (k := 5) (ls2 := [_, _, _, _, _, _, _, _]) rfl ?_
                    refine e_drop (k := 6) (ls2 := [_, _, _, _, _, _, _, _]) rfl ?_
                    refine e_drop (k := 7) (ls2 := [_, _, _, _, _, _, _, _]) rfl ?_
                    exact ih (k + 1) _ _ _ (by omega) (by simp only [rfF, ← h2, ← h3]; split <;> first | rfl | (exfalso; omega) | (congr 1; omega) | (split <;> first | rfl | (exfalso; omega) | (congr 1; omega))) (by omega) (by omega) (by first | exact hS | exact wr_restores hS ⟨by omega, by omega⟩ (by omega)) (by first | exact h6 | (rw [restoresF_50 (by decide)]; exact h6)) (by omega)
                  · refine e_iconst dX11_restoreFolder_147 ?_
                    refine e_goto (tgt := 152) dX11_restoreFolder_148 (by decide) ?_
                    refine e_iadd dX11_restoreFolder_152 ?_
                    refine e_istore_n (ls2 := [_, _, _, _, _, _, _, _]) dX11_restoreFolder_153 (Nat.le_of_ble_eq_true rfl) rfl ?_
                    refine e_iinc (ls2 := [_, _, _, _, _, _, _, _]) dX11_restoreFolder_154 rfl (Nat.le_of_ble_eq_true rfl) rfl ?_
                    refine e_goto (tgt := 52) dX11_restoreFolder_157 (by decide) ?_
                    refine e_drop (k := 5) (ls2 := [_, _, _, _, _, _, _, _]) rfl ?_
                    refine e_drop (k := 6) (ls2 := [_, _, _, _, _, _, _, _]) rfl ?_
                    refine e_drop (k := 7) (ls2 := [_, _, _, _, _, _, _, _]) rfl ?_
                    exact ih (k + 1) _ _ _ (by omega) (by simp only [rfF, ← h2, ← h3]; split <;> first | rfl | (exfalso; omega) | (congr 1; omega) | (split <;> first | rfl | (exfalso; omega) | (congr 1; omega))) (by omega) (by omega) (by first | exact hS | exact wr_restores hS ⟨by omega, by omega⟩ (by omega)) (by first | exact h6 | (rw [restoresF_50 (by decide)]; exact h6)) (by omega)
set_option maxRecDepth 20000 in
set_option maxHeartbeats 4000000 in
theorem m_restoreFolder {K : q_K} {M C : q_S} {a : Nat} (hT : K a = (12, 0, 50)) (hW : WR M) {d t : Int} (hd : q_iI d) (ht : q_iI t) : q_E mX11_restoreFolder 0 [some (q_R a), some (q_I d), some (q_I t), none, none, none, none, none] [] K M C 0 0 (e_is (some (q_I (restoreFolderF M d t).1)) K (restoreFolderF M d t).2 C) := by
  have g16 := rs_16 hW
  have g1 := rs_1 hW
  by_cases e0 : ¬ (0 ≤ d ∧ d ≤ 3)
  · refine e_aload_n dX11_restoreFolder_0 rfl ?_
    refine e_iload_n dX11_restoreFolder_1 rfl ?_
    refine e_iconst dX11_restoreFolder_2 ?_
    refine e_iconst dX11_restoreFolder_3 ?_
    refine e_cS (as := [_, _, _]) dX11_restoreFolder_4 k_X11_in l_X11_105 s_X11_in rfl rfl rfl rfl (Nat.le_of_ble_eq_true rfl) ⟨by decide, by decide⟩ (Nat.le_of_ble_eq_true rfl) (by decide) (m_in (by first | assumption | exact ⟨by decide, by decide⟩ | exact ⟨by omega, by omega⟩) (by first | assumption | exact ⟨by decide, by decide⟩ | exact ⟨by omega, by omega⟩) (by first | assumption | exact ⟨by decide, by decide⟩ | exact ⟨by omega, by omega⟩)) ?_
    refine e_if_ne (tgt := 14) dX11_restoreFolder_7 (by decide) bi_iI (fun c_7 => ?_) (fun c_7 => ?_)
    · simp only [bi_z, Classical.not_not] at c_7
      exfalso; omega
    · simp only [bi_z, Classical.not_not] at c_7
      refine e_iconst dX11_restoreFolder_10 ?_
      refine e_goto (tgt := 44) dX11_restoreFolder_11 (by decide) ?_
      refine m_putI (by decide) dX11_restoreFolder_44 f_X11_101 rfl hT ⟨by omega, by omega⟩ ?_
      refine e_iconst dX11_restoreFolder_47 ?_
      refine e_istore_n (ls2 := [_, _, _, _, _, _, _, _]) dX11_restoreFolder_48 (Nat.le_of_ble_eq_true rfl) rfl ?_
      refine e_iconst dX11_restoreFolder_49 ?_
      refine e_istore (ls2 := [_, _, _, _, _, _, _, _]) dX11_restoreFolder_50 (Nat.le_of_ble_eq_true rfl) rfl ?_
      refine e_iload dX11_restoreFolder_52 rfl ?_
      refine e_bipush dX11_restoreFolder_54 (by decide) ?_
      refine e_icmp_ge (tgt := 160) dX11_restoreFolder_56 (by decide) ⟨by decide, by decide⟩ ⟨by decide, by decide⟩ (fun c_56 => ?_) (fun c_56 => ?_)
      · exact absurd c_56 (by decide)
      · refine e_aload_n dX11_restoreFolder_59 rfl ?_
        refine m_getI (by decide) dX11_restoreFolder_60 f_X11_101 (Or.inl rfl) hT ?_
        simp only [q_us_ap, editsF_3, Int.reduceEq, Int.reduceNeg, false_and, and_false, and_self, if_true, if_false, true_and, and_true, ite_self]
        have g_60 := rs_41 hW
        refine e_if_ne (tgt := 160) dX11_restoreFolder_63 (by decide) ⟨by decide, by decide⟩ (fun c_63 => ?_) (fun c_63 => ?_)
        · refine e_iload_n dX11_restoreFolder_160 rfl ?_
          exact e_iret dX11_restoreFolder_161 (Or.inl rfl) (e_ok (by unfold restoreFolderF; rw [if_pos e0]) (by unfold restoreFolderF; rw [if_pos e0]) rfl)
        · exact absurd c_63 (by decide)
  ·
    by_cases e1 : ¬ (0 ≤ t ∧ t ≤ M 50 1)
    · refine e_aload_n dX11_restoreFolder_0 rfl ?_
      refine e_iload_n dX11_restoreFolder_1 rfl ?_
      refine e_iconst dX11_restoreFolder_2 ?_
      refine e_iconst dX11_restoreFolder_3 ?_
      refine e_cS (as := [_, _, _]) dX11_restoreFolder_4 k_X11_in l_X11_105 s_X11_in rfl rfl rfl rfl (Nat.le_of_ble_eq_true rfl) ⟨by decide, by decide⟩ (Nat.le_of_ble_eq_true rfl) (by decide) (m_in (by first | assumption | exact ⟨by decide, by decide⟩ | exact ⟨by omega, by omega⟩) (by first | assumption | exact ⟨by decide, by decide⟩ | exact ⟨by omega, by omega⟩) (by first | assumption | exact ⟨by decide, by decide⟩ | exact ⟨by omega, by omega⟩)) ?_
      refine e_if_ne (tgt := 14) dX11_restoreFolder_7 (by decide) bi_iI (fun c_7 => ?_) (fun c_7 => ?_)
      · simp only [bi_z, Classical.not_not] at c_7
        refine e_iload_n dX11_restoreFolder_14 rfl ?_
        refine e_iconst dX11_restoreFolder_15 ?_
        refine e_aload_n dX11_restoreFolder_16 rfl ?_
        refine m_getI (by decide) dX11_restoreFolder_17 f_X11_132 (Or.inl rfl) hT ?_
        have g_17 := rs_1 hW
        refine e_cS (as := [_, _, _]) dX11_restoreFolder_20 k_X11_in l_X11_105 s_X11_in rfl rfl rfl rfl (Nat.le_of_ble_eq_true rfl) ⟨by decide, by decide⟩ (Nat.le_of_ble_eq_true rfl) (by decide) (m_in (by first | assumption | exact ⟨by decide, by decide⟩ | exact ⟨by omega, by omega⟩) (by first | assumption | exact ⟨by decide, by decide⟩ | exact ⟨by omega, by omega⟩) (by first | assumption | exact ⟨by decide, by decide⟩ | exact ⟨by omega, by omega⟩)) ?_
        refine e_if_ne (tgt := 30) dX11_restoreFolder_23 (by decide) bi_iI (fun c_23 => ?_) (fun c_23 => ?_)
        · simp only [bi_z, Classical.not_not] at c_23
          exfalso; omega
        · simp only [bi_z, Classical.not_not] at c_23
          refine e_iconst dX11_restoreFolder_26 ?_
          refine e_goto (tgt := 44) dX11_restoreFolder_27 (by decide) ?_
          refine m_putI (by decide) dX11_restoreFolder_44 f_X11_101 rfl hT ⟨by omega, by omega⟩ ?_
          refine e_iconst dX11_restoreFolder_47 ?_
          refine e_istore_n (ls2 := [_, _, _, _, _, _, _, _]) dX11_restoreFolder_48 (Nat.le_of_ble_eq_true rfl) rfl ?_
          refine e_iconst dX11_restoreFolder_49 ?_
          refine e_istore (ls2 := [_, _, _, _, _, _, _, _]) dX11_restoreFolder_50 (Nat.le_of_ble_eq_true rfl) rfl ?_
          refine e_iload dX11_restoreFolder_52 rfl ?_
          refine e_bipush dX11_restoreFolder_54 (by decide) ?_
          refine e_icmp_ge (tgt := 160) dX11_restoreFolder_56 (by decide) ⟨by decide, by decide⟩ ⟨by decide, by decide⟩ (fun c_56 => ?_) (fun c_56 => ?_)
          · exact absurd c_56 (by decide)
          · refine e_aload_n dX11_restoreFolder_59 rfl ?_
            refine m_getI (by decide) dX11_restoreFolder_60 f_X11_101 (Or.inl rfl) hT ?_
            simp only [q_us_ap, editsF_3, Int.reduceEq, Int.reduceNeg, false_and, and_false, and_self, if_true, if_false, true_and, and_true, ite_self]
            have g_60 := rs_41 hW
            refine e_if_ne (tgt := 160) dX11_restoreFolder_63 (by decide) ⟨by decide, by decide⟩ (fun c_63 => ?_) (fun c_63 => ?_)
            · refine e_iload_n dX11_restoreFolder_160 rfl ?_
              exact e_iret dX11_restoreFolder_161 (Or.inl rfl) (e_ok (by unfold restoreFolderF; rw [if_neg e0, if_pos e1]) (by unfold restoreFolderF; rw [if_neg e0, if_pos e1]) rfl)
            · exact absurd c_63 (by decide)
      · simp only [bi_z, Classical.not_not] at c_7
        exfalso; omega
    ·
      by_cases e2 : 100 < M 50 16
      · refine e_aload_n dX11_restoreFolder_0 rfl ?_
        refine e_iload_n dX11_restoreFolder_1 rfl ?_
        refine e_iconst dX11_restoreFolder_2 ?_
        refine e_iconst dX11_restoreFolder_3 ?_
        refine e_cS (as := [_, _, _]) dX11_restoreFolder_4 k_X11_in l_X11_105 s_X11_in rfl rfl rfl rfl (Nat.le_of_ble_eq_true rfl) ⟨by decide, by decide⟩ (Nat.le_of_ble_eq_true rfl) (by decide) (m_in (by first | assumption | exact ⟨by decide, by decide⟩ | exact ⟨by omega, by omega⟩) (by first | assumption | exact ⟨by decide, by decide⟩ | exact ⟨by omega, by omega⟩) (by first | assumption | exact ⟨by decide, by decide⟩ | exact ⟨by omega, by omega⟩)) ?_
        refine e_if_ne (tgt := 14) dX11_restoreFolder_7 (by decide) bi_iI (fun c_7 => ?_) (fun c_7 => ?_)
        · simp only [bi_z, Classical.not_not] at c_7
          refine e_iload_n dX11_restoreFolder_14 rfl ?_
          refine e_iconst dX11_restoreFolder_15 ?_
          refine e_aload_n dX11_restoreFolder_16 rfl ?_
          refine m_getI (by decide) dX11_restoreFolder_17 f_X11_132 (Or.inl rfl) hT ?_
          have g_17 := rs_1 hW
          refine e_cS (as := [_, _, _]) dX11_restoreFolder_20 k_X11_in l_X11_105 s_X11_in rfl rfl rfl rfl (Nat.le_of_ble_eq_true rfl) ⟨by decide, by decide⟩ (Nat.le_of_ble_eq_true rfl) (by decide) (m_in (by first | assumption | exact ⟨by decide, by decide⟩ | exact ⟨by omega, by omega⟩) (by first | assumption | exact ⟨by decide, by decide⟩ | exact ⟨by omega, by omega⟩) (by first | assumption | exact ⟨by decide, by decide⟩ | exact ⟨by omega, by omega⟩)) ?_
          refine e_if_ne (tgt := 30) dX11_restoreFolder_23 (by decide) bi_iI (fun c_23 => ?_) (fun c_23 => ?_)
          · simp only [bi_z, Classical.not_not] at c_23
            refine e_aload_n dX11_restoreFolder_30 rfl ?_
            refine m_getI (by decide) dX11_restoreFolder_31 f_X11_155 (Or.inl rfl) hT ?_
            have g_31 := rs_16 hW
            refine e_bipush dX11_restoreFolder_34 (by decide) ?_
            refine e_icmp_le (tgt := 43) dX11_restoreFolder_36 (by decide) ⟨by omega, by omega⟩ ⟨by omega, by omega⟩ (fun c_36 => ?_) (fun c_36 => ?_)
            · exfalso; omega
            · refine e_iconst dX11_restoreFolder_39 ?_
              refine e_goto (tgt := 44) dX11_restoreFolder_40 (by decide) ?_
              refine m_putI (by decide) dX11_restoreFolder_44 f_X11_101 rfl hT ⟨by omega, by omega⟩ ?_
              refine e_iconst dX11_restoreFolder_47 ?_
              refine e_istore_n (ls2 := [_, _, _, _, _, _, _, _]) dX11_restoreFolder_48 (Nat.le_of_ble_eq_true rfl) rfl ?_
              refine e_iconst dX11_restoreFolder_49 ?_
              refine e_istore (ls2 := [_, _, _, _, _, _, _, _]) dX11_restoreFolder_50 (Nat.le_of_ble_eq_true rfl) rfl ?_
              refine e_iload dX11_restoreFolder_52 rfl ?_
              refine e_bipush dX11_restoreFolder_54 (by decide) ?_
              refine e_icmp_ge (tgt := 160) dX11_restoreFolder_56 (by decide) ⟨by decide, by decide⟩ ⟨by decide, by decide⟩ (fun c_56 => ?_) (fun c_56 => ?_)
              · exact absurd c_56 (by decide)
              · refine e_aload_n dX11_restoreFolder_59 rfl ?_
                refine m_getI (by decide) dX11_restoreFolder_60 f_X11_101 (Or.inl rfl) hT ?_
                simp only [q_us_ap, editsF_3, Int.reduceEq, Int.reduceNeg, false_and, and_false, and_self, if_true, if_false, true_and, and_true, ite_self]
                have g_60 := rs_41 hW
                refine e_if_ne (tgt := 160) dX11_restoreFolder_63 (by decide) ⟨by decide, by decide⟩ (fun c_63 => ?_) (fun c_63 => ?_)
                · refine e_iload_n dX11_restoreFolder_160 rfl ?_
                  exact e_iret dX11_restoreFolder_161 (Or.inl rfl) (e_ok (by unfold restoreFolderF; rw [if_neg e0, if_neg e1, if_pos e2]) (by unfold restoreFolderF; rw [if_neg e0, if_neg e1, if_pos e2]) rfl)
                · exact absurd c_63 (by decide)
          · simp only [bi_z, Classical.not_not] at c_23
            exfalso; omega
        · simp only [bi_z, Classical.not_not] at c_7
          exfalso; omega
      ·
        refine e_aload_n dX11_restoreFolder_0 rfl ?_
        refine e_iload_n dX11_restoreFolder_1 rfl ?_
        refine e_iconst dX11_restoreFolder_2 ?_
        refine e_iconst dX11_restoreFolder_3 ?_
        refine e_cS (as := [_, _, _]) dX11_restoreFolder_4 k_X11_in l_X11_105 s_X11_in rfl rfl rfl rfl (Nat.le_of_ble_eq_true rfl) ⟨by decide, by decide⟩ (Nat.le_of_ble_eq_true rfl) (by decide) (m_in (by first | assumption | exact ⟨by decide, by decide⟩ | exact ⟨by omega, by omega⟩) (by first | assumption | exact ⟨by decide, by decide⟩ | exact ⟨by omega, by omega⟩) (by first | assumption | exact ⟨by decide, by decide⟩ | exact ⟨by omega, by omega⟩)) ?_
        refine e_if_ne (tgt := 14) dX11_restoreFolder_7 (by decide) bi_iI (fun c_7 => ?_) (fun c_7 => ?_)
        · simp only [bi_z, Classical.not_not] at c_7
          refine e_iload_n dX11_restoreFolder_14 rfl ?_
          refine e_iconst dX11_restoreFolder_15 ?_
          refine e_aload_n dX11_restoreFolder_16 rfl ?_
          refine m_getI (by decide) dX11_restoreFolder_17 f_X11_132 (Or.inl rfl) hT ?_
          have g_17 := rs_1 hW
          refine e_cS (as := [_, _, _]) dX11_restoreFolder_20 k_X11_in l_X11_105 s_X11_in rfl rfl rfl rfl (Nat.le_of_ble_eq_true rfl) ⟨by decide, by decide⟩ (Nat.le_of_ble_eq_true rfl) (by decide) (m_in (by first | assumption | exact ⟨by decide, by decide⟩ | exact ⟨by omega, by omega⟩) (by first | assumption | exact ⟨by decide, by decide⟩ | exact ⟨by omega, by omega⟩) (by first | assumption | exact ⟨by decide, by decide⟩ | exact ⟨by omega, by omega⟩)) ?_
          refine e_if_ne (tgt := 30) dX11_restoreFolder_23 (by decide) bi_iI (fun c_23 => ?_) (fun c_23 => ?_)
          · simp only [bi_z, Classical.not_not] at c_23
            refine e_aload_n dX11_restoreFolder_30 rfl ?_
            refine m_getI (by decide) dX11_restoreFolder_31 f_X11_155 (Or.inl rfl) hT ?_
            have g_31 := rs_16 hW
            refine e_bipush dX11_restoreFolder_34 (by decide) ?_
            refine e_icmp_le (tgt := 43) dX11_restoreFolder_36 (by decide) ⟨by omega, by omega⟩ ⟨by omega, by omega⟩ (fun c_36 => ?_) (fun c_36 => ?_)
            · refine e_iconst dX11_restoreFolder_43 ?_
              refine m_putI (by decide) dX11_restoreFolder_44 f_X11_101 rfl hT ⟨by omega, by omega⟩ ?_
              refine e_iconst dX11_restoreFolder_47 ?_
              refine e_istore_n (ls2 := [_, _, _, _, _, _, _, _]) dX11_restoreFolder_48 (Nat.le_of_ble_eq_true rfl) rfl ?_
              refine e_iconst dX11_restoreFolder_49 ?_
              refine e_istore (ls2 := [_, _, _, _, _, _, _, _]) dX11_restoreFolder_50 (Nat.le_of_ble_eq_true rfl) rfl ?_
              have := m_rf_l (C := C) hT hW (Classical.not_not.mp e0) (show 0 ≤ t ∧ t ≤ 2000 by omega) 16 0 0 0 (thr M 0) (by omega) rfl rfl ⟨by decide, by decide⟩ (WR.up hW ⟨by decide, by decide⟩) rfl (by show M 50 16 ≤ 100 + ((0 : Nat) : Int); omega)
              unfold restoreFolderF; rw [if_neg e0, if_neg e1, if_neg e2]; exact this
            · exfalso; omega
          · simp only [bi_z, Classical.not_not] at c_23
            exfalso; omega
        · simp only [bi_z, Classical.not_not] at c_7
          exfalso; omega
theorem evF_o {M : q_S} {t j : Int} (h : t ≠ 8) (h2 : t ≠ 15) (h3 : t = 50 → j ≠ 10) : ∀ k, evF M k t j = M t j := by
  intro k
  induction k with
  | zero => rfl
  | succ k ih =>
    simp only [evF]; split
    · simp only [q_us_ap]; rw [if_neg (fun g => h2 g.1)]
      unfold notesF; split
      · simp only [q_us_ap]; rw [if_neg (fun g => h g.1), if_neg (fun g => h3 g.1 g.2)]; exact ih
      · exact ih
    · exact ih
theorem wr_evF {M : q_S} (h : WR M) : ∀ k : Nat, M 50 10 + k ≤ 1000000 → WR (evF M k) ∧ evF M k 50 10 ≤ M 50 10 + k := by
  intro k
  induction k with
  | zero => intro _; exact ⟨h, by show M 50 10 ≤ M 50 10 + ((0 : Nat) : Int); omega⟩
  | succ k ih =>
    intro hk
    have i := ih (by omega)
    have g := notesF_10 (evF M k) (evF M k 14 k)
    simp only [evF]; split
    · refine ⟨WR.up (WR.notes i.1 (by omega)) ⟨(show (0 : Int) ≤ 0 by decide), (show (0 : Int) ≤ 2100 by decide)⟩, ?_⟩
      simp only [q_us_ap, Int.reduceEq, false_and, if_false]; omega
    · exact ⟨i.1, by omega⟩
set_option maxRecDepth 20000 in
set_option maxHeartbeats 4000000 in
theorem m_pass_i {K : q_K} {M C : q_S} {a : Nat} (hT : K a = (12, 0, 50)) (hW : WR M) {Q : q_Q2} {h c : Int} (hnt : M 50 10 ≤ 999000) (H : q_E mX11_pass 105 [some (q_R a), some (q_I h), some (q_I c), none] [] K (evF M (M 50 13).toNat) C 0 0 (Q)) : ∀ (r k : Nat) (i : Int) (S : q_S), (k + r = (M 50 13).toNat) → (i = k) → (S = evF M k) → q_E mX11_pass 61 [some (q_R a), some (q_I h), some (q_I c), some (q_I i)] [] K S C 0 0 (Q) := by
  intro r
  induction r with
  | zero =>
    intro k i S h1 h3 h4
    have g13 := rs_13 hW
    have hwe := wr_evF hW k (by omega)
    rw [← h4] at hwe
    have hS := hwe.1
    have e13 : S 50 13 = M 50 13 := by rw [h4]; exact evF_o (by decide) (by decide) (by decide) k
    refine e_iload_n dX11_pass_61 rfl ?_
    refine e_aload_n dX11_pass_62 rfl ?_
    refine m_getI (by decide) dX11_pass_63 f_X11_129 (Or.inl rfl) hT ?_
    have g_63 := rs_13 hS
    refine e_icmp_ge (tgt := 105) dX11_pass_66 (by decide) ⟨by omega, by omega⟩ ⟨by omega, by omega⟩ (fun c_66 => ?_) (fun c_66 => ?_)
    · refine e_drop (k := 3) (ls2 := [_, _, _, _]) rfl ?_
      have e9 : (M 50 13).toNat = k := by omega
      rw [e9] at H
      rw [h4]
      exact H
    · exfalso; omega
  | succ r ih =>
    intro k i S h1 h3 h4
    have g13 := rs_13 hW
    have hwe := wr_evF hW k (by omega)
    rw [← h4] at hwe
    have hS := hwe.1
    have e13 : S 50 13 = M 50 13 := by rw [h4]; exact evF_o (by decide) (by decide) (by decide) k
    refine e_iload_n dX11_pass_61 rfl ?_
    refine e_aload_n dX11_pass_62 rfl ?_
    refine m_getI (by decide) dX11_pass_63 f_X11_129 (Or.inl rfl) hT ?_
    have g_63 := rs_13 hS
    refine e_icmp_ge (tgt := 105) dX11_pass_66 (by decide) ⟨by omega, by omega⟩ ⟨by omega, by omega⟩ (fun c_66 => ?_) (fun c_66 => ?_)
    · exfalso; omega
    · refine e_aload_n dX11_pass_69 rfl ?_
      refine m_getR (kt := (20, 4000, 15)) (by decide) dX11_pass_70 f_X11_41 hT rfl (Nat.succ_ne_zero _) (fun q_70 h_70 => ?_)
      refine e_iload_n dX11_pass_73 rfl ?_
      refine m_iaw (by decide) (rg_15 hS) dX11_pass_74 h_70 (by omega) (by omega) (fun g_74 => ?_)
      refine e_aload_n dX11_pass_75 rfl ?_
      refine m_getI (by decide) dX11_pass_76 f_X11_132 (Or.inl rfl) hT ?_
      have g_76 := rs_1 hS
      refine e_icmp_ne (tgt := 99) dX11_pass_79 (by decide) ⟨by omega, by omega⟩ ⟨by omega, by omega⟩ (fun c_79 => ?_) (fun c_79 => ?_)
      · refine e_iinc (ls2 := [_, _, _, _]) dX11_pass_99 rfl (Nat.le_of_ble_eq_true rfl) rfl ?_
        refine e_goto (tgt := 61) dX11_pass_102 (by decide) ?_
        exact ih (k + 1) _ _ (by omega) (by omega) (by simp only [evF, ← h4, ← h3]; first | rw [if_pos (by omega)] | rw [if_neg (by omega)])
      · refine e_aload_n dX11_pass_82 rfl ?_
        refine e_aload_n dX11_pass_83 rfl ?_
        refine m_getR (kt := (20, 4000, 14)) (by decide) dX11_pass_84 f_X11_38 hT rfl (Nat.succ_ne_zero _) (fun q_84 h_84 => ?_)
        refine e_iload_n dX11_pass_87 rfl ?_
        refine m_iaw (by decide) (rg_14 hS) dX11_pass_88 h_84 (by omega) (by omega) (fun g_88 => ?_)
        refine e_cV (as := [_]) (ci := 11) dX11_pass_89 k_X11_notes l_X11_126 i_X11_notes v_X11_notes hT rfl (by decide) ⟨_, _, rfl⟩ rfl rfl rfl rfl (Nat.le_of_ble_eq_true rfl) ⟨by decide, by decide⟩ (Nat.le_of_ble_eq_true rfl) (by decide) (m_notes hT hS ⟨by omega, by omega⟩) ?_
        refine e_aload_n dX11_pass_92 rfl ?_
        refine m_getR (kt := (20, 4000, 15)) (by decide) dX11_pass_93 f_X11_41 hT rfl (Nat.succ_ne_zero _) (fun q_93 h_93 => ?_)
        refine e_iload_n dX11_pass_96 rfl ?_
        refine e_iconst dX11_pass_97 ?_
        refine m_iast (by decide) dX11_pass_98 h_93 (by omega) (by omega) ⟨by omega, by omega⟩ ?_
        refine e_iinc (ls2 := [_, _, _, _]) dX11_pass_99 rfl (Nat.le_of_ble_eq_true rfl) rfl ?_
        refine e_goto (tgt := 61) dX11_pass_102 (by decide) ?_
        exact ih (k + 1) _ _ (by omega) (by omega) (by simp only [evF, ← h4, ← h3]; first | rw [if_pos (by omega)] | rw [if_neg (by omega)])
set_option maxRecDepth 20000 in
set_option maxHeartbeats 4000000 in
theorem m_pass_l {K : q_K} {M C : q_S} {a : Nat} (hT : K a = (12, 0, 50)) (hW : WR M) {h : Int} (hh : 1 ≤ h ∧ h ≤ 100) (h20 : M 50 1 + h ≤ 2000) (hnt : M 50 10 ≤ 890000) : ∀ (r k : Nat) (c : Int) (S : q_S), (k + r = h.toNat) → (c = k) → (S = psF (thr M 0) k) → (WR S) → (S 50 1 = M 50 1 + k) → (S 50 41 = 0) → (S 50 13 = M 50 13) → (S 50 10 ≤ 890000 + 1000 * k) → q_E mX11_pass 37 [some (q_R a), some (q_I h), some (q_I c), none] [] K S C 0 0 (e_is (some (q_I (M 50 1 + h))) K (psF (thr M 0) h.toNat) C) := by
  intro r
  induction r with
  | zero =>
    intro k c S h1 h3 h4 hS h6 h7 h8 h9
    refine e_iload_n dX11_pass_37 rfl ?_
    refine e_iload_n dX11_pass_38 rfl ?_
    refine e_icmp_ge (tgt := 111) dX11_pass_39 (by decide) ⟨by omega, by omega⟩ ⟨by omega, by omega⟩ (fun c_39 => ?_) (fun c_39 => ?_)
    · refine e_aload_n dX11_pass_111 rfl ?_
      refine m_getI (by decide) dX11_pass_112 f_X11_101 (Or.inl rfl) hT ?_
      have g_112 := rs_41 hS
      refine e_if_ne (tgt := 125) dX11_pass_115 (by decide) ⟨by omega, by omega⟩ (fun c_115 => ?_) (fun c_115 => ?_)
      · exfalso; omega
      · refine e_aload_n dX11_pass_118 rfl ?_
        refine m_getI (by decide) dX11_pass_119 f_X11_132 (Or.inl rfl) hT ?_
        have g_119 := rs_1 hS
        refine e_goto (tgt := 126) dX11_pass_122 (by decide) ?_
        exact e_iret dX11_pass_126 (Or.inl rfl) (e_ok (by congr 2; omega) (by rw [h4, show h.toNat = k by omega]) rfl)
    · exfalso; omega
  | succ r ih =>
    intro k c S h1 h3 h4 hS h6 h7 h8 h9
    refine e_iload_n dX11_pass_37 rfl ?_
    refine e_iload_n dX11_pass_38 rfl ?_
    refine e_icmp_ge (tgt := 111) dX11_pass_39 (by decide) ⟨by omega, by omega⟩ ⟨by omega, by omega⟩ (fun c_39 => ?_) (fun c_39 => ?_)
    · exfalso; omega
    · refine e_aload_n dX11_pass_42 rfl ?_
      refine m_getI (by decide) dX11_pass_43 f_X11_101 (Or.inl rfl) hT ?_
      have g_43 := rs_41 hS
      refine e_if_ne (tgt := 111) dX11_pass_46 (by decide) ⟨by omega, by omega⟩ (fun c_46 => ?_) (fun c_46 => ?_)
      · exfalso; omega
      · refine e_aload_n dX11_pass_49 rfl ?_
        refine e_dup dX11_pass_50 rfl ?_
        refine m_getI (by decide) dX11_pass_51 f_X11_132 (Or.inl rfl) hT ?_
        have g_51 := rs_1 hS
        refine e_iconst dX11_pass_54 ?_
        refine e_iadd dX11_pass_55 ?_
        refine m_putI (by decide) dX11_pass_56 f_X11_132 rfl hT ⟨by omega, by omega⟩ ?_
        refine e_iconst dX11_pass_59 ?_
        refine e_istore_n (ls2 := [_, _, _, _]) dX11_pass_60 (Nat.le_of_ble_eq_true rfl) rfl ?_
        have hWN : WR (q_us S 50 1 (S 50 1 + 1)) := WR.up hS ⟨(show (0 : Int) ≤ _ by omega), (show _ ≤ (2000 : Int) by omega)⟩
        have e13 : (q_us S 50 1 (S 50 1 + 1)) 50 13 = M 50 13 := h8
        have g13 := rs_13 hW
        have hwe := wr_evF hWN ((q_us S 50 1 (S 50 1 + 1)) 50 13).toNat (by rw [e13]; show S 50 10 + _ ≤ _; omega)
        refine m_pass_i hT hWN (by show S 50 10 ≤ _; omega) ?_ ((q_us S 50 1 (S 50 1 + 1)) 50 13).toNat 0 _ _ (by omega) rfl rfl
        refine e_iinc (ls2 := [_, _, _, _]) dX11_pass_105 rfl (Nat.le_of_ble_eq_true rfl) rfl ?_
        refine e_goto (tgt := 37) dX11_pass_108 (by decide) ?_
        exact ih (k + 1) _ _ (by omega) (by omega) (by simp only [psF, ← h4]; rw [show (thr M 0) 50 13 = (q_us S 50 1 (S 50 1 + 1)) 50 13 from by show M 50 13 = S 50 13; omega]) hwe.1 (by rw [evF_o (by decide) (by decide) (by decide)]; show S 50 1 + 1 = _; omega) (by rw [evF_o (by decide) (by decide) (by decide)]; exact h7) (by rw [evF_o (by decide) (by decide) (by decide)]; exact h8) (by have e9 := hwe.2; have e10 : (q_us S 50 1 (S 50 1 + 1)) 50 10 = S 50 10 := rfl; omega)
set_option maxRecDepth 20000 in
set_option maxHeartbeats 4000000 in
theorem m_pass {K : q_K} {M C : q_S} {a : Nat} (hT : K a = (12, 0, 50)) (hW : WR M) {h : Int} (hh : q_iI h) (hnt : M 50 10 ≤ 890000) : q_E mX11_pass 0 [some (q_R a), some (q_I h), none, none] [] K M C 0 0 (e_is (some (q_I (passF M h).1)) K (passF M h).2 C) := by
  have g1 := rs_1 hW
  have hh1 := hh.1
  have hh2 := hh.2
  by_cases e0 : ¬ (1 ≤ h ∧ h ≤ 100)
  · refine e_aload_n dX11_pass_0 rfl ?_
    refine e_iload_n dX11_pass_1 rfl ?_
    refine e_iconst dX11_pass_2 ?_
    refine e_bipush dX11_pass_3 (by decide) ?_
    refine e_cS (as := [_, _, _]) dX11_pass_5 k_X11_in l_X11_105 s_X11_in rfl rfl rfl rfl (Nat.le_of_ble_eq_true rfl) ⟨by decide, by decide⟩ (Nat.le_of_ble_eq_true rfl) (by decide) (m_in (by first | assumption | exact ⟨by decide, by decide⟩ | exact ⟨by omega, by omega⟩) (by first | assumption | exact ⟨by decide, by decide⟩ | exact ⟨by omega, by omega⟩) (by first | assumption | exact ⟨by decide, by decide⟩ | exact ⟨by omega, by omega⟩)) ?_
    refine e_if_ne (tgt := 15) dX11_pass_8 (by decide) bi_iI (fun c_8 => ?_) (fun c_8 => ?_)
    · simp only [bi_z, Classical.not_not] at c_8
      exfalso; omega
    · simp only [bi_z, Classical.not_not] at c_8
      refine e_iconst dX11_pass_11 ?_
      refine e_goto (tgt := 32) dX11_pass_12 (by decide) ?_
      refine m_putI (by decide) dX11_pass_32 f_X11_101 rfl hT ⟨by omega, by omega⟩ ?_
      refine e_iconst dX11_pass_35 ?_
      refine e_istore_n (ls2 := [_, _, _, _]) dX11_pass_36 (Nat.le_of_ble_eq_true rfl) rfl ?_
      refine e_iload_n dX11_pass_37 rfl ?_
      refine e_iload_n dX11_pass_38 rfl ?_
      refine e_icmp_ge (tgt := 111) dX11_pass_39 (by decide) ⟨by omega, by omega⟩ ⟨by omega, by omega⟩ (fun c_39 => ?_) (fun c_39 => ?_)
      · refine e_aload_n dX11_pass_111 rfl ?_
        refine m_getI (by decide) dX11_pass_112 f_X11_101 (Or.inl rfl) hT ?_
        simp only [q_us_ap, editsF_3, Int.reduceEq, Int.reduceNeg, false_and, and_false, and_self, if_true, if_false, true_and, and_true, ite_self]
        have g_112 := rs_41 hW
        refine e_if_ne (tgt := 125) dX11_pass_115 (by decide) ⟨by decide, by decide⟩ (fun c_115 => ?_) (fun c_115 => ?_)
        · refine e_iconst dX11_pass_125 ?_
          exact e_iret dX11_pass_126 (Or.inl rfl) (e_ok (by unfold passF; rw [if_pos e0]) (by unfold passF; rw [if_pos e0]) rfl)
        · exact absurd c_115 (by decide)
      · refine e_aload_n dX11_pass_42 rfl ?_
        refine m_getI (by decide) dX11_pass_43 f_X11_101 (Or.inl rfl) hT ?_
        simp only [q_us_ap, editsF_3, Int.reduceEq, Int.reduceNeg, false_and, and_false, and_self, if_true, if_false, true_and, and_true, ite_self]
        have g_43 := rs_41 hW
        refine e_if_ne (tgt := 111) dX11_pass_46 (by decide) ⟨by decide, by decide⟩ (fun c_46 => ?_) (fun c_46 => ?_)
        · refine e_aload_n dX11_pass_111 rfl ?_
          refine m_getI (by decide) dX11_pass_112 f_X11_101 (Or.inl rfl) hT ?_
          simp only [q_us_ap, editsF_3, Int.reduceEq, Int.reduceNeg, false_and, and_false, and_self, if_true, if_false, true_and, and_true, ite_self]
          have g_112 := rs_41 hW
          refine e_if_ne (tgt := 125) dX11_pass_115 (by decide) ⟨by decide, by decide⟩ (fun c_115 => ?_) (fun c_115 => ?_)
          · refine e_iconst dX11_pass_125 ?_
            exact e_iret dX11_pass_126 (Or.inl rfl) (e_ok (by unfold passF; rw [if_pos e0]) (by unfold passF; rw [if_pos e0]) rfl)
          · exact absurd c_115 (by decide)
        · exact absurd c_46 (by decide)
  ·
    by_cases e1 : 2000 < M 50 1 + h
    · refine e_aload_n dX11_pass_0 rfl ?_
      refine e_iload_n dX11_pass_1 rfl ?_
      refine e_iconst dX11_pass_2 ?_
      refine e_bipush dX11_pass_3 (by decide) ?_
      refine e_cS (as := [_, _, _]) dX11_pass_5 k_X11_in l_X11_105 s_X11_in rfl rfl rfl rfl (Nat.le_of_ble_eq_true rfl) ⟨by decide, by decide⟩ (Nat.le_of_ble_eq_true rfl) (by decide) (m_in (by first | assumption | exact ⟨by decide, by decide⟩ | exact ⟨by omega, by omega⟩) (by first | assumption | exact ⟨by decide, by decide⟩ | exact ⟨by omega, by omega⟩) (by first | assumption | exact ⟨by decide, by decide⟩ | exact ⟨by omega, by omega⟩)) ?_
      refine e_if_ne (tgt := 15) dX11_pass_8 (by decide) bi_iI (fun c_8 => ?_) (fun c_8 => ?_)
      · simp only [bi_z, Classical.not_not] at c_8
        refine e_aload_n dX11_pass_15 rfl ?_
        refine m_getI (by decide) dX11_pass_16 f_X11_132 (Or.inl rfl) hT ?_
        have g_16 := rs_1 hW
        refine e_iload_n dX11_pass_19 rfl ?_
        refine e_iadd dX11_pass_20 ?_
        refine e_sipush dX11_pass_21 (by decide) ?_
        refine e_icmp_le (tgt := 31) dX11_pass_24 (by decide) ⟨by omega, by omega⟩ ⟨by omega, by omega⟩ (fun c_24 => ?_) (fun c_24 => ?_)
        · exfalso; omega
        · refine e_iconst dX11_pass_27 ?_
          refine e_goto (tgt := 32) dX11_pass_28 (by decide) ?_
          refine m_putI (by decide) dX11_pass_32 f_X11_101 rfl hT ⟨by omega, by omega⟩ ?_
          refine e_iconst dX11_pass_35 ?_
          refine e_istore_n (ls2 := [_, _, _, _]) dX11_pass_36 (Nat.le_of_ble_eq_true rfl) rfl ?_
          refine e_iload_n dX11_pass_37 rfl ?_
          refine e_iload_n dX11_pass_38 rfl ?_
          refine e_icmp_ge (tgt := 111) dX11_pass_39 (by decide) ⟨by omega, by omega⟩ ⟨by omega, by omega⟩ (fun c_39 => ?_) (fun c_39 => ?_)
          · refine e_aload_n dX11_pass_111 rfl ?_
            refine m_getI (by decide) dX11_pass_112 f_X11_101 (Or.inl rfl) hT ?_
            simp only [q_us_ap, editsF_3, Int.reduceEq, Int.reduceNeg, false_and, and_false, and_self, if_true, if_false, true_and, and_true, ite_self]
            have g_112 := rs_41 hW
            refine e_if_ne (tgt := 125) dX11_pass_115 (by decide) ⟨by decide, by decide⟩ (fun c_115 => ?_) (fun c_115 => ?_)
            · refine e_iconst dX11_pass_125 ?_
              exact e_iret dX11_pass_126 (Or.inl rfl) (e_ok (by unfold passF; rw [if_neg e0, if_pos e1]) (by unfold passF; rw [if_neg e0, if_pos e1]) rfl)
            · exact absurd c_115 (by decide)
          · refine e_aload_n dX11_pass_42 rfl ?_
            refine m_getI (by decide) dX11_pass_43 f_X11_101 (Or.inl rfl) hT ?_
            simp only [q_us_ap, editsF_3, Int.reduceEq, Int.reduceNeg, false_and, and_false, and_self, if_true, if_false, true_and, and_true, ite_self]
            have g_43 := rs_41 hW
            refine e_if_ne (tgt := 111) dX11_pass_46 (by decide) ⟨by decide, by decide⟩ (fun c_46 => ?_) (fun c_46 => ?_)
            · refine e_aload_n dX11_pass_111 rfl ?_
              refine m_getI (by decide) dX11_pass_112 f_X11_101 (Or.inl rfl) hT ?_
              simp only [q_us_ap, editsF_3, Int.reduceEq, Int.reduceNeg, false_and, and_false, and_self, if_true, if_false, true_and, and_true, ite_self]
              have g_112 := rs_41 hW
              refine e_if_ne (tgt := 125) dX11_pass_115 (by decide) ⟨by decide, by decide⟩ (fun c_115 => ?_) (fun c_115 => ?_)
              · refine e_iconst dX11_pass_125 ?_
                exact e_iret dX11_pass_126 (Or.inl rfl) (e_ok (by unfold passF; rw [if_neg e0, if_pos e1]) (by unfold passF; rw [if_neg e0, if_pos e1]) rfl)
              · exact absurd c_115 (by decide)
            · exact absurd c_46 (by decide)
      · simp only [bi_z, Classical.not_not] at c_8
        exfalso; omega
    ·
      refine e_aload_n dX11_pass_0 rfl ?_
      refine e_iload_n dX11_pass_1 rfl ?_
      refine e_iconst dX11_pass_2 ?_
      refine e_bipush dX11_pass_3 (by decide) ?_
      refine e_cS (as := [_, _, _]) dX11_pass_5 k_X11_in l_X11_105 s_X11_in rfl rfl rfl rfl (Nat.le_of_ble_eq_true rfl) ⟨by decide, by decide⟩ (Nat.le_of_ble_eq_true rfl) (by decide) (m_in (by first | assumption | exact ⟨by decide, by decide⟩ | exact ⟨by omega, by omega⟩) (by first | assumption | exact ⟨by decide, by decide⟩ | exact ⟨by omega, by omega⟩) (by first | assumption | exact ⟨by decide, by decide⟩ | exact ⟨by omega, by omega⟩)) ?_
      refine e_if_ne (tgt := 15) dX11_pass_8 (by decide) bi_iI (fun c_8 => ?_) (fun c_8 => ?_)
      · simp only [bi_z, Classical.not_not] at c_8
        refine e_aload_n dX11_pass_15 rfl ?_
        refine m_getI (by decide) dX11_pass_16 f_X11_132 (Or.inl rfl) hT ?_
        have g_16 := rs_1 hW
        refine e_iload_n dX11_pass_19 rfl ?_
        refine e_iadd dX11_pass_20 ?_
        refine e_sipush dX11_pass_21 (by decide) ?_
        refine e_icmp_le (tgt := 31) dX11_pass_24 (by decide) ⟨by omega, by omega⟩ ⟨by omega, by omega⟩ (fun c_24 => ?_) (fun c_24 => ?_)
        · refine e_iconst dX11_pass_31 ?_
          refine m_putI (by decide) dX11_pass_32 f_X11_101 rfl hT ⟨by omega, by omega⟩ ?_
          refine e_iconst dX11_pass_35 ?_
          refine e_istore_n (ls2 := [_, _, _, _]) dX11_pass_36 (Nat.le_of_ble_eq_true rfl) rfl ?_
          have := m_pass_l (C := C) hT hW (h := h) ⟨by omega, by omega⟩ (by omega) hnt h.toNat 0 0 (thr M 0) (by omega) rfl rfl (WR.up hW ⟨by decide, by decide⟩) (by show M 50 1 = M 50 1 + ((0 : Nat) : Int); omega) rfl rfl (by show M 50 10 ≤ _; omega)
          unfold passF; rw [if_neg e0, if_neg e1]; exact this
        · exfalso; omega
      · simp only [bi_z, Classical.not_not] at c_8
        exfalso; omega
theorem scn_o {S : q_S} {c t j : Int} (h : t ≠ 33) : ∀ k, scn S c k t j = S t j := by
  intro k
  induction k with
  | zero => rfl
  | succ k ih => simp only [scn, q_us_ap]; rw [if_neg (fun g => h g.1)]; exact ih
theorem wr_scn {S : q_S} (h : WR S) (c : Int) : ∀ k, WR (scn S c k) := by
  intro k
  induction k with
  | zero => exact h
  | succ k ih =>
    have g : 0 ≤ scn S c k 33 (pce c k) ∧ scn S c k 33 (pce c k) ≤ 1 := ih 33 _
    simp only [scn]
    refine WR.up ih ⟨?_, ?_⟩
    · show (0 : Int) ≤ _; split <;> omega
    · show _ ≤ (1 : Int); split <;> omega
set_option maxRecDepth 20000 in
set_option maxHeartbeats 4000000 in
theorem m_foll_i {K : q_K} {M C : q_S} {a : Nat} (hT : K a = (12, 0, 50)) (hW : WR M) {Q : q_Q2} {e n c : Int} (hc : 0 ≤ c ∧ c ≤ 9999999999999) (H : q_E mX11_follow 148 [some (q_R a), some (q_I e), some (q_I n), none, none] [] K (scn (cutS M c) c (ncut c).toNat) C 0 0 (Q)) : ∀ (r k : Nat) (y i : Int) (S : q_S), (k + r = (ncut c).toNat) → (i = k) → (S = scn (cutS M c) c k) → (y = ncut c) → q_E mX11_follow 78 [some (q_R a), some (q_I e), some (q_I n), some (q_I y), some (q_I i)] [] K S C 0 0 (Q) := by
  have gn := ncut_rg c
  have gl := mlen_12 hc
  intro r
  induction r with
  | zero =>
    intro k y i S h1 h3 h4 h6
    have hS : WR S := by rw [h4]; exact wr_scn (wr_cutS hW c) c k
    refine e_iload dX11_follow_78 rfl ?_
    refine e_iload_n dX11_follow_80 rfl ?_
    refine e_icmp_ge (tgt := 148) dX11_follow_81 (by decide) ⟨by omega, by omega⟩ ⟨by omega, by omega⟩ (fun c_81 => ?_) (fun c_81 => ?_)
    · refine e_drop (k := 3) (ls2 := [_, _, _, _, _]) rfl ?_
      refine e_drop (k := 4) (ls2 := [_, _, _, _, _]) rfl ?_
      have e9 : (ncut c).toNat = k := by omega
      rw [e9] at H
      rw [h4]
      exact H
    · exfalso; omega
  | succ r ih =>
    intro k y i S h1 h3 h4 h6
    have hS : WR S := by rw [h4]; exact wr_scn (wr_cutS hW c) c k
    refine e_iload dX11_follow_78 rfl ?_
    refine e_iload_n dX11_follow_80 rfl ?_
    refine e_icmp_ge (tgt := 148) dX11_follow_81 (by decide) ⟨by omega, by omega⟩ ⟨by omega, by omega⟩ (fun c_81 => ?_) (fun c_81 => ?_)
    · exfalso; omega
    · have e40 : S 40 i = pce c k := by rw [h4, scn_o (by decide), h3]; exact cutS_40 (by omega) (by omega)
      have g40 : 0 ≤ S 40 i ∧ S 40 i ≤ 19999 := hS 40 i
      refine e_aload_n dX11_follow_84 rfl ?_
      refine m_getR (kt := (20, 20000, 33)) (by decide) dX11_follow_85 f_X11_89 hT rfl (Nat.succ_ne_zero _) (fun q_85 h_85 => ?_)
      refine e_aload_n dX11_follow_88 rfl ?_
      refine m_getR (kt := (20, 12, 40)) (by decide) dX11_follow_89 f_X11_95 hT rfl (Nat.succ_ne_zero _) (fun q_89 h_89 => ?_)
      refine e_iload dX11_follow_92 rfl ?_
      refine m_iaw (by decide) (rg_40 hS) dX11_follow_94 h_89 (by omega) (by omega) (fun g_94 => ?_)
      refine e_aload_n dX11_follow_95 rfl ?_
      refine m_getR (kt := (20, 20000, 31)) (by decide) dX11_follow_96 f_X11_83 hT rfl (Nat.succ_ne_zero _) (fun q_96 h_96 => ?_)
      refine e_aload_n dX11_follow_99 rfl ?_
      refine m_getR (kt := (20, 12, 40)) (by decide) dX11_follow_100 f_X11_95 hT rfl (Nat.succ_ne_zero _) (fun q_100 h_100 => ?_)
      refine e_iload dX11_follow_103 rfl ?_
      refine m_iaw (by decide) (rg_40 hS) dX11_follow_105 h_100 (by omega) (by omega) (fun g_105 => ?_)
      refine m_iaw (by decide) (rg_31 hS) dX11_follow_106 h_96 (by omega) (by omega) (fun g_106 => ?_)
      refine e_if_le (tgt := 129) dX11_follow_107 (by decide) ⟨by omega, by omega⟩ (fun c_107 => ?_) (fun c_107 => ?_)
      · refine e_aload_n dX11_follow_129 rfl ?_
        refine m_getR (kt := (20, 20000, 33)) (by decide) dX11_follow_130 f_X11_89 hT rfl (Nat.succ_ne_zero _) (fun q_130 h_130 => ?_)
        refine e_aload_n dX11_follow_133 rfl ?_
        refine m_getR (kt := (20, 12, 40)) (by decide) dX11_follow_134 f_X11_95 hT rfl (Nat.succ_ne_zero _) (fun q_134 h_134 => ?_)
        refine e_iload dX11_follow_137 rfl ?_
        refine m_iaw (by decide) (rg_40 hS) dX11_follow_139 h_134 (by omega) (by omega) (fun g_139 => ?_)
        refine m_iaw (by decide) (rg_33 hS) dX11_follow_140 h_130 (by omega) (by omega) (fun g_140 => ?_)
        refine m_iast (by decide) dX11_follow_141 h_85 (by omega) (by omega) ⟨by omega, by omega⟩ ?_
        refine e_iinc (ls2 := [_, _, _, _, _]) dX11_follow_142 rfl (Nat.le_of_ble_eq_true rfl) rfl ?_
        refine e_goto (tgt := 78) dX11_follow_145 (by decide) ?_
        exact ih (k + 1) _ _ _ (by omega) (by omega) (by simp only [scn, ← h4, ← e40]; first | rw [if_pos ⟨by omega, by omega⟩] | rw [if_neg (by omega)]) h6
      · refine e_aload_n dX11_follow_110 rfl ?_
        refine m_getR (kt := (20, 20000, 32)) (by decide) dX11_follow_111 f_X11_86 hT rfl (Nat.succ_ne_zero _) (fun q_111 h_111 => ?_)
        refine e_aload_n dX11_follow_114 rfl ?_
        refine m_getR (kt := (20, 12, 40)) (by decide) dX11_follow_115 f_X11_95 hT rfl (Nat.succ_ne_zero _) (fun q_115 h_115 => ?_)
        refine e_iload dX11_follow_118 rfl ?_
        refine m_iaw (by decide) (rg_40 hS) dX11_follow_120 h_115 (by omega) (by omega) (fun g_120 => ?_)
        refine m_iaw (by decide) (rg_32 hS) dX11_follow_121 h_111 (by omega) (by omega) (fun g_121 => ?_)
        refine e_if_ne (tgt := 129) dX11_follow_122 (by decide) ⟨by omega, by omega⟩ (fun c_122 => ?_) (fun c_122 => ?_)
        · refine e_aload_n dX11_follow_129 rfl ?_
          refine m_getR (kt := (20, 20000, 33)) (by decide) dX11_follow_130 f_X11_89 hT rfl (Nat.succ_ne_zero _) (fun q_130 h_130 => ?_)
          refine e_aload_n dX11_follow_133 rfl ?_
          refine m_getR (kt := (20, 12, 40)) (by decide) dX11_follow_134 f_X11_95 hT rfl (Nat.succ_ne_zero _) (fun q_134 h_134 => ?_)
          refine e_iload dX11_follow_137 rfl ?_
          refine m_iaw (by decide) (rg_40 hS) dX11_follow_139 h_134 (by omega) (by omega) (fun g_139 => ?_)
          refine m_iaw (by decide) (rg_33 hS) dX11_follow_140 h_130 (by omega) (by omega) (fun g_140 => ?_)
          refine m_iast (by decide) dX11_follow_141 h_85 (by omega) (by omega) ⟨by omega, by omega⟩ ?_
          refine e_iinc (ls2 := [_, _, _, _, _]) dX11_follow_142 rfl (Nat.le_of_ble_eq_true rfl) rfl ?_
          refine e_goto (tgt := 78) dX11_follow_145 (by decide) ?_
          exact ih (k + 1) _ _ _ (by omega) (by omega) (by simp only [scn, ← h4, ← e40]; first | rw [if_pos ⟨by omega, by omega⟩] | rw [if_neg (by omega)]) h6
        · refine e_iconst dX11_follow_125 ?_
          refine e_goto (tgt := 141) dX11_follow_126 (by decide) ?_
          refine m_iast (by decide) dX11_follow_141 h_85 (by omega) (by omega) ⟨by omega, by omega⟩ ?_
          refine e_iinc (ls2 := [_, _, _, _, _]) dX11_follow_142 rfl (Nat.le_of_ble_eq_true rfl) rfl ?_
          refine e_goto (tgt := 78) dX11_follow_145 (by decide) ?_
          exact ih (k + 1) _ _ _ (by omega) (by omega) (by simp only [scn, ← h4, ← e40]; first | rw [if_pos ⟨by omega, by omega⟩] | rw [if_neg (by omega)]) h6
set_option maxRecDepth 20000 in
set_option maxHeartbeats 4000000 in
theorem m_foll_l {K : q_K} {C : q_S} {a : Nat} (hT : K a = (12, 0, 50)) {e : Int} (he : 1 ≤ e ∧ e ≤ 120) : ∀ (r : Nat) (n : Int) (S : q_S), WR S → S 50 41 = 0 → S 50 16 - S 50 36 < r → (0 ≤ n ∧ n ≤ 120) → q_E mX11_follow 21 [some (q_R a), some (q_I e), some (q_I n), none, none] [] K S C 0 0 (e_is (some (q_I (foF e r n S).1)) K (foF e r n S).2 C) := by
  intro r
  induction r with
  | zero =>
    intro n S hS h6 h7 h4
    have g16 := rs_16 hS
    have g36 := rs_36 hS
    refine e_aload_n dX11_follow_21 rfl ?_
    refine m_getI (by decide) dX11_follow_22 f_X11_101 (Or.inl rfl) hT ?_
    have g_22 := rs_41 hS
    refine e_if_ne (tgt := 175) dX11_follow_25 (by decide) ⟨by omega, by omega⟩ (fun c_25 => ?_) (fun c_25 => ?_)
    · exfalso; omega
    · refine e_iload_n dX11_follow_28 rfl ?_
      refine e_iload_n dX11_follow_29 rfl ?_
      refine e_icmp_ge (tgt := 175) dX11_follow_30 (by decide) ⟨by omega, by omega⟩ ⟨by omega, by omega⟩ (fun c_30 => ?_) (fun c_30 => ?_)
      · refine e_iload_n dX11_follow_175 rfl ?_
        exact e_iret dX11_follow_176 (Or.inl rfl) (e_ok rfl rfl rfl)
      · refine e_aload_n dX11_follow_33 rfl ?_
        refine m_getI (by decide) dX11_follow_34 f_X11_258 (Or.inl rfl) hT ?_
        have g_34 := rs_36 hS
        refine e_aload_n dX11_follow_37 rfl ?_
        refine m_getI (by decide) dX11_follow_38 f_X11_155 (Or.inl rfl) hT ?_
        have g_38 := rs_16 hS
        refine e_icmp_ge (tgt := 175) dX11_follow_41 (by decide) ⟨by omega, by omega⟩ ⟨by omega, by omega⟩ (fun c_41 => ?_) (fun c_41 => ?_)
        · refine e_iload_n dX11_follow_175 rfl ?_
          exact e_iret dX11_follow_176 (Or.inl rfl) (e_ok rfl rfl rfl)
        · exfalso; omega
  | succ r ih =>
    intro n S hS h6 h7 h4
    have g16 := rs_16 hS
    have g36 := rs_36 hS
    simp only [foF]
    by_cases hz : e ≤ n ∨ S 50 16 ≤ S 50 36
    · rw [if_pos hz]
      refine e_aload_n dX11_follow_21 rfl ?_
      refine m_getI (by decide) dX11_follow_22 f_X11_101 (Or.inl rfl) hT ?_
      have g_22 := rs_41 hS
      refine e_if_ne (tgt := 175) dX11_follow_25 (by decide) ⟨by omega, by omega⟩ (fun c_25 => ?_) (fun c_25 => ?_)
      · exfalso; omega
      · refine e_iload_n dX11_follow_28 rfl ?_
        refine e_iload_n dX11_follow_29 rfl ?_
        refine e_icmp_ge (tgt := 175) dX11_follow_30 (by decide) ⟨by omega, by omega⟩ ⟨by omega, by omega⟩ (fun c_30 => ?_) (fun c_30 => ?_)
        · refine e_iload_n dX11_follow_175 rfl ?_
          exact e_iret dX11_follow_176 (Or.inl rfl) (e_ok rfl rfl rfl)
        · refine e_aload_n dX11_follow_33 rfl ?_
          refine m_getI (by decide) dX11_follow_34 f_X11_258 (Or.inl rfl) hT ?_
          have g_34 := rs_36 hS
          refine e_aload_n dX11_follow_37 rfl ?_
          refine m_getI (by decide) dX11_follow_38 f_X11_155 (Or.inl rfl) hT ?_
          have g_38 := rs_16 hS
          refine e_icmp_ge (tgt := 175) dX11_follow_41 (by decide) ⟨by omega, by omega⟩ ⟨by omega, by omega⟩ (fun c_41 => ?_) (fun c_41 => ?_)
          · refine e_iload_n dX11_follow_175 rfl ?_
            exact e_iret dX11_follow_176 (Or.inl rfl) (e_ok rfl rfl rfl)
          · exfalso; omega
    · rw [if_neg hz]
      have g22 : 0 ≤ S 22 (S 50 36) ∧ S 22 (S 50 36) ≤ 1 := hS 22 _
      have g21 : 0 ≤ S 21 (S 50 36) ∧ S 21 (S 50 36) ≤ 9999999999999 := hS 21 _
      by_cases hd : S 22 (S 50 36) = 1
      · have ef : foS S = q_us S 50 36 (S 50 36 + 1) := by unfold foS; rw [if_pos hd]
        have hw2 : WR (q_us S 50 36 (S 50 36 + 1)) := WR.up hS ⟨(show (0 : Int) ≤ _ by omega), (show _ ≤ (120 : Int) by omega)⟩
        rw [ef]
        have ihx := ih (n + (1 - S 22 (S 50 36))) _ hw2 h6 (by show S 50 16 - (S 50 36 + 1) < _; omega) (by omega)
        refine e_aload_n dX11_follow_21 rfl ?_
        refine m_getI (by decide) dX11_follow_22 f_X11_101 (Or.inl rfl) hT ?_
        have g_22 := rs_41 hS
        refine e_if_ne (tgt := 175) dX11_follow_25 (by decide) ⟨by omega, by omega⟩ (fun c_25 => ?_) (fun c_25 => ?_)
        · exfalso; omega
        · refine e_iload_n dX11_follow_28 rfl ?_
          refine e_iload_n dX11_follow_29 rfl ?_
          refine e_icmp_ge (tgt := 175) dX11_follow_30 (by decide) ⟨by omega, by omega⟩ ⟨by omega, by omega⟩ (fun c_30 => ?_) (fun c_30 => ?_)
          · exfalso; omega
          · refine e_aload_n dX11_follow_33 rfl ?_
            refine m_getI (by decide) dX11_follow_34 f_X11_258 (Or.inl rfl) hT ?_
            have g_34 := rs_36 hS
            refine e_aload_n dX11_follow_37 rfl ?_
            refine m_getI (by decide) dX11_follow_38 f_X11_155 (Or.inl rfl) hT ?_
            have g_38 := rs_16 hS
            refine e_icmp_ge (tgt := 175) dX11_follow_41 (by decide) ⟨by omega, by omega⟩ ⟨by omega, by omega⟩ (fun c_41 => ?_) (fun c_41 => ?_)
            · exfalso; omega
            · refine e_aload_n dX11_follow_44 rfl ?_
              refine m_getR (kt := (20, 120, 22)) (by decide) dX11_follow_45 f_X11_59 hT rfl (Nat.succ_ne_zero _) (fun q_45 h_45 => ?_)
              refine e_aload_n dX11_follow_48 rfl ?_
              refine m_getI (by decide) dX11_follow_49 f_X11_258 (Or.inl rfl) hT ?_
              have g_49 := rs_36 hS
              refine m_iaw (by decide) (rg_22 hS) dX11_follow_52 h_45 (by omega) (by omega) (fun g_52 => ?_)
              refine e_iconst dX11_follow_53 ?_
              refine e_icmp_ne (tgt := 61) dX11_follow_54 (by decide) ⟨by omega, by omega⟩ ⟨by omega, by omega⟩ (fun c_54 => ?_) (fun c_54 => ?_)
              · exfalso; omega
              · refine e_iconst dX11_follow_57 ?_
                refine e_goto (tgt := 74) dX11_follow_58 (by decide) ?_
                refine e_istore_n (ls2 := [_, _, _, _, _]) dX11_follow_74 (Nat.le_of_ble_eq_true rfl) rfl ?_
                refine e_iconst dX11_follow_75 ?_
                refine e_istore (ls2 := [_, _, _, _, _]) dX11_follow_76 (Nat.le_of_ble_eq_true rfl) rfl ?_
                refine e_iload dX11_follow_78 rfl ?_
                refine e_iload_n dX11_follow_80 rfl ?_
                refine e_icmp_ge (tgt := 148) dX11_follow_81 (by decide) ⟨by decide, by decide⟩ ⟨by decide, by decide⟩ (fun c_81 => ?_) (fun c_81 => ?_)
                · refine e_iload_n dX11_follow_148 rfl ?_
                  refine e_iconst dX11_follow_149 ?_
                  refine e_aload_n dX11_follow_150 rfl ?_
                  refine m_getR (kt := (20, 120, 22)) (by decide) dX11_follow_151 f_X11_59 hT rfl (Nat.succ_ne_zero _) (fun q_151 h_151 => ?_)
                  refine e_aload_n dX11_follow_154 rfl ?_
                  refine m_getI (by decide) dX11_follow_155 f_X11_258 (Or.inl rfl) hT ?_
                  have g_155 := rs_36 hS
                  refine m_iaw (by decide) (rg_22 hS) dX11_follow_158 h_151 (by omega) (by omega) (fun g_158 => ?_)
                  refine e_isub dX11_follow_159 ?_
                  refine e_iadd dX11_follow_160 ?_
                  refine e_istore_n (ls2 := [_, _, _, _, _]) dX11_follow_161 (Nat.le_of_ble_eq_true rfl) rfl ?_
                  refine e_aload_n dX11_follow_162 rfl ?_
                  refine e_dup dX11_follow_163 rfl ?_
                  refine m_getI (by decide) dX11_follow_164 f_X11_258 (Or.inl rfl) hT ?_
                  have g_164 := rs_36 hS
                  refine e_iconst dX11_follow_167 ?_
                  refine e_iadd dX11_follow_168 ?_
                  refine m_putI (by decide) dX11_follow_169 f_X11_258 rfl hT ⟨by omega, by omega⟩ ?_
                  refine e_goto (tgt := 21) dX11_follow_172 (by decide) ?_
                  refine e_drop (k := 3) (ls2 := [_, _, _, _, _]) rfl ?_
                  refine e_drop (k := 4) (ls2 := [_, _, _, _, _]) rfl ?_
                  exact ihx
                · exact absurd c_81 (by decide)
      · have ef : foS S = q_us (scn (cutS S (S 21 (S 50 36))) (S 21 (S 50 36)) (ncut (S 21 (S 50 36))).toNat) 50 36 (S 50 36 + 1) := by unfold foS; rw [if_neg hd]
        have hS2 : WR (scn (cutS S (S 21 (S 50 36))) (S 21 (S 50 36)) (ncut (S 21 (S 50 36))).toNat) := wr_scn (wr_cutS hS _) _ _
        have eo : ∀ t j : Int, t ≠ 33 → t ≠ 40 → (scn (cutS S (S 21 (S 50 36))) (S 21 (S 50 36)) (ncut (S 21 (S 50 36))).toNat) t j = S t j := fun t j h1 h2 => by rw [scn_o h1, cutS_o h2]
        have e36 := eo 50 36 (by decide) (by decide)
        have hw2 : WR (foS S) := by rw [ef]; exact WR.up hS2 ⟨(show (0 : Int) ≤ _ by omega), (show _ ≤ (120 : Int) by omega)⟩
        have ihx := ih (n + (1 - S 22 (S 50 36))) _ hw2 (by rw [ef]; show (scn (cutS S (S 21 (S 50 36))) (S 21 (S 50 36)) (ncut (S 21 (S 50 36))).toNat) 50 41 = 0; rw [eo 50 41 (by decide) (by decide)]; exact h6) (by rw [ef]; show (scn (cutS S (S 21 (S 50 36))) (S 21 (S 50 36)) (ncut (S 21 (S 50 36))).toNat) 50 16 - (S 50 36 + 1) < _; rw [eo 50 16 (by decide) (by decide)]; omega) (by omega)
        refine e_aload_n dX11_follow_21 rfl ?_
        refine m_getI (by decide) dX11_follow_22 f_X11_101 (Or.inl rfl) hT ?_
        have g_22 := rs_41 hS
        refine e_if_ne (tgt := 175) dX11_follow_25 (by decide) ⟨by omega, by omega⟩ (fun c_25 => ?_) (fun c_25 => ?_)
        · exfalso; omega
        · refine e_iload_n dX11_follow_28 rfl ?_
          refine e_iload_n dX11_follow_29 rfl ?_
          refine e_icmp_ge (tgt := 175) dX11_follow_30 (by decide) ⟨by omega, by omega⟩ ⟨by omega, by omega⟩ (fun c_30 => ?_) (fun c_30 => ?_)
          · exfalso; omega
          · refine e_aload_n dX11_follow_33 rfl ?_
            refine m_getI (by decide) dX11_follow_34 f_X11_258 (Or.inl rfl) hT ?_
            have g_34 := rs_36 hS
            refine e_aload_n dX11_follow_37 rfl ?_
            refine m_getI (by decide) dX11_follow_38 f_X11_155 (Or.inl rfl) hT ?_
            have g_38 := rs_16 hS
            refine e_icmp_ge (tgt := 175) dX11_follow_41 (by decide) ⟨by omega, by omega⟩ ⟨by omega, by omega⟩ (fun c_41 => ?_) (fun c_41 => ?_)
            · exfalso; omega
            · refine e_aload_n dX11_follow_44 rfl ?_
              refine m_getR (kt := (20, 120, 22)) (by decide) dX11_follow_45 f_X11_59 hT rfl (Nat.succ_ne_zero _) (fun q_45 h_45 => ?_)
              refine e_aload_n dX11_follow_48 rfl ?_
              refine m_getI (by decide) dX11_follow_49 f_X11_258 (Or.inl rfl) hT ?_
              have g_49 := rs_36 hS
              refine m_iaw (by decide) (rg_22 hS) dX11_follow_52 h_45 (by omega) (by omega) (fun g_52 => ?_)
              refine e_iconst dX11_follow_53 ?_
              refine e_icmp_ne (tgt := 61) dX11_follow_54 (by decide) ⟨by omega, by omega⟩ ⟨by omega, by omega⟩ (fun c_54 => ?_) (fun c_54 => ?_)
              · refine e_aload_n dX11_follow_61 rfl ?_
                refine e_aload_n dX11_follow_62 rfl ?_
                refine m_getR (kt := (21, 120, 21)) (by decide) dX11_follow_63 f_X11_56 hT rfl (Nat.succ_ne_zero _) (fun q_63 h_63 => ?_)
                refine e_aload_n dX11_follow_66 rfl ?_
                refine m_getI (by decide) dX11_follow_67 f_X11_258 (Or.inl rfl) hT ?_
                have g_67 := rs_36 hS
                refine m_law (by decide) (rg_21 hS) dX11_follow_70 h_63 (by omega) (by omega) (fun g_70 => ?_)
                refine e_cV (as := [_]) (ci := 11) dX11_follow_71 k_X11_cuts l_X11_202 i_X11_cuts v_X11_cuts hT rfl (by decide) ⟨_, _, rfl⟩ rfl rfl rfl rfl (Nat.le_of_ble_eq_true rfl) ⟨by decide, by decide⟩ (Nat.le_of_ble_eq_true rfl) (by decide) (m_cuts hT hS g21) ?_
                refine e_istore_n (ls2 := [_, _, _, _, _]) dX11_follow_74 (Nat.le_of_ble_eq_true rfl) rfl ?_
                refine e_iconst dX11_follow_75 ?_
                refine e_istore (ls2 := [_, _, _, _, _]) dX11_follow_76 (Nat.le_of_ble_eq_true rfl) rfl ?_
                refine m_foll_i hT hS g21 ?_ (ncut (S 21 (S 50 36))).toNat 0 _ _ _ (by have := (ncut_rg (S 21 (S 50 36))).1; omega) rfl rfl rfl
                refine e_iload_n dX11_follow_148 rfl ?_
                refine e_iconst dX11_follow_149 ?_
                refine e_aload_n dX11_follow_150 rfl ?_
                refine m_getR (kt := (20, 120, 22)) (by decide) dX11_follow_151 f_X11_59 hT rfl (Nat.succ_ne_zero _) (fun q_151 h_151 => ?_)
                refine e_aload_n dX11_follow_154 rfl ?_
                refine m_getI (by decide) dX11_follow_155 f_X11_258 (Or.inl rfl) hT ?_
                have g_155 := rs_36 hS2
                refine m_iaw (by decide) (rg_22 hS2) dX11_follow_158 h_151 (by omega) (by omega) (fun g_158 => ?_)
                refine e_isub dX11_follow_159 ?_
                refine e_iadd dX11_follow_160 ?_
                refine e_istore_n (ls2 := [_, _, _, _, _]) dX11_follow_161 (Nat.le_of_ble_eq_true rfl) rfl ?_
                refine e_aload_n dX11_follow_162 rfl ?_
                refine e_dup dX11_follow_163 rfl ?_
                refine m_getI (by decide) dX11_follow_164 f_X11_258 (Or.inl rfl) hT ?_
                have g_164 := rs_36 hS2
                refine e_iconst dX11_follow_167 ?_
                refine e_iadd dX11_follow_168 ?_
                refine m_putI (by decide) dX11_follow_169 f_X11_258 rfl hT ⟨by omega, by omega⟩ ?_
                refine e_goto (tgt := 21) dX11_follow_172 (by decide) ?_
                rw [eo 50 36 (by decide) (by decide), eo 22 _ (by decide) (by decide), ← ef]
                exact ihx
              · exfalso; omega
set_option maxRecDepth 20000 in
set_option maxHeartbeats 4000000 in
theorem m_follow {K : q_K} {M C : q_S} {a : Nat} (hT : K a = (12, 0, 50)) (hW : WR M) {e : Int} (he : q_iI e) : q_E mX11_follow 0 [some (q_R a), some (q_I e), none, none, none] [] K M C 0 0 (e_is (some (q_I (followF M e).1)) K (followF M e).2 C) := by
  have g16 := rs_16 hW
  have g36 := rs_36 hW
  by_cases e0 : ¬ (1 ≤ e ∧ e ≤ 120)
  · refine e_aload_n dX11_follow_0 rfl ?_
    refine e_iload_n dX11_follow_1 rfl ?_
    refine e_iconst dX11_follow_2 ?_
    refine e_bipush dX11_follow_3 (by decide) ?_
    refine e_cS (as := [_, _, _]) dX11_follow_5 k_X11_in l_X11_105 s_X11_in rfl rfl rfl rfl (Nat.le_of_ble_eq_true rfl) ⟨by decide, by decide⟩ (Nat.le_of_ble_eq_true rfl) (by decide) (m_in (by first | assumption | exact ⟨by decide, by decide⟩ | exact ⟨by omega, by omega⟩) (by first | assumption | exact ⟨by decide, by decide⟩ | exact ⟨by omega, by omega⟩) (by first | assumption | exact ⟨by decide, by decide⟩ | exact ⟨by omega, by omega⟩)) ?_
    refine e_if_eq (tgt := 15) dX11_follow_8 (by decide) bi_iI (fun c_8 => ?_) (fun c_8 => ?_)
    · simp only [bi_z, Classical.not_not] at c_8
      refine e_iconst dX11_follow_15 ?_
      refine m_putI (by decide) dX11_follow_16 f_X11_101 rfl hT ⟨by omega, by omega⟩ ?_
      refine e_iconst dX11_follow_19 ?_
      refine e_istore_n (ls2 := [_, _, _, _, _]) dX11_follow_20 (Nat.le_of_ble_eq_true rfl) rfl ?_
      refine e_aload_n dX11_follow_21 rfl ?_
      refine m_getI (by decide) dX11_follow_22 f_X11_101 (Or.inl rfl) hT ?_
      simp only [q_us_ap, editsF_3, Int.reduceEq, Int.reduceNeg, false_and, and_false, and_self, if_true, if_false, true_and, and_true, ite_self]
      have g_22 := rs_41 hW
      refine e_if_ne (tgt := 175) dX11_follow_25 (by decide) ⟨by decide, by decide⟩ (fun c_25 => ?_) (fun c_25 => ?_)
      · refine e_iload_n dX11_follow_175 rfl ?_
        exact e_iret dX11_follow_176 (Or.inl rfl) (e_ok (by unfold followF; rw [if_pos e0]) (by unfold followF; rw [if_pos e0]) rfl)
      · exact absurd c_25 (by decide)
    · simp only [bi_z, Classical.not_not] at c_8
      exfalso; omega
  ·
    refine e_aload_n dX11_follow_0 rfl ?_
    refine e_iload_n dX11_follow_1 rfl ?_
    refine e_iconst dX11_follow_2 ?_
    refine e_bipush dX11_follow_3 (by decide) ?_
    refine e_cS (as := [_, _, _]) dX11_follow_5 k_X11_in l_X11_105 s_X11_in rfl rfl rfl rfl (Nat.le_of_ble_eq_true rfl) ⟨by decide, by decide⟩ (Nat.le_of_ble_eq_true rfl) (by decide) (m_in (by first | assumption | exact ⟨by decide, by decide⟩ | exact ⟨by omega, by omega⟩) (by first | assumption | exact ⟨by decide, by decide⟩ | exact ⟨by omega, by omega⟩) (by first | assumption | exact ⟨by decide, by decide⟩ | exact ⟨by omega, by omega⟩)) ?_
    refine e_if_eq (tgt := 15) dX11_follow_8 (by decide) bi_iI (fun c_8 => ?_) (fun c_8 => ?_)
    · simp only [bi_z, Classical.not_not] at c_8
      exfalso; omega
    · simp only [bi_z, Classical.not_not] at c_8
      refine e_iconst dX11_follow_11 ?_
      refine e_goto (tgt := 16) dX11_follow_12 (by decide) ?_
      refine m_putI (by decide) dX11_follow_16 f_X11_101 rfl hT ⟨by omega, by omega⟩ ?_
      refine e_iconst dX11_follow_19 ?_
      refine e_istore_n (ls2 := [_, _, _, _, _]) dX11_follow_20 (Nat.le_of_ble_eq_true rfl) rfl ?_
      have := m_foll_l (C := C) hT (Classical.not_not.mp e0) (M 50 16 - M 50 36 + 1).toNat 0 (thr M 0) (WR.up hW ⟨by decide, by decide⟩) rfl (by show M 50 16 - M 50 36 < _; omega) ⟨by decide, by decide⟩
      unfold followF; rw [if_neg e0]; exact this
theorem smB_rg (M : q_S) (t : Int) : ∀ n : Nat, 0 ≤ smB M t n ∧ smB M t n ≤ n := by
  intro n
  induction n with
  | zero => exact ⟨Int.le_refl _, Int.le_refl _⟩
  | succ n ih => simp only [smB]; split <;> omega
theorem sm_rg {M : q_S} (h : WR M) (t : Int) (ht : t = 32 ∨ t = 33) : ∀ n : Nat, 0 ≤ sm M t n ∧ sm M t n ≤ n := by
  intro n
  have g : ∀ k, 0 ≤ M t k ∧ M t k ≤ 1 := by intro k; rcases ht with rfl | rfl <;> exact h _ k
  induction n with
  | zero => exact ⟨Int.le_refl _, Int.le_refl _⟩
  | succ n ih => simp only [sm]; have := g n; omega
theorem dueF_rg {M : q_S} (h : WR M) : ∀ n : Nat, 0 ≤ dueF M n ∧ dueF M n ≤ n := by
  intro n
  induction n with
  | zero => exact ⟨Int.le_refl _, Int.le_refl _⟩
  | succ n ih => simp only [dueF]; have : 0 ≤ M 22 (M 50 36 + n) ∧ M 22 (M 50 36 + n) ≤ 1 := h 22 _; omega
set_option maxRecDepth 20000 in
set_option maxHeartbeats 4000000 in
theorem m_count_1 {K : q_K} {M C : q_S} {a : Nat} (hT : K a = (12, 0, 50)) (hW : WR M) {Q : q_Q2} {w : Int} (h41 : M 50 41 = 0) (H : q_E mX11_count 90 [some (q_R a), some (q_I w), some (q_I (smB M 31 20000)), some (q_I (sm M 32 20000)), some (q_I (sm M 33 20000)), none, none, none] [] K M C 0 0 (Q)) : ∀ (r k : Nat) (x y z i : Int), (k + r = 20000) → (x = smB M 31 k) → (y = sm M 32 k) → (z = sm M 33 k) → (i = k) → q_E mX11_count 29 [some (q_R a), some (q_I w), some (q_I x), some (q_I y), some (q_I z), some (q_I i), none, none] [] K M C 0 0 (Q) := by
  intro r
  induction r with
  | zero =>
    intro k x y z i h1 h2 h3 h4 h5
    refine e_iload dX11_count_29 rfl ?_
    refine e_sipush dX11_count_31 (by decide) ?_
    refine e_icmp_ge (tgt := 90) dX11_count_34 (by decide) ⟨by omega, by omega⟩ ⟨by omega, by omega⟩ (fun c_34 => ?_) (fun c_34 => ?_)
    · refine e_drop (k := 5) (ls2 := [_, _, _, _, _, _, _, _]) rfl ?_
      have e9 : k = 20000 := by omega
      subst e9
      rw [h2, h3, h4]
      exact H
    · exfalso; omega
  | succ r ih =>
    intro k x y z i h1 h2 h3 h4 h5
    have r1 := smB_rg M 31 k
    have r2 := sm_rg hW 32 (Or.inl rfl) k
    have r3 := sm_rg hW 33 (Or.inr rfl) k
    refine e_iload dX11_count_29 rfl ?_
    refine e_sipush dX11_count_31 (by decide) ?_
    refine e_icmp_ge (tgt := 90) dX11_count_34 (by decide) ⟨by omega, by omega⟩ ⟨by omega, by omega⟩ (fun c_34 => ?_) (fun c_34 => ?_)
    · exfalso; omega
    · refine e_aload_n dX11_count_37 rfl ?_
      refine m_getI (by decide) dX11_count_38 f_X11_101 (Or.inl rfl) hT ?_
      have g_38 := rs_41 hW
      refine e_if_ne (tgt := 90) dX11_count_41 (by decide) ⟨by omega, by omega⟩ (fun c_41 => ?_) (fun c_41 => ?_)
      · exfalso; omega
      · refine e_iload_n dX11_count_44 rfl ?_
        refine e_aload_n dX11_count_45 rfl ?_
        refine m_getR (kt := (20, 20000, 31)) (by decide) dX11_count_46 f_X11_83 hT rfl (Nat.succ_ne_zero _) (fun q_46 h_46 => ?_)
        refine e_iload dX11_count_49 rfl ?_
        refine m_iaw (by decide) (rg_31 hW) dX11_count_51 h_46 (by omega) (by omega) (fun g_51 => ?_)
        refine e_if_le (tgt := 59) dX11_count_52 (by decide) ⟨by omega, by omega⟩ (fun c_52 => ?_) (fun c_52 => ?_)
        · refine e_iconst dX11_count_59 ?_
          refine e_iadd dX11_count_60 ?_
          refine e_istore_n (ls2 := [_, _, _, _, _, _, _, _]) dX11_count_61 (Nat.le_of_ble_eq_true rfl) rfl ?_
          refine e_iload_n dX11_count_62 rfl ?_
          refine e_aload_n dX11_count_63 rfl ?_
          refine m_getR (kt := (20, 20000, 32)) (by decide) dX11_count_64 f_X11_86 hT rfl (Nat.succ_ne_zero _) (fun q_64 h_64 => ?_)
          refine e_iload dX11_count_67 rfl ?_
          refine m_iaw (by decide) (rg_32 hW) dX11_count_69 h_64 (by omega) (by omega) (fun g_69 => ?_)
          refine e_iadd dX11_count_70 ?_
          refine e_istore_n (ls2 := [_, _, _, _, _, _, _, _]) dX11_count_71 (Nat.le_of_ble_eq_true rfl) rfl ?_
          refine e_iload dX11_count_72 rfl ?_
          refine e_aload_n dX11_count_74 rfl ?_
          refine m_getR (kt := (20, 20000, 33)) (by decide) dX11_count_75 f_X11_89 hT rfl (Nat.succ_ne_zero _) (fun q_75 h_75 => ?_)
          refine e_iload dX11_count_78 rfl ?_
          refine m_iaw (by decide) (rg_33 hW) dX11_count_80 h_75 (by omega) (by omega) (fun g_80 => ?_)
          refine e_iadd dX11_count_81 ?_
          refine e_istore (ls2 := [_, _, _, _, _, _, _, _]) dX11_count_82 (Nat.le_of_ble_eq_true rfl) rfl ?_
          refine e_iinc (ls2 := [_, _, _, _, _, _, _, _]) dX11_count_84 rfl (Nat.le_of_ble_eq_true rfl) rfl ?_
          refine e_goto (tgt := 29) dX11_count_87 (by decide) ?_
          exact ih (k + 1) _ _ _ _ (by omega) (by simp only [smB, ← h2, ← h5]; first | rw [if_pos (by omega)] | rw [if_neg (by omega)]) (by simp only [sm, ← h3, ← h5]) (by simp only [sm, ← h4, ← h5]) (by omega)
        · refine e_iconst dX11_count_55 ?_
          refine e_goto (tgt := 60) dX11_count_56 (by decide) ?_
          refine e_iadd dX11_count_60 ?_
          refine e_istore_n (ls2 := [_, _, _, _, _, _, _, _]) dX11_count_61 (Nat.le_of_ble_eq_true rfl) rfl ?_
          refine e_iload_n dX11_count_62 rfl ?_
          refine e_aload_n dX11_count_63 rfl ?_
          refine m_getR (kt := (20, 20000, 32)) (by decide) dX11_count_64 f_X11_86 hT rfl (Nat.succ_ne_zero _) (fun q_64 h_64 => ?_)
          refine e_iload dX11_count_67 rfl ?_
          refine m_iaw (by decide) (rg_32 hW) dX11_count_69 h_64 (by omega) (by omega) (fun g_69 => ?_)
          refine e_iadd dX11_count_70 ?_
          refine e_istore_n (ls2 := [_, _, _, _, _, _, _, _]) dX11_count_71 (Nat.le_of_ble_eq_true rfl) rfl ?_
          refine e_iload dX11_count_72 rfl ?_
          refine e_aload_n dX11_count_74 rfl ?_
          refine m_getR (kt := (20, 20000, 33)) (by decide) dX11_count_75 f_X11_89 hT rfl (Nat.succ_ne_zero _) (fun q_75 h_75 => ?_)
          refine e_iload dX11_count_78 rfl ?_
          refine m_iaw (by decide) (rg_33 hW) dX11_count_80 h_75 (by omega) (by omega) (fun g_80 => ?_)
          refine e_iadd dX11_count_81 ?_
          refine e_istore (ls2 := [_, _, _, _, _, _, _, _]) dX11_count_82 (Nat.le_of_ble_eq_true rfl) rfl ?_
          refine e_iinc (ls2 := [_, _, _, _, _, _, _, _]) dX11_count_84 rfl (Nat.le_of_ble_eq_true rfl) rfl ?_
          refine e_goto (tgt := 29) dX11_count_87 (by decide) ?_
          exact ih (k + 1) _ _ _ _ (by omega) (by simp only [smB, ← h2, ← h5]; first | rw [if_pos (by omega)] | rw [if_neg (by omega)]) (by simp only [sm, ← h3, ← h5]) (by simp only [sm, ← h4, ← h5]) (by omega)
def cvF (M : q_S) (w x y z : Int) : Int := if w = 0 then x else if w = 1 then M 50 34 else if w = 2 then y else if w = 3 then z else if w = 4 then dueF M (M 50 16 - M 50 36).toNat else if w = 5 then M 50 37 else if w = 6 then M 50 38 else M 50 39
set_option maxRecDepth 20000 in
set_option maxHeartbeats 4000000 in
theorem m_count_2 {K : q_K} {M C : q_S} {a : Nat} (hT : K a = (12, 0, 50)) (hW : WR M) {w x y z : Int} (hw : 0 ≤ w ∧ w ≤ 7) (hx : q_iI x) (hy : q_iI y) (hz : q_iI z) (h41 : M 50 41 = 0) : ∀ (r k : Nat) (d i : Int), (k + r = (M 50 16 - M 50 36).toNat) → (d = dueF M k) → (i = M 50 36 + k) → q_E mX11_count 99 [some (q_R a), some (q_I w), some (q_I x), some (q_I y), some (q_I z), some (q_I d), some (q_I i), none] [] K M C 0 0 (e_is (some (q_I (cvF M w x y z))) K M C) := by
  intro r
  induction r with
  | zero =>
    intro k d i h1 h2 h3
    have g16 := rs_16 hW
    have g36 := rs_36 hW
    have gd := dueF_rg hW (M 50 16 - M 50 36).toNat
    refine e_iload dX11_count_99 rfl ?_
    refine e_aload_n dX11_count_101 rfl ?_
    refine m_getI (by decide) dX11_count_102 f_X11_155 (Or.inl rfl) hT ?_
    have g_102 := rs_16 hW
    refine e_icmp_ge (tgt := 128) dX11_count_105 (by decide) ⟨by omega, by omega⟩ ⟨by omega, by omega⟩ (fun c_105 => ?_) (fun c_105 => ?_)
    · refine e_drop (k := 6) (ls2 := [_, _, _, _, _, _, _, _]) rfl ?_
      have e9 : (M 50 16 - M 50 36).toNat = k := by omega
      rw [h2, ← e9]
      refine e_iload_n dX11_count_128 rfl ?_
      refine e_if_ne (tgt := 136) dX11_count_129 (by decide) ⟨by omega, by omega⟩ (fun c_129 => ?_) (fun c_129 => ?_)
      · refine e_iload_n dX11_count_136 rfl ?_
        refine e_iconst dX11_count_137 ?_
        refine e_icmp_ne (tgt := 148) dX11_count_138 (by decide) ⟨by omega, by omega⟩ ⟨by omega, by omega⟩ (fun c_138 => ?_) (fun c_138 => ?_)
        · refine e_iload_n dX11_count_148 rfl ?_
          refine e_iconst dX11_count_149 ?_
          refine e_icmp_ne (tgt := 157) dX11_count_150 (by decide) ⟨by omega, by omega⟩ ⟨by omega, by omega⟩ (fun c_150 => ?_) (fun c_150 => ?_)
          · refine e_iload dX11_count_157 rfl ?_
            refine e_istore (ls2 := [_, _, _, _, _, _, _, _]) dX11_count_159 (Nat.le_of_ble_eq_true rfl) rfl ?_
            refine e_iload_n dX11_count_161 rfl ?_
            refine e_iconst dX11_count_162 ?_
            refine e_icmp_ne (tgt := 171) dX11_count_163 (by decide) ⟨by omega, by omega⟩ ⟨by omega, by omega⟩ (fun c_163 => ?_) (fun c_163 => ?_)
            · refine e_iload_n dX11_count_171 rfl ?_
              refine e_iconst dX11_count_172 ?_
              refine e_icmp_ne (tgt := 183) dX11_count_173 (by decide) ⟨by omega, by omega⟩ ⟨by omega, by omega⟩ (fun c_173 => ?_) (fun c_173 => ?_)
              · refine e_iload_n dX11_count_183 rfl ?_
                refine e_bipush dX11_count_184 (by decide) ?_
                refine e_icmp_ne (tgt := 196) dX11_count_186 (by decide) ⟨by omega, by omega⟩ ⟨by omega, by omega⟩ (fun c_186 => ?_) (fun c_186 => ?_)
                · refine e_aload_n dX11_count_196 rfl ?_
                  refine m_getI (by decide) dX11_count_197 f_X11_199 (Or.inl rfl) hT ?_
                  have g_197 := rs_39 hW
                  refine e_istore (ls2 := [_, _, _, _, _, _, _, _]) dX11_count_200 (Nat.le_of_ble_eq_true rfl) rfl ?_
                  refine e_aload_n dX11_count_202 rfl ?_
                  refine m_getI (by decide) dX11_count_203 f_X11_101 (Or.inl rfl) hT ?_
                  have g_203 := rs_41 hW
                  refine e_if_le (tgt := 213) dX11_count_206 (by decide) ⟨by omega, by omega⟩ (fun c_206 => ?_) (fun c_206 => ?_)
                  · refine e_iload_n dX11_count_213 rfl ?_
                    refine e_iconst dX11_count_214 ?_
                    refine e_icmp_ge (tgt := 223) dX11_count_215 (by decide) ⟨by omega, by omega⟩ ⟨by omega, by omega⟩ (fun c_215 => ?_) (fun c_215 => ?_)
                    · refine e_iload dX11_count_223 rfl ?_
                      refine e_iret dX11_count_225 (Or.inl rfl) ?_
                      unfold cvF
                      repeat' split
                      all_goals first | exact e_ok rfl rfl rfl | (exfalso; omega)
                    · refine e_iload dX11_count_218 rfl ?_
                      refine e_goto (tgt := 225) dX11_count_220 (by decide) ?_
                      refine e_iret dX11_count_225 (Or.inl rfl) ?_
                      unfold cvF
                      repeat' split
                      all_goals first | exact e_ok rfl rfl rfl | (exfalso; omega)
                  · exfalso; omega
                · refine e_aload_n dX11_count_189 rfl ?_
                  refine m_getI (by decide) dX11_count_190 f_X11_173 (Or.inl rfl) hT ?_
                  have g_190 := rs_38 hW
                  refine e_goto (tgt := 200) dX11_count_193 (by decide) ?_
                  refine e_istore (ls2 := [_, _, _, _, _, _, _, _]) dX11_count_200 (Nat.le_of_ble_eq_true rfl) rfl ?_
                  refine e_aload_n dX11_count_202 rfl ?_
                  refine m_getI (by decide) dX11_count_203 f_X11_101 (Or.inl rfl) hT ?_
                  have g_203 := rs_41 hW
                  refine e_if_le (tgt := 213) dX11_count_206 (by decide) ⟨by omega, by omega⟩ (fun c_206 => ?_) (fun c_206 => ?_)
                  · refine e_iload_n dX11_count_213 rfl ?_
                    refine e_iconst dX11_count_214 ?_
                    refine e_icmp_ge (tgt := 223) dX11_count_215 (by decide) ⟨by omega, by omega⟩ ⟨by omega, by omega⟩ (fun c_215 => ?_) (fun c_215 => ?_)
                    · refine e_iload dX11_count_223 rfl ?_
                      refine e_iret dX11_count_225 (Or.inl rfl) ?_
                      unfold cvF
                      repeat' split
                      all_goals first | exact e_ok rfl rfl rfl | (exfalso; omega)
                    · refine e_iload dX11_count_218 rfl ?_
                      refine e_goto (tgt := 225) dX11_count_220 (by decide) ?_
                      refine e_iret dX11_count_225 (Or.inl rfl) ?_
                      unfold cvF
                      repeat' split
                      all_goals first | exact e_ok rfl rfl rfl | (exfalso; omega)
                  · exfalso; omega
              · refine e_aload_n dX11_count_176 rfl ?_
                refine m_getI (by decide) dX11_count_177 f_X11_190 (Or.inl rfl) hT ?_
                have g_177 := rs_37 hW
                refine e_goto (tgt := 200) dX11_count_180 (by decide) ?_
                refine e_istore (ls2 := [_, _, _, _, _, _, _, _]) dX11_count_200 (Nat.le_of_ble_eq_true rfl) rfl ?_
                refine e_aload_n dX11_count_202 rfl ?_
                refine m_getI (by decide) dX11_count_203 f_X11_101 (Or.inl rfl) hT ?_
                have g_203 := rs_41 hW
                refine e_if_le (tgt := 213) dX11_count_206 (by decide) ⟨by omega, by omega⟩ (fun c_206 => ?_) (fun c_206 => ?_)
                · refine e_iload_n dX11_count_213 rfl ?_
                  refine e_iconst dX11_count_214 ?_
                  refine e_icmp_ge (tgt := 223) dX11_count_215 (by decide) ⟨by omega, by omega⟩ ⟨by omega, by omega⟩ (fun c_215 => ?_) (fun c_215 => ?_)
                  · refine e_iload dX11_count_223 rfl ?_
                    refine e_iret dX11_count_225 (Or.inl rfl) ?_
                    unfold cvF
                    repeat' split
                    all_goals first | exact e_ok rfl rfl rfl | (exfalso; omega)
                  · refine e_iload dX11_count_218 rfl ?_
                    refine e_goto (tgt := 225) dX11_count_220 (by decide) ?_
                    refine e_iret dX11_count_225 (Or.inl rfl) ?_
                    unfold cvF
                    repeat' split
                    all_goals first | exact e_ok rfl rfl rfl | (exfalso; omega)
                · exfalso; omega
            · refine e_iload dX11_count_166 rfl ?_
              refine e_goto (tgt := 200) dX11_count_168 (by decide) ?_
              refine e_istore (ls2 := [_, _, _, _, _, _, _, _]) dX11_count_200 (Nat.le_of_ble_eq_true rfl) rfl ?_
              refine e_aload_n dX11_count_202 rfl ?_
              refine m_getI (by decide) dX11_count_203 f_X11_101 (Or.inl rfl) hT ?_
              have g_203 := rs_41 hW
              refine e_if_le (tgt := 213) dX11_count_206 (by decide) ⟨by omega, by omega⟩ (fun c_206 => ?_) (fun c_206 => ?_)
              · refine e_iload_n dX11_count_213 rfl ?_
                refine e_iconst dX11_count_214 ?_
                refine e_icmp_ge (tgt := 223) dX11_count_215 (by decide) ⟨by omega, by omega⟩ ⟨by omega, by omega⟩ (fun c_215 => ?_) (fun c_215 => ?_)
                · refine e_iload dX11_count_223 rfl ?_
                  refine e_iret dX11_count_225 (Or.inl rfl) ?_
                  unfold cvF
                  repeat' split
                  all_goals first | exact e_ok rfl rfl rfl | (exfalso; omega)
                · refine e_iload dX11_count_218 rfl ?_
                  refine e_goto (tgt := 225) dX11_count_220 (by decide) ?_
                  refine e_iret dX11_count_225 (Or.inl rfl) ?_
                  unfold cvF
                  repeat' split
                  all_goals first | exact e_ok rfl rfl rfl | (exfalso; omega)
              · exfalso; omega
          · refine e_iload_n dX11_count_153 rfl ?_
            refine e_goto (tgt := 159) dX11_count_154 (by decide) ?_
            refine e_istore (ls2 := [_, _, _, _, _, _, _, _]) dX11_count_159 (Nat.le_of_ble_eq_true rfl) rfl ?_
            refine e_iload_n dX11_count_161 rfl ?_
            refine e_iconst dX11_count_162 ?_
            refine e_icmp_ne (tgt := 171) dX11_count_163 (by decide) ⟨by omega, by omega⟩ ⟨by omega, by omega⟩ (fun c_163 => ?_) (fun c_163 => ?_)
            · refine e_iload_n dX11_count_171 rfl ?_
              refine e_iconst dX11_count_172 ?_
              refine e_icmp_ne (tgt := 183) dX11_count_173 (by decide) ⟨by omega, by omega⟩ ⟨by omega, by omega⟩ (fun c_173 => ?_) (fun c_173 => ?_)
              · refine e_iload_n dX11_count_183 rfl ?_
                refine e_bipush dX11_count_184 (by decide) ?_
                refine e_icmp_ne (tgt := 196) dX11_count_186 (by decide) ⟨by omega, by omega⟩ ⟨by omega, by omega⟩ (fun c_186 => ?_) (fun c_186 => ?_)
                · refine e_aload_n dX11_count_196 rfl ?_
                  refine m_getI (by decide) dX11_count_197 f_X11_199 (Or.inl rfl) hT ?_
                  have g_197 := rs_39 hW
                  refine e_istore (ls2 := [_, _, _, _, _, _, _, _]) dX11_count_200 (Nat.le_of_ble_eq_true rfl) rfl ?_
                  refine e_aload_n dX11_count_202 rfl ?_
                  refine m_getI (by decide) dX11_count_203 f_X11_101 (Or.inl rfl) hT ?_
                  have g_203 := rs_41 hW
                  refine e_if_le (tgt := 213) dX11_count_206 (by decide) ⟨by omega, by omega⟩ (fun c_206 => ?_) (fun c_206 => ?_)
                  · refine e_iload_n dX11_count_213 rfl ?_
                    refine e_iconst dX11_count_214 ?_
                    refine e_icmp_ge (tgt := 223) dX11_count_215 (by decide) ⟨by omega, by omega⟩ ⟨by omega, by omega⟩ (fun c_215 => ?_) (fun c_215 => ?_)
                    · refine e_iload dX11_count_223 rfl ?_
                      refine e_iret dX11_count_225 (Or.inl rfl) ?_
                      unfold cvF
                      repeat' split
                      all_goals first | exact e_ok rfl rfl rfl | (exfalso; omega)
                    · refine e_iload dX11_count_218 rfl ?_
                      refine e_goto (tgt := 225) dX11_count_220 (by decide) ?_
                      refine e_iret dX11_count_225 (Or.inl rfl) ?_
                      unfold cvF
                      repeat' split
                      all_goals first | exact e_ok rfl rfl rfl | (exfalso; omega)
                  · exfalso; omega
                · refine e_aload_n dX11_count_189 rfl ?_
                  refine m_getI (by decide) dX11_count_190 f_X11_173 (Or.inl rfl) hT ?_
                  have g_190 := rs_38 hW
                  refine e_goto (tgt := 200) dX11_count_193 (by decide) ?_
                  refine e_istore (ls2 := [_, _, _, _, _, _, _, _]) dX11_count_200 (Nat.le_of_ble_eq_true rfl) rfl ?_
                  refine e_aload_n dX11_count_202 rfl ?_
                  refine m_getI (by decide) dX11_count_203 f_X11_101 (Or.inl rfl) hT ?_
                  have g_203 := rs_41 hW
                  refine e_if_le (tgt := 213) dX11_count_206 (by decide) ⟨by omega, by omega⟩ (fun c_206 => ?_) (fun c_206 => ?_)
                  · refine e_iload_n dX11_count_213 rfl ?_
                    refine e_iconst dX11_count_214 ?_
                    refine e_icmp_ge (tgt := 223) dX11_count_215 (by decide) ⟨by omega, by omega⟩ ⟨by omega, by omega⟩ (fun c_215 => ?_) (fun c_215 => ?_)
                    · refine e_iload dX11_count_223 rfl ?_
                      refine e_iret dX11_count_225 (Or.inl rfl) ?_
                      unfold cvF
                      repeat' split
                      all_goals first | exact e_ok rfl rfl rfl | (exfalso; omega)
                    · refine e_iload dX11_count_218 rfl ?_
                      refine e_goto (tgt := 225) dX11_count_220 (by decide) ?_
                      refine e_iret dX11_count_225 (Or.inl rfl) ?_
                      unfold cvF
                      repeat' split
                      all_goals first | exact e_ok rfl rfl rfl | (exfalso; omega)
                  · exfalso; omega
              · refine e_aload_n dX11_count_176 rfl ?_
                refine m_getI (by decide) dX11_count_177 f_X11_190 (Or.inl rfl) hT ?_
                have g_177 := rs_37 hW
                refine e_goto (tgt := 200) dX11_count_180 (by decide) ?_
                refine e_istore (ls2 := [_, _, _, _, _, _, _, _]) dX11_count_200 (Nat.le_of_ble_eq_true rfl) rfl ?_
                refine e_aload_n dX11_count_202 rfl ?_
                refine m_getI (by decide) dX11_count_203 f_X11_101 (Or.inl rfl) hT ?_
                have g_203 := rs_41 hW
                refine e_if_le (tgt := 213) dX11_count_206 (by decide) ⟨by omega, by omega⟩ (fun c_206 => ?_) (fun c_206 => ?_)
                · refine e_iload_n dX11_count_213 rfl ?_
                  refine e_iconst dX11_count_214 ?_
                  refine e_icmp_ge (tgt := 223) dX11_count_215 (by decide) ⟨by omega, by omega⟩ ⟨by omega, by omega⟩ (fun c_215 => ?_) (fun c_215 => ?_)
                  · refine e_iload dX11_count_223 rfl ?_
                    refine e_iret dX11_count_225 (Or.inl rfl) ?_
                    unfold cvF
                    repeat' split
                    all_goals first | exact e_ok rfl rfl rfl | (exfalso; omega)
                  · refine e_iload dX11_count_218 rfl ?_
                    refine e_goto (tgt := 225) dX11_count_220 (by decide) ?_
                    refine e_iret dX11_count_225 (Or.inl rfl) ?_
                    unfold cvF
                    repeat' split
                    all_goals first | exact e_ok rfl rfl rfl | (exfalso; omega)
                · exfalso; omega
            · refine e_iload dX11_count_166 rfl ?_
              refine e_goto (tgt := 200) dX11_count_168 (by decide) ?_
              refine e_istore (ls2 := [_, _, _, _, _, _, _, _]) dX11_count_200 (Nat.le_of_ble_eq_true rfl) rfl ?_
              refine e_aload_n dX11_count_202 rfl ?_
              refine m_getI (by decide) dX11_count_203 f_X11_101 (Or.inl rfl) hT ?_
              have g_203 := rs_41 hW
              refine e_if_le (tgt := 213) dX11_count_206 (by decide) ⟨by omega, by omega⟩ (fun c_206 => ?_) (fun c_206 => ?_)
              · refine e_iload_n dX11_count_213 rfl ?_
                refine e_iconst dX11_count_214 ?_
                refine e_icmp_ge (tgt := 223) dX11_count_215 (by decide) ⟨by omega, by omega⟩ ⟨by omega, by omega⟩ (fun c_215 => ?_) (fun c_215 => ?_)
                · refine e_iload dX11_count_223 rfl ?_
                  refine e_iret dX11_count_225 (Or.inl rfl) ?_
                  unfold cvF
                  repeat' split
                  all_goals first | exact e_ok rfl rfl rfl | (exfalso; omega)
                · refine e_iload dX11_count_218 rfl ?_
                  refine e_goto (tgt := 225) dX11_count_220 (by decide) ?_
                  refine e_iret dX11_count_225 (Or.inl rfl) ?_
                  unfold cvF
                  repeat' split
                  all_goals first | exact e_ok rfl rfl rfl | (exfalso; omega)
              · exfalso; omega
        · refine e_aload_n dX11_count_141 rfl ?_
          refine m_getI (by decide) dX11_count_142 f_X11_196 (Or.inl rfl) hT ?_
          have g_142 := rs_34 hW
          refine e_goto (tgt := 159) dX11_count_145 (by decide) ?_
          refine e_istore (ls2 := [_, _, _, _, _, _, _, _]) dX11_count_159 (Nat.le_of_ble_eq_true rfl) rfl ?_
          refine e_iload_n dX11_count_161 rfl ?_
          refine e_iconst dX11_count_162 ?_
          refine e_icmp_ne (tgt := 171) dX11_count_163 (by decide) ⟨by omega, by omega⟩ ⟨by omega, by omega⟩ (fun c_163 => ?_) (fun c_163 => ?_)
          · refine e_iload_n dX11_count_171 rfl ?_
            refine e_iconst dX11_count_172 ?_
            refine e_icmp_ne (tgt := 183) dX11_count_173 (by decide) ⟨by omega, by omega⟩ ⟨by omega, by omega⟩ (fun c_173 => ?_) (fun c_173 => ?_)
            · refine e_iload_n dX11_count_183 rfl ?_
              refine e_bipush dX11_count_184 (by decide) ?_
              refine e_icmp_ne (tgt := 196) dX11_count_186 (by decide) ⟨by omega, by omega⟩ ⟨by omega, by omega⟩ (fun c_186 => ?_) (fun c_186 => ?_)
              · refine e_aload_n dX11_count_196 rfl ?_
                refine m_getI (by decide) dX11_count_197 f_X11_199 (Or.inl rfl) hT ?_
                have g_197 := rs_39 hW
                refine e_istore (ls2 := [_, _, _, _, _, _, _, _]) dX11_count_200 (Nat.le_of_ble_eq_true rfl) rfl ?_
                refine e_aload_n dX11_count_202 rfl ?_
                refine m_getI (by decide) dX11_count_203 f_X11_101 (Or.inl rfl) hT ?_
                have g_203 := rs_41 hW
                refine e_if_le (tgt := 213) dX11_count_206 (by decide) ⟨by omega, by omega⟩ (fun c_206 => ?_) (fun c_206 => ?_)
                · refine e_iload_n dX11_count_213 rfl ?_
                  refine e_iconst dX11_count_214 ?_
                  refine e_icmp_ge (tgt := 223) dX11_count_215 (by decide) ⟨by omega, by omega⟩ ⟨by omega, by omega⟩ (fun c_215 => ?_) (fun c_215 => ?_)
                  · refine e_iload dX11_count_223 rfl ?_
                    refine e_iret dX11_count_225 (Or.inl rfl) ?_
                    unfold cvF
                    repeat' split
                    all_goals first | exact e_ok rfl rfl rfl | (exfalso; omega)
                  · refine e_iload dX11_count_218 rfl ?_
                    refine e_goto (tgt := 225) dX11_count_220 (by decide) ?_
                    refine e_iret dX11_count_225 (Or.inl rfl) ?_
                    unfold cvF
                    repeat' split
                    all_goals first | exact e_ok rfl rfl rfl | (exfalso; omega)
                · exfalso; omega
              · refine e_aload_n dX11_count_189 rfl ?_
                refine m_getI (by decide) dX11_count_190 f_X11_173 (Or.inl rfl) hT ?_
                have g_190 := rs_38 hW
                refine e_goto (tgt := 200) dX11_count_193 (by decide) ?_
                refine e_istore (ls2 := [_, _, _, _, _, _, _, _]) dX11_count_200 (Nat.le_of_ble_eq_true rfl) rfl ?_
                refine e_aload_n dX11_count_202 rfl ?_
                refine m_getI (by decide) dX11_count_203 f_X11_101 (Or.inl rfl) hT ?_
                have g_203 := rs_41 hW
                refine e_if_le (tgt := 213) dX11_count_206 (by decide) ⟨by omega, by omega⟩ (fun c_206 => ?_) (fun c_206 => ?_)
                · refine e_iload_n dX11_count_213 rfl ?_
                  refine e_iconst dX11_count_214 ?_
                  refine e_icmp_ge (tgt := 223) dX11_count_215 (by decide) ⟨by omega, by omega⟩ ⟨by omega, by omega⟩ (fun c_215 => ?_) (fun c_215 => ?_)
                  · refine e_iload dX11_count_223 rfl ?_
                    refine e_iret dX11_count_225 (Or.inl rfl) ?_
                    unfold cvF
                    repeat' split
                    all_goals first | exact e_ok rfl rfl rfl | (exfalso; omega)
                  · refine e_iload dX11_count_218 rfl ?_
                    refine e_goto (tgt := 225) dX11_count_220 (by decide) ?_
                    refine e_iret dX11_count_225 (Or.inl rfl) ?_
                    unfold cvF
                    repeat' split
                    all_goals first | exact e_ok rfl rfl rfl | (exfalso; omega)
                · exfalso; omega
            · refine e_aload_n dX11_count_176 rfl ?_
              refine m_getI (by decide) dX11_count_177 f_X11_190 (Or.inl rfl) hT ?_
              have g_177 := rs_37 hW
              refine e_goto (tgt := 200) dX11_count_180 (by decide) ?_
              refine e_istore (ls2 := [_, _, _, _, _, _, _, _]) dX11_count_200 (Nat.le_of_ble_eq_true rfl) rfl ?_
              refine e_aload_n dX11_count_202 rfl ?_
              refine m_getI (by decide) dX11_count_203 f_X11_101 (Or.inl rfl) hT ?_
              have g_203 := rs_41 hW
              refine e_if_le (tgt := 213) dX11_count_206 (by decide) ⟨by omega, by omega⟩ (fun c_206 => ?_) (fun c_206 => ?_)
              · refine e_iload_n dX11_count_213 rfl ?_
                refine e_iconst dX11_count_214 ?_
                refine e_icmp_ge (tgt := 223) dX11_count_215 (by decide) ⟨by omega, by omega⟩ ⟨by omega, by omega⟩ (fun c_215 => ?_) (fun c_215 => ?_)
                · refine e_iload dX11_count_223 rfl ?_
                  refine e_iret dX11_count_225 (Or.inl rfl) ?_
                  unfold cvF
                  repeat' split
                  all_goals first | exact e_ok rfl rfl rfl | (exfalso; omega)
                · refine e_iload dX11_count_218 rfl ?_
                  refine e_goto (tgt := 225) dX11_count_220 (by decide) ?_
                  refine e_iret dX11_count_225 (Or.inl rfl) ?_
                  unfold cvF
                  repeat' split
                  all_goals first | exact e_ok rfl rfl rfl | (exfalso; omega)
              · exfalso; omega
          · refine e_iload dX11_count_166 rfl ?_
            refine e_goto (tgt := 200) dX11_count_168 (by decide) ?_
            refine e_istore (ls2 := [_, _, _, _, _, _, _, _]) dX11_count_200 (Nat.le_of_ble_eq_true rfl) rfl ?_
            refine e_aload_n dX11_count_202 rfl ?_
            refine m_getI (by decide) dX11_count_203 f_X11_101 (Or.inl rfl) hT ?_
            have g_203 := rs_41 hW
            refine e_if_le (tgt := 213) dX11_count_206 (by decide) ⟨by omega, by omega⟩ (fun c_206 => ?_) (fun c_206 => ?_)
            · refine e_iload_n dX11_count_213 rfl ?_
              refine e_iconst dX11_count_214 ?_
              refine e_icmp_ge (tgt := 223) dX11_count_215 (by decide) ⟨by omega, by omega⟩ ⟨by omega, by omega⟩ (fun c_215 => ?_) (fun c_215 => ?_)
              · refine e_iload dX11_count_223 rfl ?_
                refine e_iret dX11_count_225 (Or.inl rfl) ?_
                unfold cvF
                repeat' split
                all_goals first | exact e_ok rfl rfl rfl | (exfalso; omega)
              · refine e_iload dX11_count_218 rfl ?_
                refine e_goto (tgt := 225) dX11_count_220 (by decide) ?_
                refine e_iret dX11_count_225 (Or.inl rfl) ?_
                unfold cvF
                repeat' split
                all_goals first | exact e_ok rfl rfl rfl | (exfalso; omega)
            · exfalso; omega
      · refine e_iload_n dX11_count_132 rfl ?_
        refine e_goto (tgt := 159) dX11_count_133 (by decide) ?_
        refine e_istore (ls2 := [_, _, _, _, _, _, _, _]) dX11_count_159 (Nat.le_of_ble_eq_true rfl) rfl ?_
        refine e_iload_n dX11_count_161 rfl ?_
        refine e_iconst dX11_count_162 ?_
        refine e_icmp_ne (tgt := 171) dX11_count_163 (by decide) ⟨by omega, by omega⟩ ⟨by omega, by omega⟩ (fun c_163 => ?_) (fun c_163 => ?_)
        · refine e_iload_n dX11_count_171 rfl ?_
          refine e_iconst dX11_count_172 ?_
          refine e_icmp_ne (tgt := 183) dX11_count_173 (by decide) ⟨by omega, by omega⟩ ⟨by omega, by omega⟩ (fun c_173 => ?_) (fun c_173 => ?_)
          · refine e_iload_n dX11_count_183 rfl ?_
            refine e_bipush dX11_count_184 (by decide) ?_
            refine e_icmp_ne (tgt := 196) dX11_count_186 (by decide) ⟨by omega, by omega⟩ ⟨by omega, by omega⟩ (fun c_186 => ?_) (fun c_186 => ?_)
            · refine e_aload_n dX11_count_196 rfl ?_
              refine m_getI (by decide) dX11_count_197 f_X11_199 (Or.inl rfl) hT ?_
              have g_197 := rs_39 hW
              refine e_istore (ls2 := [_, _, _, _, _, _, _, _]) dX11_count_200 (Nat.le_of_ble_eq_true rfl) rfl ?_
              refine e_aload_n dX11_count_202 rfl ?_
              refine m_getI (by decide) dX11_count_203 f_X11_101 (Or.inl rfl) hT ?_
              have g_203 := rs_41 hW
              refine e_if_le (tgt := 213) dX11_count_206 (by decide) ⟨by omega, by omega⟩ (fun c_206 => ?_) (fun c_206 => ?_)
              · refine e_iload_n dX11_count_213 rfl ?_
                refine e_iconst dX11_count_214 ?_
                refine e_icmp_ge (tgt := 223) dX11_count_215 (by decide) ⟨by omega, by omega⟩ ⟨by omega, by omega⟩ (fun c_215 => ?_) (fun c_215 => ?_)
                · refine e_iload dX11_count_223 rfl ?_
                  refine e_iret dX11_count_225 (Or.inl rfl) ?_
                  unfold cvF
                  repeat' split
                  all_goals first | exact e_ok rfl rfl rfl | (exfalso; omega)
                · refine e_iload dX11_count_218 rfl ?_
                  refine e_goto (tgt := 225) dX11_count_220 (by decide) ?_
                  refine e_iret dX11_count_225 (Or.inl rfl) ?_
                  unfold cvF
                  repeat' split
                  all_goals first | exact e_ok rfl rfl rfl | (exfalso; omega)
              · exfalso; omega
            · refine e_aload_n dX11_count_189 rfl ?_
              refine m_getI (by decide) dX11_count_190 f_X11_173 (Or.inl rfl) hT ?_
              have g_190 := rs_38 hW
              refine e_goto (tgt := 200) dX11_count_193 (by decide) ?_
              refine e_istore (ls2 := [_, _, _, _, _, _, _, _]) dX11_count_200 (Nat.le_of_ble_eq_true rfl) rfl ?_
              refine e_aload_n dX11_count_202 rfl ?_
              refine m_getI (by decide) dX11_count_203 f_X11_101 (Or.inl rfl) hT ?_
              have g_203 := rs_41 hW
              refine e_if_le (tgt := 213) dX11_count_206 (by decide) ⟨by omega, by omega⟩ (fun c_206 => ?_) (fun c_206 => ?_)
              · refine e_iload_n dX11_count_213 rfl ?_
                refine e_iconst dX11_count_214 ?_
                refine e_icmp_ge (tgt := 223) dX11_count_215 (by decide) ⟨by omega, by omega⟩ ⟨by omega, by omega⟩ (fun c_215 => ?_) (fun c_215 => ?_)
                · refine e_iload dX11_count_223 rfl ?_
                  refine e_iret dX11_count_225 (Or.inl rfl) ?_
                  unfold cvF
                  repeat' split
                  all_goals first | exact e_ok rfl rfl rfl | (exfalso; omega)
                · refine e_iload dX11_count_218 rfl ?_
                  refine e_goto (tgt := 225) dX11_count_220 (by decide) ?_
                  refine e_iret dX11_count_225 (Or.inl rfl) ?_
                  unfold cvF
                  repeat' split
                  all_goals first | exact e_ok rfl rfl rfl | (exfalso; omega)
              · exfalso; omega
          · refine e_aload_n dX11_count_176 rfl ?_
            refine m_getI (by decide) dX11_count_177 f_X11_190 (Or.inl rfl) hT ?_
            have g_177 := rs_37 hW
            refine e_goto (tgt := 200) dX11_count_180 (by decide) ?_
            refine e_istore (ls2 := [_, _, _, _, _, _, _, _]) dX11_count_200 (Nat.le_of_ble_eq_true rfl) rfl ?_
            refine e_aload_n dX11_count_202 rfl ?_
            refine m_getI (by decide) dX11_count_203 f_X11_101 (Or.inl rfl) hT ?_
            have g_203 := rs_41 hW
            refine e_if_le (tgt := 213) dX11_count_206 (by decide) ⟨by omega, by omega⟩ (fun c_206 => ?_) (fun c_206 => ?_)
            · refine e_iload_n dX11_count_213 rfl ?_
              refine e_iconst dX11_count_214 ?_
              refine e_icmp_ge (tgt := 223) dX11_count_215 (by decide) ⟨by omega, by omega⟩ ⟨by omega, by omega⟩ (fun c_215 => ?_) (fun c_215 => ?_)
              · refine e_iload dX11_count_223 rfl ?_
                refine e_iret dX11_count_225 (Or.inl rfl) ?_
                unfold cvF
                repeat' split
                all_goals first | exact e_ok rfl rfl rfl | (exfalso; omega)
              · refine e_iload dX11_count_218 rfl ?_
                refine e_goto (tgt := 225) dX11_count_220 (by decide) ?_
                refine e_iret dX11_count_225 (Or.inl rfl) ?_
                unfold cvF
                repeat' split
                all_goals first | exact e_ok rfl rfl rfl | (exfalso; omega)
            · exfalso; omega
        · refine e_iload dX11_count_166 rfl ?_
          refine e_goto (tgt := 200) dX11_count_168 (by decide) ?_
          refine e_istore (ls2 := [_, _, _, _, _, _, _, _]) dX11_count_200 (Nat.le_of_ble_eq_true rfl) rfl ?_
          refine e_aload_n dX11_count_202 rfl ?_
          refine m_getI (by decide) dX11_count_203 f_X11_101 (Or.inl rfl) hT ?_
          have g_203 := rs_41 hW
          refine e_if_le (tgt := 213) dX11_count_206 (by decide) ⟨by omega, by omega⟩ (fun c_206 => ?_) (fun c_206 => ?_)
          · refine e_iload_n dX11_count_213 rfl ?_
            refine e_iconst dX11_count_214 ?_
            refine e_icmp_ge (tgt := 223) dX11_count_215 (by decide) ⟨by omega, by omega⟩ ⟨by omega, by omega⟩ (fun c_215 => ?_) (fun c_215 => ?_)
            · refine e_iload dX11_count_223 rfl ?_
              refine e_iret dX11_count_225 (Or.inl rfl) ?_
              unfold cvF
              repeat' split
              all_goals first | exact e_ok rfl rfl rfl | (exfalso; omega)
            · refine e_iload dX11_count_218 rfl ?_
              refine e_goto (tgt := 225) dX11_count_220 (by decide) ?_
              refine e_iret dX11_count_225 (Or.inl rfl) ?_
              unfold cvF
              repeat' split
              all_goals first | exact e_ok rfl rfl rfl | (exfalso; omega)
          · exfalso; omega
    · exfalso; omega
  | succ r ih =>
    intro k d i h1 h2 h3
    have g16 := rs_16 hW
    have g36 := rs_36 hW
    have gd := dueF_rg hW k
    refine e_iload dX11_count_99 rfl ?_
    refine e_aload_n dX11_count_101 rfl ?_
    refine m_getI (by decide) dX11_count_102 f_X11_155 (Or.inl rfl) hT ?_
    have g_102 := rs_16 hW
    refine e_icmp_ge (tgt := 128) dX11_count_105 (by decide) ⟨by omega, by omega⟩ ⟨by omega, by omega⟩ (fun c_105 => ?_) (fun c_105 => ?_)
    · exfalso; omega
    · refine e_iload dX11_count_108 rfl ?_
      refine e_iconst dX11_count_110 ?_
      refine e_aload_n dX11_count_111 rfl ?_
      refine m_getR (kt := (20, 120, 22)) (by decide) dX11_count_112 f_X11_59 hT rfl (Nat.succ_ne_zero _) (fun q_112 h_112 => ?_)
      refine e_iload dX11_count_115 rfl ?_
      refine m_iaw (by decide) (rg_22 hW) dX11_count_117 h_112 (by omega) (by omega) (fun g_117 => ?_)
      refine e_isub dX11_count_118 ?_
      refine e_iadd dX11_count_119 ?_
      refine e_istore (ls2 := [_, _, _, _, _, _, _, _]) dX11_count_120 (Nat.le_of_ble_eq_true rfl) rfl ?_
      refine e_iinc (ls2 := [_, _, _, _, _, _, _, _]) dX11_count_122 rfl (Nat.le_of_ble_eq_true rfl) rfl ?_
      refine e_goto (tgt := 99) dX11_count_125 (by decide) ?_
      exact ih (k + 1) _ _ (by omega) (by simp only [dueF, ← h2, ← h3]) (by omega)
theorem smB_congr {A B : q_S} {t : Int} (h : ∀ k, A t k = B t k) : ∀ n, smB A t n = smB B t n := by
  intro n
  induction n with
  | zero => rfl
  | succ n ih => simp only [smB, ih, h]
theorem sm_congr {A B : q_S} {t : Int} (h : ∀ k, A t k = B t k) : ∀ n, sm A t n = sm B t n := by
  intro n
  induction n with
  | zero => rfl
  | succ n ih => simp only [sm, ih, h]
theorem dueF_congr {A B : q_S} (h : ∀ k, A 22 k = B 22 k) (h2 : A 50 36 = B 50 36) : ∀ n, dueF A n = dueF B n := by
  intro n
  induction n with
  | zero => rfl
  | succ n ih => simp only [dueF, ih, h, h2]
theorem countF_e {M : q_S} {w : Int} (h : ¬ ¬ (0 ≤ w ∧ w ≤ 7)) : countF M w = (cvF (thr M 0) w (smB (thr M 0) 31 20000) (sm (thr M 0) 32 20000) (sm (thr M 0) 33 20000), thr M 0) := by
  unfold countF cvF
  rw [if_neg h, smB_congr (A := thr M 0) (B := M) (t := 31) (fun _ => rfl) 20000, sm_congr (A := thr M 0) (B := M) (t := 32) (fun _ => rfl) 20000, sm_congr (A := thr M 0) (B := M) (t := 33) (fun _ => rfl) 20000, dueF_congr (A := thr M 0) (B := M) (fun _ => rfl) rfl]
  rfl
set_option maxRecDepth 20000 in
set_option maxHeartbeats 4000000 in
theorem m_count_bad1 {K : q_K} {M C : q_S} {a : Nat} (hT : K a = (12, 0, 50)) (hW : WR M) {w : Int} (hw : q_iI w) (h41 : M 50 41 = 1) : ∀ (r k : Nat) (d i : Int), (k + r = (M 50 16 - M 50 36).toNat) → (0 ≤ d ∧ d ≤ k) → (i = M 50 36 + k) → q_E mX11_count 99 [some (q_R a), some (q_I w), some (q_I 0), some (q_I 0), some (q_I 0), some (q_I d), some (q_I i), none] [] K M C 0 0 (e_is (some (q_I 0)) K M C) := by
  intro r
  induction r with
  | zero =>
    intro k d i h1 h2 h3
    have hw1 := hw.1
    have hw2 := hw.2
    have g16 := rs_16 hW
    have g36 := rs_36 hW
    refine e_iload dX11_count_99 rfl ?_
    refine e_aload_n dX11_count_101 rfl ?_
    refine m_getI (by decide) dX11_count_102 f_X11_155 (Or.inl rfl) hT ?_
    have g_102 := rs_16 hW
    refine e_icmp_ge (tgt := 128) dX11_count_105 (by decide) ⟨by omega, by omega⟩ ⟨by omega, by omega⟩ (fun c_105 => ?_) (fun c_105 => ?_)
    · refine e_drop (k := 6) (ls2 := [_, _, _, _, _, _, _, _]) rfl ?_
      refine e_iload_n dX11_count_128 rfl ?_
      refine e_if_ne (tgt := 136) dX11_count_129 (by decide) ⟨by omega, by omega⟩ (fun c_129 => ?_) (fun c_129 => ?_)
      · refine e_iload_n dX11_count_136 rfl ?_
        refine e_iconst dX11_count_137 ?_
        refine e_icmp_ne (tgt := 148) dX11_count_138 (by decide) ⟨by omega, by omega⟩ ⟨by omega, by omega⟩ (fun c_138 => ?_) (fun c_138 => ?_)
        · refine e_iload_n dX11_count_148 rfl ?_
          refine e_iconst dX11_count_149 ?_
          refine e_icmp_ne (tgt := 157) dX11_count_150 (by decide) ⟨by omega, by omega⟩ ⟨by omega, by omega⟩ (fun c_150 => ?_) (fun c_150 => ?_)
          · refine e_iload dX11_count_157 rfl ?_
            refine e_istore (ls2 := [_, _, _, _, _, _, _, _]) dX11_count_159 (Nat.le_of_ble_eq_true rfl) rfl ?_
            refine e_iload_n dX11_count_161 rfl ?_
            refine e_iconst dX11_count_162 ?_
            refine e_icmp_ne (tgt := 171) dX11_count_163 (by decide) ⟨by omega, by omega⟩ ⟨by omega, by omega⟩ (fun c_163 => ?_) (fun c_163 => ?_)
            · refine e_iload_n dX11_count_171 rfl ?_
              refine e_iconst dX11_count_172 ?_
              refine e_icmp_ne (tgt := 183) dX11_count_173 (by decide) ⟨by omega, by omega⟩ ⟨by omega, by omega⟩ (fun c_173 => ?_) (fun c_173 => ?_)
              · refine e_iload_n dX11_count_183 rfl ?_
                refine e_bipush dX11_count_184 (by decide) ?_
                refine e_icmp_ne (tgt := 196) dX11_count_186 (by decide) ⟨by omega, by omega⟩ ⟨by omega, by omega⟩ (fun c_186 => ?_) (fun c_186 => ?_)
                · refine e_aload_n dX11_count_196 rfl ?_
                  refine m_getI (by decide) dX11_count_197 f_X11_199 (Or.inl rfl) hT ?_
                  have g_197 := rs_39 hW
                  refine e_istore (ls2 := [_, _, _, _, _, _, _, _]) dX11_count_200 (Nat.le_of_ble_eq_true rfl) rfl ?_
                  refine e_aload_n dX11_count_202 rfl ?_
                  refine m_getI (by decide) dX11_count_203 f_X11_101 (Or.inl rfl) hT ?_
                  have g_203 := rs_41 hW
                  refine e_if_le (tgt := 213) dX11_count_206 (by decide) ⟨by omega, by omega⟩ (fun c_206 => ?_) (fun c_206 => ?_)
                  · exfalso; omega
                  · refine e_iconst dX11_count_209 ?_
                    refine e_goto (tgt := 225) dX11_count_210 (by decide) ?_
                    exact e_iret dX11_count_225 (Or.inl rfl) (e_ok rfl rfl rfl)
                · refine e_aload_n dX11_count_189 rfl ?_
                  refine m_getI (by decide) dX11_count_190 f_X11_173 (Or.inl rfl) hT ?_
                  have g_190 := rs_38 hW
                  refine e_goto (tgt := 200) dX11_count_193 (by decide) ?_
                  refine e_istore (ls2 := [_, _, _, _, _, _, _, _]) dX11_count_200 (Nat.le_of_ble_eq_true rfl) rfl ?_
                  refine e_aload_n dX11_count_202 rfl ?_
                  refine m_getI (by decide) dX11_count_203 f_X11_101 (Or.inl rfl) hT ?_
                  have g_203 := rs_41 hW
                  refine e_if_le (tgt := 213) dX11_count_206 (by decide) ⟨by omega, by omega⟩ (fun c_206 => ?_) (fun c_206 => ?_)
                  · exfalso; omega
                  · refine e_iconst dX11_count_209 ?_
                    refine e_goto (tgt := 225) dX11_count_210 (by decide) ?_
                    exact e_iret dX11_count_225 (Or.inl rfl) (e_ok rfl rfl rfl)
              · refine e_aload_n dX11_count_176 rfl ?_
                refine m_getI (by decide) dX11_count_177 f_X11_190 (Or.inl rfl) hT ?_
                have g_177 := rs_37 hW
                refine e_goto (tgt := 200) dX11_count_180 (by decide) ?_
                refine e_istore (ls2 := [_, _, _, _, _, _, _, _]) dX11_count_200 (Nat.le_of_ble_eq_true rfl) rfl ?_
                refine e_aload_n dX11_count_202 rfl ?_
                refine m_getI (by decide) dX11_count_203 f_X11_101 (Or.inl rfl) hT ?_
                have g_203 := rs_41 hW
                refine e_if_le (tgt := 213) dX11_count_206 (by decide) ⟨by omega, by omega⟩ (fun c_206 => ?_) (fun c_206 => ?_)
                · exfalso; omega
                · refine e_iconst dX11_count_209 ?_
                  refine e_goto (tgt := 225) dX11_count_210 (by decide) ?_
                  exact e_iret dX11_count_225 (Or.inl rfl) (e_ok rfl rfl rfl)
            · refine e_iload dX11_count_166 rfl ?_
              refine e_goto (tgt := 200) dX11_count_168 (by decide) ?_
              refine e_istore (ls2 := [_, _, _, _, _, _, _, _]) dX11_count_200 (Nat.le_of_ble_eq_true rfl) rfl ?_
              refine e_aload_n dX11_count_202 rfl ?_
              refine m_getI (by decide) dX11_count_203 f_X11_101 (Or.inl rfl) hT ?_
              have g_203 := rs_41 hW
              refine e_if_le (tgt := 213) dX11_count_206 (by decide) ⟨by omega, by omega⟩ (fun c_206 => ?_) (fun c_206 => ?_)
              · exfalso; omega
              · refine e_iconst dX11_count_209 ?_
                refine e_goto (tgt := 225) dX11_count_210 (by decide) ?_
                exact e_iret dX11_count_225 (Or.inl rfl) (e_ok rfl rfl rfl)
          · refine e_iload_n dX11_count_153 rfl ?_
            refine e_goto (tgt := 159) dX11_count_154 (by decide) ?_
            refine e_istore (ls2 := [_, _, _, _, _, _, _, _]) dX11_count_159 (Nat.le_of_ble_eq_true rfl) rfl ?_
            refine e_iload_n dX11_count_161 rfl ?_
            refine e_iconst dX11_count_162 ?_
            refine e_icmp_ne (tgt := 171) dX11_count_163 (by decide) ⟨by omega, by omega⟩ ⟨by omega, by omega⟩ (fun c_163 => ?_) (fun c_163 => ?_)
            · refine e_iload_n dX11_count_171 rfl ?_
              refine e_iconst dX11_count_172 ?_
              refine e_icmp_ne (tgt := 183) dX11_count_173 (by decide) ⟨by omega, by omega⟩ ⟨by omega, by omega⟩ (fun c_173 => ?_) (fun c_173 => ?_)
              · refine e_iload_n dX11_count_183 rfl ?_
                refine e_bipush dX11_count_184 (by decide) ?_
                refine e_icmp_ne (tgt := 196) dX11_count_186 (by decide) ⟨by omega, by omega⟩ ⟨by omega, by omega⟩ (fun c_186 => ?_) (fun c_186 => ?_)
                · refine e_aload_n dX11_count_196 rfl ?_
                  refine m_getI (by decide) dX11_count_197 f_X11_199 (Or.inl rfl) hT ?_
                  have g_197 := rs_39 hW
                  refine e_istore (ls2 := [_, _, _, _, _, _, _, _]) dX11_count_200 (Nat.le_of_ble_eq_true rfl) rfl ?_
                  refine e_aload_n dX11_count_202 rfl ?_
                  refine m_getI (by decide) dX11_count_203 f_X11_101 (Or.inl rfl) hT ?_
                  have g_203 := rs_41 hW
                  refine e_if_le (tgt := 213) dX11_count_206 (by decide) ⟨by omega, by omega⟩ (fun c_206 => ?_) (fun c_206 => ?_)
                  · exfalso; omega
                  · refine e_iconst dX11_count_209 ?_
                    refine e_goto (tgt := 225) dX11_count_210 (by decide) ?_
                    exact e_iret dX11_count_225 (Or.inl rfl) (e_ok rfl rfl rfl)
                · refine e_aload_n dX11_count_189 rfl ?_
                  refine m_getI (by decide) dX11_count_190 f_X11_173 (Or.inl rfl) hT ?_
                  have g_190 := rs_38 hW
                  refine e_goto (tgt := 200) dX11_count_193 (by decide) ?_
                  refine e_istore (ls2 := [_, _, _, _, _, _, _, _]) dX11_count_200 (Nat.le_of_ble_eq_true rfl) rfl ?_
                  refine e_aload_n dX11_count_202 rfl ?_
                  refine m_getI (by decide) dX11_count_203 f_X11_101 (Or.inl rfl) hT ?_
                  have g_203 := rs_41 hW
                  refine e_if_le (tgt := 213) dX11_count_206 (by decide) ⟨by omega, by omega⟩ (fun c_206 => ?_) (fun c_206 => ?_)
                  · exfalso; omega
                  · refine e_iconst dX11_count_209 ?_
                    refine e_goto (tgt := 225) dX11_count_210 (by decide) ?_
                    exact e_iret dX11_count_225 (Or.inl rfl) (e_ok rfl rfl rfl)
              · refine e_aload_n dX11_count_176 rfl ?_
                refine m_getI (by decide) dX11_count_177 f_X11_190 (Or.inl rfl) hT ?_
                have g_177 := rs_37 hW
                refine e_goto (tgt := 200) dX11_count_180 (by decide) ?_
                refine e_istore (ls2 := [_, _, _, _, _, _, _, _]) dX11_count_200 (Nat.le_of_ble_eq_true rfl) rfl ?_
                refine e_aload_n dX11_count_202 rfl ?_
                refine m_getI (by decide) dX11_count_203 f_X11_101 (Or.inl rfl) hT ?_
                have g_203 := rs_41 hW
                refine e_if_le (tgt := 213) dX11_count_206 (by decide) ⟨by omega, by omega⟩ (fun c_206 => ?_) (fun c_206 => ?_)
                · exfalso; omega
                · refine e_iconst dX11_count_209 ?_
                  refine e_goto (tgt := 225) dX11_count_210 (by decide) ?_
                  exact e_iret dX11_count_225 (Or.inl rfl) (e_ok rfl rfl rfl)
            · refine e_iload dX11_count_166 rfl ?_
              refine e_goto (tgt := 200) dX11_count_168 (by decide) ?_
              refine e_istore (ls2 := [_, _, _, _, _, _, _, _]) dX11_count_200 (Nat.le_of_ble_eq_true rfl) rfl ?_
              refine e_aload_n dX11_count_202 rfl ?_
              refine m_getI (by decide) dX11_count_203 f_X11_101 (Or.inl rfl) hT ?_
              have g_203 := rs_41 hW
              refine e_if_le (tgt := 213) dX11_count_206 (by decide) ⟨by omega, by omega⟩ (fun c_206 => ?_) (fun c_206 => ?_)
              · exfalso; omega
              · refine e_iconst dX11_count_209 ?_
                refine e_goto (tgt := 225) dX11_count_210 (by decide) ?_
                exact e_iret dX11_count_225 (Or.inl rfl) (e_ok rfl rfl rfl)
        · refine e_aload_n dX11_count_141 rfl ?_
          refine m_getI (by decide) dX11_count_142 f_X11_196 (Or.inl rfl) hT ?_
          have g_142 := rs_34 hW
          refine e_goto (tgt := 159) dX11_count_145 (by decide) ?_
          refine e_istore (ls2 := [_, _, _, _, _, _, _, _]) dX11_count_159 (Nat.le_of_ble_eq_true rfl) rfl ?_
          refine e_iload_n dX11_count_161 rfl ?_
          refine e_iconst dX11_count_162 ?_
          refine e_icmp_ne (tgt := 171) dX11_count_163 (by decide) ⟨by omega, by omega⟩ ⟨by omega, by omega⟩ (fun c_163 => ?_) (fun c_163 => ?_)
          · refine e_iload_n dX11_count_171 rfl ?_
            refine e_iconst dX11_count_172 ?_
            refine e_icmp_ne (tgt := 183) dX11_count_173 (by decide) ⟨by omega, by omega⟩ ⟨by omega, by omega⟩ (fun c_173 => ?_) (fun c_173 => ?_)
            · refine e_iload_n dX11_count_183 rfl ?_
              refine e_bipush dX11_count_184 (by decide) ?_
              refine e_icmp_ne (tgt := 196) dX11_count_186 (by decide) ⟨by omega, by omega⟩ ⟨by omega, by omega⟩ (fun c_186 => ?_) (fun c_186 => ?_)
              · refine e_aload_n dX11_count_196 rfl ?_
                refine m_getI (by decide) dX11_count_197 f_X11_199 (Or.inl rfl) hT ?_
                have g_197 := rs_39 hW
                refine e_istore (ls2 := [_, _, _, _, _, _, _, _]) dX11_count_200 (Nat.le_of_ble_eq_true rfl) rfl ?_
                refine e_aload_n dX11_count_202 rfl ?_
                refine m_getI (by decide) dX11_count_203 f_X11_101 (Or.inl rfl) hT ?_
                have g_203 := rs_41 hW
                refine e_if_le (tgt := 213) dX11_count_206 (by decide) ⟨by omega, by omega⟩ (fun c_206 => ?_) (fun c_206 => ?_)
                · exfalso; omega
                · refine e_iconst dX11_count_209 ?_
                  refine e_goto (tgt := 225) dX11_count_210 (by decide) ?_
                  exact e_iret dX11_count_225 (Or.inl rfl) (e_ok rfl rfl rfl)
              · refine e_aload_n dX11_count_189 rfl ?_
                refine m_getI (by decide) dX11_count_190 f_X11_173 (Or.inl rfl) hT ?_
                have g_190 := rs_38 hW
                refine e_goto (tgt := 200) dX11_count_193 (by decide) ?_
                refine e_istore (ls2 := [_, _, _, _, _, _, _, _]) dX11_count_200 (Nat.le_of_ble_eq_true rfl) rfl ?_
                refine e_aload_n dX11_count_202 rfl ?_
                refine m_getI (by decide) dX11_count_203 f_X11_101 (Or.inl rfl) hT ?_
                have g_203 := rs_41 hW
                refine e_if_le (tgt := 213) dX11_count_206 (by decide) ⟨by omega, by omega⟩ (fun c_206 => ?_) (fun c_206 => ?_)
                · exfalso; omega
                · refine e_iconst dX11_count_209 ?_
                  refine e_goto (tgt := 225) dX11_count_210 (by decide) ?_
                  exact e_iret dX11_count_225 (Or.inl rfl) (e_ok rfl rfl rfl)
            · refine e_aload_n dX11_count_176 rfl ?_
              refine m_getI (by decide) dX11_count_177 f_X11_190 (Or.inl rfl) hT ?_
              have g_177 := rs_37 hW
              refine e_goto (tgt := 200) dX11_count_180 (by decide) ?_
              refine e_istore (ls2 := [_, _, _, _, _, _, _, _]) dX11_count_200 (Nat.le_of_ble_eq_true rfl) rfl ?_
              refine e_aload_n dX11_count_202 rfl ?_
              refine m_getI (by decide) dX11_count_203 f_X11_101 (Or.inl rfl) hT ?_
              have g_203 := rs_41 hW
              refine e_if_le (tgt := 213) dX11_count_206 (by decide) ⟨by omega, by omega⟩ (fun c_206 => ?_) (fun c_206 => ?_)
              · exfalso; omega
              · refine e_iconst dX11_count_209 ?_
                refine e_goto (tgt := 225) dX11_count_210 (by decide) ?_
                exact e_iret dX11_count_225 (Or.inl rfl) (e_ok rfl rfl rfl)
          · refine e_iload dX11_count_166 rfl ?_
            refine e_goto (tgt := 200) dX11_count_168 (by decide) ?_
            refine e_istore (ls2 := [_, _, _, _, _, _, _, _]) dX11_count_200 (Nat.le_of_ble_eq_true rfl) rfl ?_
            refine e_aload_n dX11_count_202 rfl ?_
            refine m_getI (by decide) dX11_count_203 f_X11_101 (Or.inl rfl) hT ?_
            have g_203 := rs_41 hW
            refine e_if_le (tgt := 213) dX11_count_206 (by decide) ⟨by omega, by omega⟩ (fun c_206 => ?_) (fun c_206 => ?_)
            · exfalso; omega
            · refine e_iconst dX11_count_209 ?_
              refine e_goto (tgt := 225) dX11_count_210 (by decide) ?_
              exact e_iret dX11_count_225 (Or.inl rfl) (e_ok rfl rfl rfl)
      · refine e_iload_n dX11_count_132 rfl ?_
        refine e_goto (tgt := 159) dX11_count_133 (by decide) ?_
        refine e_istore (ls2 := [_, _, _, _, _, _, _, _]) dX11_count_159 (Nat.le_of_ble_eq_true rfl) rfl ?_
        refine e_iload_n dX11_count_161 rfl ?_
        refine e_iconst dX11_count_162 ?_
        refine e_icmp_ne (tgt := 171) dX11_count_163 (by decide) ⟨by omega, by omega⟩ ⟨by omega, by omega⟩ (fun c_163 => ?_) (fun c_163 => ?_)
        · refine e_iload_n dX11_count_171 rfl ?_
          refine e_iconst dX11_count_172 ?_
          refine e_icmp_ne (tgt := 183) dX11_count_173 (by decide) ⟨by omega, by omega⟩ ⟨by omega, by omega⟩ (fun c_173 => ?_) (fun c_173 => ?_)
          · refine e_iload_n dX11_count_183 rfl ?_
            refine e_bipush dX11_count_184 (by decide) ?_
            refine e_icmp_ne (tgt := 196) dX11_count_186 (by decide) ⟨by omega, by omega⟩ ⟨by omega, by omega⟩ (fun c_186 => ?_) (fun c_186 => ?_)
            · refine e_aload_n dX11_count_196 rfl ?_
              refine m_getI (by decide) dX11_count_197 f_X11_199 (Or.inl rfl) hT ?_
              have g_197 := rs_39 hW
              refine e_istore (ls2 := [_, _, _, _, _, _, _, _]) dX11_count_200 (Nat.le_of_ble_eq_true rfl) rfl ?_
              refine e_aload_n dX11_count_202 rfl ?_
              refine m_getI (by decide) dX11_count_203 f_X11_101 (Or.inl rfl) hT ?_
              have g_203 := rs_41 hW
              refine e_if_le (tgt := 213) dX11_count_206 (by decide) ⟨by omega, by omega⟩ (fun c_206 => ?_) (fun c_206 => ?_)
              · exfalso; omega
              · refine e_iconst dX11_count_209 ?_
                refine e_goto (tgt := 225) dX11_count_210 (by decide) ?_
                exact e_iret dX11_count_225 (Or.inl rfl) (e_ok rfl rfl rfl)
            · refine e_aload_n dX11_count_189 rfl ?_
              refine m_getI (by decide) dX11_count_190 f_X11_173 (Or.inl rfl) hT ?_
              have g_190 := rs_38 hW
              refine e_goto (tgt := 200) dX11_count_193 (by decide) ?_
              refine e_istore (ls2 := [_, _, _, _, _, _, _, _]) dX11_count_200 (Nat.le_of_ble_eq_true rfl) rfl ?_
              refine e_aload_n dX11_count_202 rfl ?_
              refine m_getI (by decide) dX11_count_203 f_X11_101 (Or.inl rfl) hT ?_
              have g_203 := rs_41 hW
              refine e_if_le (tgt := 213) dX11_count_206 (by decide) ⟨by omega, by omega⟩ (fun c_206 => ?_) (fun c_206 => ?_)
              · exfalso; omega
              · refine e_iconst dX11_count_209 ?_
                refine e_goto (tgt := 225) dX11_count_210 (by decide) ?_
                exact e_iret dX11_count_225 (Or.inl rfl) (e_ok rfl rfl rfl)
          · refine e_aload_n dX11_count_176 rfl ?_
            refine m_getI (by decide) dX11_count_177 f_X11_190 (Or.inl rfl) hT ?_
            have g_177 := rs_37 hW
            refine e_goto (tgt := 200) dX11_count_180 (by decide) ?_
            refine e_istore (ls2 := [_, _, _, _, _, _, _, _]) dX11_count_200 (Nat.le_of_ble_eq_true rfl) rfl ?_
            refine e_aload_n dX11_count_202 rfl ?_
            refine m_getI (by decide) dX11_count_203 f_X11_101 (Or.inl rfl) hT ?_
            have g_203 := rs_41 hW
            refine e_if_le (tgt := 213) dX11_count_206 (by decide) ⟨by omega, by omega⟩ (fun c_206 => ?_) (fun c_206 => ?_)
            · exfalso; omega
            · refine e_iconst dX11_count_209 ?_
              refine e_goto (tgt := 225) dX11_count_210 (by decide) ?_
              exact e_iret dX11_count_225 (Or.inl rfl) (e_ok rfl rfl rfl)
        · refine e_iload dX11_count_166 rfl ?_
          refine e_goto (tgt := 200) dX11_count_168 (by decide) ?_
          refine e_istore (ls2 := [_, _, _, _, _, _, _, _]) dX11_count_200 (Nat.le_of_ble_eq_true rfl) rfl ?_
          refine e_aload_n dX11_count_202 rfl ?_
          refine m_getI (by decide) dX11_count_203 f_X11_101 (Or.inl rfl) hT ?_
          have g_203 := rs_41 hW
          refine e_if_le (tgt := 213) dX11_count_206 (by decide) ⟨by omega, by omega⟩ (fun c_206 => ?_) (fun c_206 => ?_)
          · exfalso; omega
          · refine e_iconst dX11_count_209 ?_
            refine e_goto (tgt := 225) dX11_count_210 (by decide) ?_
            exact e_iret dX11_count_225 (Or.inl rfl) (e_ok rfl rfl rfl)
    · exfalso; omega
  | succ r ih =>
    intro k d i h1 h2 h3
    have g16 := rs_16 hW
    have g36 := rs_36 hW
    refine e_iload dX11_count_99 rfl ?_
    refine e_aload_n dX11_count_101 rfl ?_
    refine m_getI (by decide) dX11_count_102 f_X11_155 (Or.inl rfl) hT ?_
    have g_102 := rs_16 hW
    refine e_icmp_ge (tgt := 128) dX11_count_105 (by decide) ⟨by omega, by omega⟩ ⟨by omega, by omega⟩ (fun c_105 => ?_) (fun c_105 => ?_)
    · exfalso; omega
    · refine e_iload dX11_count_108 rfl ?_
      refine e_iconst dX11_count_110 ?_
      refine e_aload_n dX11_count_111 rfl ?_
      refine m_getR (kt := (20, 120, 22)) (by decide) dX11_count_112 f_X11_59 hT rfl (Nat.succ_ne_zero _) (fun q_112 h_112 => ?_)
      refine e_iload dX11_count_115 rfl ?_
      refine m_iaw (by decide) (rg_22 hW) dX11_count_117 h_112 (by omega) (by omega) (fun g_117 => ?_)
      refine e_isub dX11_count_118 ?_
      refine e_iadd dX11_count_119 ?_
      refine e_istore (ls2 := [_, _, _, _, _, _, _, _]) dX11_count_120 (Nat.le_of_ble_eq_true rfl) rfl ?_
      refine e_iinc (ls2 := [_, _, _, _, _, _, _, _]) dX11_count_122 rfl (Nat.le_of_ble_eq_true rfl) rfl ?_
      refine e_goto (tgt := 99) dX11_count_125 (by decide) ?_
      exact ih (k + 1) _ _ (by omega) (by omega) (by omega)
set_option maxRecDepth 20000 in
set_option maxHeartbeats 4000000 in
theorem m_count {K : q_K} {M C : q_S} {a : Nat} (hT : K a = (12, 0, 50)) (hW : WR M) {w : Int} (hw : q_iI w) : q_E mX11_count 0 [some (q_R a), some (q_I w), none, none, none, none, none, none] [] K M C 0 0 (e_is (some (q_I (countF M w).1)) K (countF M w).2 C) := by
  have g16 := rs_16 hW
  have g36 := rs_36 hW
  by_cases e0 : ¬ (0 ≤ w ∧ w ≤ 7)
  · refine e_aload_n dX11_count_0 rfl ?_
    refine e_iload_n dX11_count_1 rfl ?_
    refine e_iconst dX11_count_2 ?_
    refine e_bipush dX11_count_3 (by decide) ?_
    refine e_cS (as := [_, _, _]) dX11_count_5 k_X11_in l_X11_105 s_X11_in rfl rfl rfl rfl (Nat.le_of_ble_eq_true rfl) ⟨by decide, by decide⟩ (Nat.le_of_ble_eq_true rfl) (by decide) (m_in (by first | assumption | exact ⟨by decide, by decide⟩ | exact ⟨by omega, by omega⟩) (by first | assumption | exact ⟨by decide, by decide⟩ | exact ⟨by omega, by omega⟩) (by first | assumption | exact ⟨by decide, by decide⟩ | exact ⟨by omega, by omega⟩)) ?_
    refine e_if_eq (tgt := 15) dX11_count_8 (by decide) bi_iI (fun c_8 => ?_) (fun c_8 => ?_)
    · simp only [bi_z, Classical.not_not] at c_8
      refine e_iconst dX11_count_15 ?_
      refine m_putI (by decide) dX11_count_16 f_X11_101 rfl hT ⟨by omega, by omega⟩ ?_
      refine e_iconst dX11_count_19 ?_
      refine e_istore_n (ls2 := [_, _, _, _, _, _, _, _]) dX11_count_20 (Nat.le_of_ble_eq_true rfl) rfl ?_
      refine e_iconst dX11_count_21 ?_
      refine e_istore_n (ls2 := [_, _, _, _, _, _, _, _]) dX11_count_22 (Nat.le_of_ble_eq_true rfl) rfl ?_
      refine e_iconst dX11_count_23 ?_
      refine e_istore (ls2 := [_, _, _, _, _, _, _, _]) dX11_count_24 (Nat.le_of_ble_eq_true rfl) rfl ?_
      refine e_iconst dX11_count_26 ?_
      refine e_istore (ls2 := [_, _, _, _, _, _, _, _]) dX11_count_27 (Nat.le_of_ble_eq_true rfl) rfl ?_
      refine e_iload dX11_count_29 rfl ?_
      refine e_sipush dX11_count_31 (by decide) ?_
      refine e_icmp_ge (tgt := 90) dX11_count_34 (by decide) ⟨by decide, by decide⟩ ⟨by decide, by decide⟩ (fun c_34 => ?_) (fun c_34 => ?_)
      · exact absurd c_34 (by decide)
      · refine e_aload_n dX11_count_37 rfl ?_
        refine m_getI (by decide) dX11_count_38 f_X11_101 (Or.inl rfl) hT ?_
        simp only [q_us_ap, editsF_3, Int.reduceEq, Int.reduceNeg, false_and, and_false, and_self, if_true, if_false, true_and, and_true, ite_self]
        have g_38 := rs_41 hW
        refine e_if_ne (tgt := 90) dX11_count_41 (by decide) ⟨by decide, by decide⟩ (fun c_41 => ?_) (fun c_41 => ?_)
        · refine e_drop (k := 5) (ls2 := [_, _, _, _, _, _, _, _]) rfl ?_
          have e9 : countF M w = (0, thr M 1) := by unfold countF; rw [if_pos e0]
          rw [e9]
          have hWt : WR (thr M 1) := WR.up hW ⟨by decide, by decide⟩
          refine e_iconst dX11_count_90 ?_
          refine e_istore (ls2 := [_, _, _, _, _, _, _, _]) dX11_count_91 (Nat.le_of_ble_eq_true rfl) rfl ?_
          refine e_aload_n dX11_count_93 rfl ?_
          refine m_getI (by decide) dX11_count_94 f_X11_258 (Or.inl rfl) hT ?_
          have g_94 := rs_36 hWt
          refine e_istore (ls2 := [_, _, _, _, _, _, _, _]) dX11_count_97 (Nat.le_of_ble_eq_true rfl) rfl ?_
          exact m_count_bad1 hT (WR.up hW ⟨by decide, by decide⟩) hw rfl (M 50 16 - M 50 36).toNat 0 _ _ (by show 0 + _ = (M 50 16 - M 50 36).toNat; omega) ⟨by decide, by decide⟩ (by show M 50 36 = M 50 36 + ((0 : Nat) : Int); omega)
        · exact absurd c_41 (by decide)
    · simp only [bi_z, Classical.not_not] at c_8
      exfalso; omega
  ·
    refine e_aload_n dX11_count_0 rfl ?_
    refine e_iload_n dX11_count_1 rfl ?_
    refine e_iconst dX11_count_2 ?_
    refine e_bipush dX11_count_3 (by decide) ?_
    refine e_cS (as := [_, _, _]) dX11_count_5 k_X11_in l_X11_105 s_X11_in rfl rfl rfl rfl (Nat.le_of_ble_eq_true rfl) ⟨by decide, by decide⟩ (Nat.le_of_ble_eq_true rfl) (by decide) (m_in (by first | assumption | exact ⟨by decide, by decide⟩ | exact ⟨by omega, by omega⟩) (by first | assumption | exact ⟨by decide, by decide⟩ | exact ⟨by omega, by omega⟩) (by first | assumption | exact ⟨by decide, by decide⟩ | exact ⟨by omega, by omega⟩)) ?_
    refine e_if_eq (tgt := 15) dX11_count_8 (by decide) bi_iI (fun c_8 => ?_) (fun c_8 => ?_)
    · simp only [bi_z, Classical.not_not] at c_8
      exfalso; omega
    · simp only [bi_z, Classical.not_not] at c_8
      refine e_iconst dX11_count_11 ?_
      refine e_goto (tgt := 16) dX11_count_12 (by decide) ?_
      refine m_putI (by decide) dX11_count_16 f_X11_101 rfl hT ⟨by omega, by omega⟩ ?_
      refine e_iconst dX11_count_19 ?_
      refine e_istore_n (ls2 := [_, _, _, _, _, _, _, _]) dX11_count_20 (Nat.le_of_ble_eq_true rfl) rfl ?_
      refine e_iconst dX11_count_21 ?_
      refine e_istore_n (ls2 := [_, _, _, _, _, _, _, _]) dX11_count_22 (Nat.le_of_ble_eq_true rfl) rfl ?_
      refine e_iconst dX11_count_23 ?_
      refine e_istore (ls2 := [_, _, _, _, _, _, _, _]) dX11_count_24 (Nat.le_of_ble_eq_true rfl) rfl ?_
      refine e_iconst dX11_count_26 ?_
      refine e_istore (ls2 := [_, _, _, _, _, _, _, _]) dX11_count_27 (Nat.le_of_ble_eq_true rfl) rfl ?_
      refine m_count_1 hT (WR.up hW ⟨by decide, by decide⟩) rfl ?_ 20000 0 _ _ _ _ (by omega) rfl rfl rfl rfl
      have hWt : WR (thr M 0) := WR.up hW ⟨by decide, by decide⟩
      refine e_iconst dX11_count_90 ?_
      refine e_istore (ls2 := [_, _, _, _, _, _, _, _]) dX11_count_91 (Nat.le_of_ble_eq_true rfl) rfl ?_
      refine e_aload_n dX11_count_93 rfl ?_
      refine m_getI (by decide) dX11_count_94 f_X11_258 (Or.inl rfl) hT ?_
      have g_94 := rs_36 hWt
      refine e_istore (ls2 := [_, _, _, _, _, _, _, _]) dX11_count_97 (Nat.le_of_ble_eq_true rfl) rfl ?_
      have r1 := smB_rg (q_us M 50 41 0) 31 20000
      have r2 := sm_rg (M := q_us M 50 41 0) hWt 32 (Or.inl rfl) 20000
      have r3 := sm_rg (M := q_us M 50 41 0) hWt 33 (Or.inr rfl) 20000
      rw [countF_e e0]
      exact m_count_2 hT (WR.up hW ⟨by decide, by decide⟩) (Classical.not_not.mp e0) ⟨by omega, by omega⟩ ⟨by omega, by omega⟩ ⟨by omega, by omega⟩ rfl (M 50 16 - M 50 36).toNat 0 _ _ (by show 0 + _ = (M 50 16 - M 50 36).toNat; omega) rfl (by show M 50 36 = M 50 36 + ((0 : Nat) : Int); omega)
theorem lsI_01 (M : q_S) (c : Int) : ∀ n, lsI M c n = 0 ∨ lsI M c n = 1 := by
  intro n
  cases n with
  | zero => exact Or.inl rfl
  | succ n => simp only [lsI]; split <;> simp
theorem lsI_congr {A B : q_S} {c : Int} (h : ∀ k, A 31 k = B 31 k ∧ A 32 k = B 32 k ∧ A 33 k = B 33 k) : ∀ n, lsI A c n = lsI B c n := by
  intro n
  induction n with
  | zero => rfl
  | succ n ih => simp only [lsI, ih, (h _).1, (h _).2.1, (h _).2.2]
theorem ltF_o {M : q_S} {t j : Int} (h : t ≠ 40) : ∀ k, (ltF M k).2 t j = M t j := by
  intro k
  induction k with
  | zero => rfl
  | succ k ih =>
    simp only [ltF]; split
    · exact ih
    · simp only []; rw [cutS_o h]; exact ih
theorem wr_ltF {M : q_S} (h : WR M) : ∀ k, WR (ltF M k).2 := by
  intro k
  induction k with
  | zero => exact h
  | succ k ih =>
    simp only [ltF]; split
    · exact ih
    · exact wr_cutS ih _
set_option maxRecDepth 20000 in
set_option maxHeartbeats 4000000 in
theorem m_lost_i {K : q_K} {M C : q_S} {a : Nat} (hT : K a = (12, 0, 50)) (hW : WR M) {Q : q_Q2} {n v c : Int} (hc : 0 ≤ c ∧ c ≤ 9999999999999) (H : q_E mX11_lost 129 [some (q_R a), some (q_I n), some (q_I v), none, some (q_I (lsI M c (ncut c).toNat)), none, none] [] K (cutS M c) C 0 0 (Q)) : ∀ (r k : Nat) (y s i : Int) (S : q_S), (k + r = (ncut c).toNat) → (s = lsI M c k) → (i = k) → (S = cutS M c) → (y = ncut c) → (WR S) → q_E mX11_lost 48 [some (q_R a), some (q_I n), some (q_I v), some (q_I y), some (q_I s), some (q_I i), none] [] K S C 0 0 (Q) := by
  have gn := ncut_rg c
  have gl := mlen_12 hc
  intro r
  induction r with
  | zero =>
    intro k y s i S h1 h2 h3 h4 h6 hS
    refine e_iload dX11_lost_48 rfl ?_
    refine e_iload_n dX11_lost_50 rfl ?_
    refine e_icmp_ge (tgt := 129) dX11_lost_51 (by decide) ⟨by omega, by omega⟩ ⟨by omega, by omega⟩ (fun c_51 => ?_) (fun c_51 => ?_)
    · refine e_drop (k := 3) (ls2 := [_, _, _, _, _, _, _]) rfl ?_
      refine e_drop (k := 5) (ls2 := [_, _, _, _, _, _, _]) rfl ?_
      have e9 : (ncut c).toNat = k := by omega
      rw [e9] at H
      rw [h2, h4]
      exact H
    · exfalso; omega
  | succ r ih =>
    intro k y s i S h1 h2 h3 h4 h6 hS
    refine e_iload dX11_lost_48 rfl ?_
    refine e_iload_n dX11_lost_50 rfl ?_
    refine e_icmp_ge (tgt := 129) dX11_lost_51 (by decide) ⟨by first | omega | (have := lsI_01 M c k; omega), by first | omega | (have := lsI_01 M c k; omega)⟩ ⟨by omega, by omega⟩ (fun c_51 => ?_) (fun c_51 => ?_)
    · exfalso; omega
    · have e40 : S 40 i = pce c k := by rw [h4, h3]; exact cutS_40 (by omega) (by omega)
      have e31 : ∀ j, S 31 j = M 31 j := by intro j; rw [h4]; exact cutS_o (by decide)
      have e32 : ∀ j, S 32 j = M 32 j := by intro j; rw [h4]; exact cutS_o (by decide)
      have e33 : ∀ j, S 33 j = M 33 j := by intro j; rw [h4]; exact cutS_o (by decide)
      have g40 : 0 ≤ S 40 i ∧ S 40 i ≤ 19999 := hS 40 i
      refine e_aload_n dX11_lost_54 rfl ?_
      refine m_getR (kt := (20, 20000, 31)) (by decide) dX11_lost_55 f_X11_83 hT rfl (Nat.succ_ne_zero _) (fun q_55 h_55 => ?_)
      refine e_aload_n dX11_lost_58 rfl ?_
      refine m_getR (kt := (20, 12, 40)) (by decide) dX11_lost_59 f_X11_95 hT rfl (Nat.succ_ne_zero _) (fun q_59 h_59 => ?_)
      refine e_iload dX11_lost_62 rfl ?_
      refine m_iaw (by decide) (rg_40 hS) dX11_lost_64 h_59 (by omega) (by omega) (fun g_64 => ?_)
      refine m_iaw (by decide) (rg_31 hS) dX11_lost_65 h_55 (by omega) (by omega) (fun g_65 => ?_)
      refine e_if_le (tgt := 88) dX11_lost_66 (by decide) ⟨by first | omega | (have := lsI_01 M c k; omega), by first | omega | (have := lsI_01 M c k; omega)⟩ (fun c_66 => ?_) (fun c_66 => ?_)
      · refine e_iconst dX11_lost_88 ?_
        refine e_istore (ls2 := [_, _, _, _, _, _, _]) dX11_lost_89 (Nat.le_of_ble_eq_true rfl) rfl ?_
        refine e_iload dX11_lost_91 rfl ?_
        refine e_if_ne (tgt := 116) dX11_lost_93 (by decide) ⟨by first | omega | (have := lsI_01 M c k; omega), by first | omega | (have := lsI_01 M c k; omega)⟩ (fun c_93 => ?_) (fun c_93 => ?_)
        · refine e_iconst dX11_lost_116 ?_
          refine e_goto (tgt := 121) dX11_lost_117 (by decide) ?_
          refine e_istore (ls2 := [_, _, _, _, _, _, _]) dX11_lost_121 (Nat.le_of_ble_eq_true rfl) rfl ?_
          refine e_iinc (ls2 := [_, _, _, _, _, _, _]) dX11_lost_123 rfl (Nat.le_of_ble_eq_true rfl) rfl ?_
          refine e_goto (tgt := 48) dX11_lost_126 (by decide) ?_
          refine e_drop (k := 6) (ls2 := [_, _, _, _, _, _, _]) rfl ?_
          exact ih (k + 1) _ _ _ _ (by omega) (by simp only [lsI, ← h2, ← e31, ← e32, ← e33, ← e40]; split <;> first | rfl | (exfalso; omega)) (by omega) h4 h6 hS
        · refine e_iload dX11_lost_96 rfl ?_
          refine e_if_ne (tgt := 120) dX11_lost_98 (by decide) ⟨by decide, by decide⟩ (fun c_98 => ?_) (fun c_98 => ?_)
          · exact absurd c_98 (by decide)
          · refine e_aload_n dX11_lost_101 rfl ?_
            refine m_getR (kt := (20, 20000, 33)) (by decide) dX11_lost_102 f_X11_89 hT rfl (Nat.succ_ne_zero _) (fun q_102 h_102 => ?_)
            refine e_aload_n dX11_lost_105 rfl ?_
            refine m_getR (kt := (20, 12, 40)) (by decide) dX11_lost_106 f_X11_95 hT rfl (Nat.succ_ne_zero _) (fun q_106 h_106 => ?_)
            refine e_iload dX11_lost_109 rfl ?_
            refine m_iaw (by decide) (rg_40 hS) dX11_lost_111 h_106 (by omega) (by omega) (fun g_111 => ?_)
            refine m_iaw (by decide) (rg_33 hS) dX11_lost_112 h_102 (by omega) (by omega) (fun g_112 => ?_)
            refine e_if_ne (tgt := 120) dX11_lost_113 (by decide) ⟨by first | omega | (have := lsI_01 M c k; omega), by first | omega | (have := lsI_01 M c k; omega)⟩ (fun c_113 => ?_) (fun c_113 => ?_)
            · refine e_iconst dX11_lost_120 ?_
              refine e_istore (ls2 := [_, _, _, _, _, _, _]) dX11_lost_121 (Nat.le_of_ble_eq_true rfl) rfl ?_
              refine e_iinc (ls2 := [_, _, _, _, _, _, _]) dX11_lost_123 rfl (Nat.le_of_ble_eq_true rfl) rfl ?_
              refine e_goto (tgt := 48) dX11_lost_126 (by decide) ?_
              refine e_drop (k := 6) (ls2 := [_, _, _, _, _, _, _]) rfl ?_
              exact ih (k + 1) _ _ _ _ (by omega) (by simp only [lsI, ← h2, ← e31, ← e32, ← e33, ← e40]; split <;> first | rfl | (exfalso; omega)) (by omega) h4 h6 hS
            · refine e_iconst dX11_lost_116 ?_
              refine e_goto (tgt := 121) dX11_lost_117 (by decide) ?_
              refine e_istore (ls2 := [_, _, _, _, _, _, _]) dX11_lost_121 (Nat.le_of_ble_eq_true rfl) rfl ?_
              refine e_iinc (ls2 := [_, _, _, _, _, _, _]) dX11_lost_123 rfl (Nat.le_of_ble_eq_true rfl) rfl ?_
              refine e_goto (tgt := 48) dX11_lost_126 (by decide) ?_
              refine e_drop (k := 6) (ls2 := [_, _, _, _, _, _, _]) rfl ?_
              exact ih (k + 1) _ _ _ _ (by omega) (by simp only [lsI, ← h2, ← e31, ← e32, ← e33, ← e40]; split <;> first | rfl | (exfalso; omega)) (by omega) h4 h6 hS
      · refine e_aload_n dX11_lost_69 rfl ?_
        refine m_getR (kt := (20, 20000, 32)) (by decide) dX11_lost_70 f_X11_86 hT rfl (Nat.succ_ne_zero _) (fun q_70 h_70 => ?_)
        refine e_aload_n dX11_lost_73 rfl ?_
        refine m_getR (kt := (20, 12, 40)) (by decide) dX11_lost_74 f_X11_95 hT rfl (Nat.succ_ne_zero _) (fun q_74 h_74 => ?_)
        refine e_iload dX11_lost_77 rfl ?_
        refine m_iaw (by decide) (rg_40 hS) dX11_lost_79 h_74 (by omega) (by omega) (fun g_79 => ?_)
        refine m_iaw (by decide) (rg_32 hS) dX11_lost_80 h_70 (by omega) (by omega) (fun g_80 => ?_)
        refine e_if_ne (tgt := 88) dX11_lost_81 (by decide) ⟨by first | omega | (have := lsI_01 M c k; omega), by first | omega | (have := lsI_01 M c k; omega)⟩ (fun c_81 => ?_) (fun c_81 => ?_)
        · refine e_iconst dX11_lost_88 ?_
          refine e_istore (ls2 := [_, _, _, _, _, _, _]) dX11_lost_89 (Nat.le_of_ble_eq_true rfl) rfl ?_
          refine e_iload dX11_lost_91 rfl ?_
          refine e_if_ne (tgt := 116) dX11_lost_93 (by decide) ⟨by first | omega | (have := lsI_01 M c k; omega), by first | omega | (have := lsI_01 M c k; omega)⟩ (fun c_93 => ?_) (fun c_93 => ?_)
          · refine e_iconst dX11_lost_116 ?_
            refine e_goto (tgt := 121) dX11_lost_117 (by decide) ?_
            refine e_istore (ls2 := [_, _, _, _, _, _, _]) dX11_lost_121 (Nat.le_of_ble_eq_true rfl) rfl ?_
            refine e_iinc (ls2 := [_, _, _, _, _, _, _]) dX11_lost_123 rfl (Nat.le_of_ble_eq_true rfl) rfl ?_
            refine e_goto (tgt := 48) dX11_lost_126 (by decide) ?_
            refine e_drop (k := 6) (ls2 := [_, _, _, _, _, _, _]) rfl ?_
            exact ih (k + 1) _ _ _ _ (by omega) (by simp only [lsI, ← h2, ← e31, ← e32, ← e33, ← e40]; split <;> first | rfl | (exfalso; omega)) (by omega) h4 h6 hS
          · refine e_iload dX11_lost_96 rfl ?_
            refine e_if_ne (tgt := 120) dX11_lost_98 (by decide) ⟨by decide, by decide⟩ (fun c_98 => ?_) (fun c_98 => ?_)
            · exact absurd c_98 (by decide)
            · refine e_aload_n dX11_lost_101 rfl ?_
              refine m_getR (kt := (20, 20000, 33)) (by decide) dX11_lost_102 f_X11_89 hT rfl (Nat.succ_ne_zero _) (fun q_102 h_102 => ?_)
              refine e_aload_n dX11_lost_105 rfl ?_
              refine m_getR (kt := (20, 12, 40)) (by decide) dX11_lost_106 f_X11_95 hT rfl (Nat.succ_ne_zero _) (fun q_106 h_106 => ?_)
              refine e_iload dX11_lost_109 rfl ?_
              refine m_iaw (by decide) (rg_40 hS) dX11_lost_111 h_106 (by omega) (by omega) (fun g_111 => ?_)
              refine m_iaw (by decide) (rg_33 hS) dX11_lost_112 h_102 (by omega) (by omega) (fun g_112 => ?_)
              refine e_if_ne (tgt := 120) dX11_lost_113 (by decide) ⟨by first | omega | (have := lsI_01 M c k; omega), by first | omega | (have := lsI_01 M c k; omega)⟩ (fun c_113 => ?_) (fun c_113 => ?_)
              · refine e_iconst dX11_lost_120 ?_
                refine e_istore (ls2 := [_, _, _, _, _, _, _]) dX11_lost_121 (Nat.le_of_ble_eq_true rfl) rfl ?_
                refine e_iinc (ls2 := [_, _, _, _, _, _, _]) dX11_lost_123 rfl (Nat.le_of_ble_eq_true rfl) rfl ?_
                refine e_goto (tgt := 48) dX11_lost_126 (by decide) ?_
                refine e_drop (k := 6) (ls2 := [_, _, _, _, _, _, _]) rfl ?_
                exact ih (k + 1) _ _ _ _ (by omega) (by simp only [lsI, ← h2, ← e31, ← e32, ← e33, ← e40]; split <;> first | rfl | (exfalso; omega)) (by omega) h4 h6 hS
              · refine e_iconst dX11_lost_116 ?_
                refine e_goto (tgt := 121) dX11_lost_117 (by decide) ?_
                refine e_istore (ls2 := [_, _, _, _, _, _, _]) dX11_lost_121 (Nat.le_of_ble_eq_true rfl) rfl ?_
                refine e_iinc (ls2 := [_, _, _, _, _, _, _]) dX11_lost_123 rfl (Nat.le_of_ble_eq_true rfl) rfl ?_
                refine e_goto (tgt := 48) dX11_lost_126 (by decide) ?_
                refine e_drop (k := 6) (ls2 := [_, _, _, _, _, _, _]) rfl ?_
                exact ih (k + 1) _ _ _ _ (by omega) (by simp only [lsI, ← h2, ← e31, ← e32, ← e33, ← e40]; split <;> first | rfl | (exfalso; omega)) (by omega) h4 h6 hS
        · refine e_iconst dX11_lost_84 ?_
          refine e_goto (tgt := 89) dX11_lost_85 (by decide) ?_
          refine e_istore (ls2 := [_, _, _, _, _, _, _]) dX11_lost_89 (Nat.le_of_ble_eq_true rfl) rfl ?_
          refine e_iload dX11_lost_91 rfl ?_
          refine e_if_ne (tgt := 116) dX11_lost_93 (by decide) ⟨by first | omega | (have := lsI_01 M c k; omega), by first | omega | (have := lsI_01 M c k; omega)⟩ (fun c_93 => ?_) (fun c_93 => ?_)
          · refine e_iconst dX11_lost_116 ?_
            refine e_goto (tgt := 121) dX11_lost_117 (by decide) ?_
            refine e_istore (ls2 := [_, _, _, _, _, _, _]) dX11_lost_121 (Nat.le_of_ble_eq_true rfl) rfl ?_
            refine e_iinc (ls2 := [_, _, _, _, _, _, _]) dX11_lost_123 rfl (Nat.le_of_ble_eq_true rfl) rfl ?_
            refine e_goto (tgt := 48) dX11_lost_126 (by decide) ?_
            refine e_drop (k := 6) (ls2 := [_, _, _, _, _, _, _]) rfl ?_
            exact ih (k + 1) _ _ _ _ (by omega) (by simp only [lsI, ← h2, ← e31, ← e32, ← e33, ← e40]; split <;> first | rfl | (exfalso; omega)) (by omega) h4 h6 hS
          · refine e_iload dX11_lost_96 rfl ?_
            refine e_if_ne (tgt := 120) dX11_lost_98 (by decide) ⟨by decide, by decide⟩ (fun c_98 => ?_) (fun c_98 => ?_)
            · refine e_iconst dX11_lost_120 ?_
              refine e_istore (ls2 := [_, _, _, _, _, _, _]) dX11_lost_121 (Nat.le_of_ble_eq_true rfl) rfl ?_
              refine e_iinc (ls2 := [_, _, _, _, _, _, _]) dX11_lost_123 rfl (Nat.le_of_ble_eq_true rfl) rfl ?_
              refine e_goto (tgt := 48) dX11_lost_126 (by decide) ?_
              refine e_drop (k := 6) (ls2 := [_, _, _, _, _, _, _]) rfl ?_
              exact ih (k + 1) _ _ _ _ (by omega) (by simp only [lsI, ← h2, ← e31, ← e32, ← e33, ← e40]; split <;> first | rfl | (exfalso; omega)) (by omega) h4 h6 hS
            · exact absurd c_98 (by decide)
set_option maxRecDepth 20000 in
set_option maxHeartbeats 4000000 in
theorem m_lost_l {K : q_K} {M C : q_S} {a : Nat} (hT : K a = (12, 0, 50)) (hW : WR M) : ∀ (r k : Nat) (n v : Int) (S : q_S), (k + r = (M 50 16).toNat) → ((n, S) = ltF (thr M 0) k) → (v = k) → (0 ≤ n ∧ n ≤ k) → (WR S) → q_E mX11_lost 9 [some (q_R a), some (q_I n), some (q_I v), none, none, none, none] [] K S C 0 0 (e_is (some (q_I (lostF M).1)) K (lostF M).2 C) := by
  intro r
  induction r with
  | zero =>
    intro k n v S h1 h2 h3 h4 hS
    have e16 : S 50 16 = M 50 16 := by have := ltF_o (M := thr M 0) (t := 50) (j := 16) (by decide) k; rw [← h2] at this; exact this
    have hx16 := rs_16 hW
    refine e_iload_n dX11_lost_9 rfl ?_
    refine e_aload_n dX11_lost_10 rfl ?_
    refine m_getI (by decide) dX11_lost_11 f_X11_155 (Or.inl rfl) hT ?_
    have g_11 := rs_16 hS
    refine e_icmp_ge (tgt := 148) dX11_lost_14 (by decide) ⟨by omega, by omega⟩ ⟨by omega, by omega⟩ (fun c_14 => ?_) (fun c_14 => ?_)
    · refine e_iload_n dX11_lost_148 rfl ?_
      exact e_iret dX11_lost_149 (Or.inl rfl) (e_ok (by unfold lostF; rw [show (M 50 16).toNat = k by omega, ← h2]) (by unfold lostF; rw [show (M 50 16).toNat = k by omega, ← h2]) rfl)
    · exfalso; omega
  | succ r ih =>
    intro k n v S h1 h2 h3 h4 hS
    have e16 : S 50 16 = M 50 16 := by have := ltF_o (M := thr M 0) (t := 50) (j := 16) (by decide) k; rw [← h2] at this; exact this
    have hx16 := rs_16 hW
    have g21 : 0 ≤ S 21 v ∧ S 21 v ≤ 9999999999999 := hS 21 v
    refine e_iload_n dX11_lost_9 rfl ?_
    refine e_aload_n dX11_lost_10 rfl ?_
    refine m_getI (by decide) dX11_lost_11 f_X11_155 (Or.inl rfl) hT ?_
    have g_11 := rs_16 hS
    refine e_icmp_ge (tgt := 148) dX11_lost_14 (by decide) ⟨by omega, by omega⟩ ⟨by omega, by omega⟩ (fun c_14 => ?_) (fun c_14 => ?_)
    · exfalso; omega
    · refine e_aload_n dX11_lost_17 rfl ?_
      refine m_getR (kt := (20, 120, 22)) (by decide) dX11_lost_18 f_X11_59 hT rfl (Nat.succ_ne_zero _) (fun q_18 h_18 => ?_)
      refine e_iload_n dX11_lost_21 rfl ?_
      refine m_iaw (by decide) (rg_22 hS) dX11_lost_22 h_18 (by omega) (by omega) (fun g_22 => ?_)
      refine e_iconst dX11_lost_23 ?_
      refine e_icmp_ne (tgt := 31) dX11_lost_24 (by decide) ⟨by omega, by omega⟩ ⟨by omega, by omega⟩ (fun c_24 => ?_) (fun c_24 => ?_)
      · refine e_aload_n dX11_lost_31 rfl ?_
        refine e_aload_n dX11_lost_32 rfl ?_
        refine m_getR (kt := (21, 120, 21)) (by decide) dX11_lost_33 f_X11_56 hT rfl (Nat.succ_ne_zero _) (fun q_33 h_33 => ?_)
        refine e_iload_n dX11_lost_36 rfl ?_
        refine m_law (by decide) (rg_21 hS) dX11_lost_37 h_33 (by omega) (by omega) (fun g_37 => ?_)
        refine e_cV (as := [_]) (ci := 11) dX11_lost_38 k_X11_cuts l_X11_202 i_X11_cuts v_X11_cuts hT rfl (by decide) ⟨_, _, rfl⟩ rfl rfl rfl rfl (Nat.le_of_ble_eq_true rfl) ⟨by decide, by decide⟩ (Nat.le_of_ble_eq_true rfl) (by decide) (m_cuts hT hS g21) ?_
        refine e_istore_n (ls2 := [_, _, _, _, _, _, _]) dX11_lost_41 (Nat.le_of_ble_eq_true rfl) rfl ?_
        refine e_iconst dX11_lost_42 ?_
        refine e_istore (ls2 := [_, _, _, _, _, _, _]) dX11_lost_43 (Nat.le_of_ble_eq_true rfl) rfl ?_
        refine e_iconst dX11_lost_45 ?_
        refine e_istore (ls2 := [_, _, _, _, _, _, _]) dX11_lost_46 (Nat.le_of_ble_eq_true rfl) rfl ?_
        refine m_lost_i hT hS g21 ?_ (ncut (S 21 v)).toNat 0 _ _ _ _ (by have := (ncut_rg (S 21 v)).1; omega) rfl rfl rfl rfl (wr_cutS hS _)
        refine e_iload_n dX11_lost_129 rfl ?_
        refine e_iload dX11_lost_130 rfl ?_
        refine e_if_eq (tgt := 139) dX11_lost_132 (by decide) ⟨by first | omega | (have := lsI_01 S (S 21 v) (ncut (S 21 v)).toNat; omega), by first | omega | (have := lsI_01 S (S 21 v) (ncut (S 21 v)).toNat; omega)⟩ (fun c_132 => ?_) (fun c_132 => ?_)
        · refine e_iconst dX11_lost_139 ?_
          refine e_iadd dX11_lost_140 ?_
          refine e_istore_n (ls2 := [_, _, _, _, _, _, _]) dX11_lost_141 (Nat.le_of_ble_eq_true rfl) rfl ?_
          refine e_iinc (ls2 := [_, _, _, _, _, _, _]) dX11_lost_142 rfl (Nat.le_of_ble_eq_true rfl) rfl ?_
          refine e_goto (tgt := 9) dX11_lost_145 (by decide) ?_
          refine e_drop (k := 4) (ls2 := [_, _, _, _, _, _, _]) rfl ?_
          exact ih (k + 1) _ _ _ (by omega) (by simp only [ltF, ← h2, ← h3]; rw [if_neg (by omega)]; first | rw [if_pos (by omega)] | rw [if_neg (by omega)]) (by omega) (by omega) (wr_cutS hS _)
        · refine e_iconst dX11_lost_135 ?_
          refine e_goto (tgt := 140) dX11_lost_136 (by decide) ?_
          refine e_iadd dX11_lost_140 ?_
          refine e_istore_n (ls2 := [_, _, _, _, _, _, _]) dX11_lost_141 (Nat.le_of_ble_eq_true rfl) rfl ?_
          refine e_iinc (ls2 := [_, _, _, _, _, _, _]) dX11_lost_142 rfl (Nat.le_of_ble_eq_true rfl) rfl ?_
          refine e_goto (tgt := 9) dX11_lost_145 (by decide) ?_
          refine e_drop (k := 4) (ls2 := [_, _, _, _, _, _, _]) rfl ?_
          exact ih (k + 1) _ _ _ (by omega) (by simp only [ltF, ← h2, ← h3]; rw [if_neg (by omega)]; first | rw [if_pos (by omega)] | rw [if_neg (by omega)]) (by omega) (by omega) (wr_cutS hS _)
      · refine e_iconst dX11_lost_27 ?_
        refine e_goto (tgt := 41) dX11_lost_28 (by decide) ?_
        refine e_istore_n (ls2 := [_, _, _, _, _, _, _]) dX11_lost_41 (Nat.le_of_ble_eq_true rfl) rfl ?_
        refine e_iconst dX11_lost_42 ?_
        refine e_istore (ls2 := [_, _, _, _, _, _, _]) dX11_lost_43 (Nat.le_of_ble_eq_true rfl) rfl ?_
        refine e_iconst dX11_lost_45 ?_
        refine e_istore (ls2 := [_, _, _, _, _, _, _]) dX11_lost_46 (Nat.le_of_ble_eq_true rfl) rfl ?_
        refine e_iload dX11_lost_48 rfl ?_
        refine e_iload_n dX11_lost_50 rfl ?_
        refine e_icmp_ge (tgt := 129) dX11_lost_51 (by decide) ⟨by decide, by decide⟩ ⟨by decide, by decide⟩ (fun c_51 => ?_) (fun c_51 => ?_)
        · refine e_iload_n dX11_lost_129 rfl ?_
          refine e_iload dX11_lost_130 rfl ?_
          refine e_if_eq (tgt := 139) dX11_lost_132 (by decide) ⟨by decide, by decide⟩ (fun c_132 => ?_) (fun c_132 => ?_)
          · refine e_iconst dX11_lost_139 ?_
            refine e_iadd dX11_lost_140 ?_
            refine e_istore_n (ls2 := [_, _, _, _, _, _, _]) dX11_lost_141 (Nat.le_of_ble_eq_true rfl) rfl ?_
            refine e_iinc (ls2 := [_, _, _, _, _, _, _]) dX11_lost_142 rfl (Nat.le_of_ble_eq_true rfl) rfl ?_
            refine e_goto (tgt := 9) dX11_lost_145 (by decide) ?_
            refine e_drop (k := 3) (ls2 := [_, _, _, _, _, _, _]) rfl ?_
            refine e_drop (k := 4) (ls2 := [_, _, _, _, _, _, _]) rfl ?_
            refine e_drop (k := 5) (ls2 := [_, _, _, _, _, _, _]) rfl ?_
            exact ih (k + 1) _ _ _ (by omega) (by simp only [ltF, ← h2, ← h3]; rw [if_pos (by omega)]; congr 1; omega) (by omega) (by omega) hS
          · exact absurd c_132 (by decide)
        · exact absurd c_51 (by decide)
set_option maxRecDepth 20000 in
set_option maxHeartbeats 4000000 in
theorem m_lost {K : q_K} {M C : q_S} {a : Nat} (hT : K a = (12, 0, 50)) (hW : WR M)  : q_E mX11_lost 0 [some (q_R a), none, none, none, none, none, none] [] K M C 0 0 (e_is (some (q_I (lostF M).1)) K (lostF M).2 C) := by
  refine e_aload_n dX11_lost_0 rfl ?_
  refine e_iconst dX11_lost_1 ?_
  refine m_putI (by decide) dX11_lost_2 f_X11_101 rfl hT ⟨by omega, by omega⟩ ?_
  refine e_iconst dX11_lost_5 ?_
  refine e_istore_n (ls2 := [_, _, _, _, _, _, _]) dX11_lost_6 (Nat.le_of_ble_eq_true rfl) rfl ?_
  refine e_iconst dX11_lost_7 ?_
  refine e_istore_n (ls2 := [_, _, _, _, _, _, _]) dX11_lost_8 (Nat.le_of_ble_eq_true rfl) rfl ?_
  exact m_lost_l hT hW (M 50 16).toNat 0 0 0 (thr M 0) (by omega) rfl rfl ⟨by decide, by decide⟩ (WR.up hW ⟨by decide, by decide⟩)
