theorem wr_looks {M : q_S} (h : WR M) {p : Int} (hp : 0 ≤ p ∧ p < 48) (hc : CT (looksF M p).2) : WR (looksF M p).2 := by
  have g := latestOf_rg h (p % 16)
  have g2 := rs_16 h
  exact wr_look2 (WR.up h ⟨(show (0 : Int) ≤ 0 by decide), (show (0 : Int) ≤ 1000000 by decide)⟩) hp ⟨by omega, by omega⟩ hc
theorem pmi_looks {M : q_S} (h : PMI M) (p : Int) : PMI (looksF M p).2 := pmi_look2 (h.us (by decide) (by decide) (fun g => absurd g (by decide))) _ _
set_option maxRecDepth 20000 in
set_option maxHeartbeats 4000000 in
theorem m_upEnd {K : q_K} {C : q_S} {a : Nat} (hT : K a = (12, 0, 50)) {S : q_S} (hS : WR S) {m : Int} (hm : 0 ≤ m ∧ m ≤ 2) (n : Int) : q_E mX11_upload 66 [some (q_R a), some (q_I m), none, some (q_I n), some (q_I (-1)), some (q_I (fnF S m 16))] [] K S C 0 0 (e_is (some (q_I n)) K S C) := by
  have hf0 := fnF_rg S m 16
  refine e_iload dX11_upload_66 rfl ?_
  refine e_iconst dX11_upload_68 ?_
  refine e_icmp_eq (tgt := 158) dX11_upload_69 (by decide) ⟨by omega, by omega⟩ ⟨by omega, by omega⟩ (fun c_69 => ?_) (fun c_69 => ?_)
  · refine e_iload_n dX11_upload_158 rfl ?_
    exact e_iret dX11_upload_159 (Or.inl rfl) (e_ok rfl rfl rfl)
  · refine e_iload dX11_upload_72 rfl ?_
    refine e_iconst dX11_upload_74 ?_
    refine e_icmp_eq (tgt := 158) dX11_upload_75 (by decide) ⟨by decide, by decide⟩ ⟨by decide, by decide⟩ (fun c_75 => ?_) (fun c_75 => ?_)
    · refine e_iload_n dX11_upload_158 rfl ?_
      exact e_iret dX11_upload_159 (Or.inl rfl) (e_ok rfl rfl rfl)
    · exact absurd c_75 (by decide)
set_option maxRecDepth 20000 in
set_option maxHeartbeats 4000000 in
theorem m_upload_l {K : q_K} {C : q_S} {a : Nat} (hT : K a = (12, 0, 50)) {m : Int} (hm : 0 ≤ m ∧ m ≤ 2) : ∀ (r : Nat) (n l : Int) (S : q_S), WR S → PMI S → CT (upF m r n l S).2 → ntF S m 16 < r → (-1 ≤ l ∧ l ≤ 100) → (0 ≤ n ∧ n + r ≤ 100) → q_E mX11_upload 66 [some (q_R a), some (q_I m), none, some (q_I n), some (q_I l), some (q_I (fnF S m 16))] [] K S C 0 0 (e_is (some (q_I (upF m r n l S).1)) K (upF m r n l S).2 C) := by
  intro r
  induction r with
  | zero =>
    intro n l S hS hP hC h4 h5 h6
    have hn16 := ntF_rg S m 16
    exfalso; omega
  | succ r ih =>
    intro n l S hS hP hC h4 h5 h6
    have hfs := fnF_sp S m 16
    have hn16 := ntF_rg S m 16
    have hf0 := fnF_rg S m 16
    have hg3 : 0 ≤ S 3 (fnF S m 16) ∧ S 3 (fnF S m 16) ≤ 9999999999999 := hS 3 _
    simp only [upF] at hC ⊢
    by_cases hz : (fnF S m 16) = -1 ∨ l = -1
    · rw [if_pos hz] at hC ⊢
      refine e_iload dX11_upload_66 rfl ?_
      refine e_iconst dX11_upload_68 ?_
      refine e_icmp_eq (tgt := 158) dX11_upload_69 (by decide) ⟨by omega, by omega⟩ ⟨by omega, by omega⟩ (fun c_69 => ?_) (fun c_69 => ?_)
      · refine e_iload_n dX11_upload_158 rfl ?_
        exact e_iret dX11_upload_159 (Or.inl rfl) (e_ok rfl rfl rfl)
      · refine e_iload dX11_upload_72 rfl ?_
        refine e_iconst dX11_upload_74 ?_
        refine e_icmp_eq (tgt := 158) dX11_upload_75 (by decide) ⟨by omega, by omega⟩ ⟨by omega, by omega⟩ (fun c_75 => ?_) (fun c_75 => ?_)
        · refine e_iload_n dX11_upload_158 rfl ?_
          exact e_iret dX11_upload_159 (Or.inl rfl) (e_ok rfl rfl rfl)
        · exfalso; omega
    · rw [if_neg hz] at hC ⊢
      by_cases ho : ¬ isOtherP S (fnF S m 16)
      · have hfp : 0 ≤ (fnF S m 16) ∧ (fnF S m 16) < 48 := by omega
        have h8 : 0 < S 8 (fnF S m 16) := by omega
        rw [if_pos ho] at hC ⊢
        have hS2 : WR (q_us S 8 (fnF S m 16) 0) := (WR.up hS ⟨(show (0 : Int) ≤ 0 by decide), (show (0 : Int) ≤ 1000000 by decide)⟩)
        have hP2 : PMI (q_us S 8 (fnF S m 16) 0) := hP.us (by decide) (by decide) (fun g => absurd g (by decide))
        have hn2 : ntF (q_us S 8 (fnF S m 16) 0) m 16 = ntF S m 16 - 1 := by rw [ntF_us (by omega) h8, if_pos (by show (fnF S m 16) < 16 * m + 16; omega)]
        refine e_iload dX11_upload_66 rfl ?_
        refine e_iconst dX11_upload_68 ?_
        refine e_icmp_eq (tgt := 158) dX11_upload_69 (by decide) ⟨by omega, by omega⟩ ⟨by omega, by omega⟩ (fun c_69 => ?_) (fun c_69 => ?_)
        · exfalso; omega
        · refine e_iload dX11_upload_72 rfl ?_
          refine e_iconst dX11_upload_74 ?_
          refine e_icmp_eq (tgt := 158) dX11_upload_75 (by decide) ⟨by omega, by omega⟩ ⟨by omega, by omega⟩ (fun c_75 => ?_) (fun c_75 => ?_)
          · exfalso; omega
          · refine e_aload_n dX11_upload_78 rfl ?_
            refine e_iload dX11_upload_79 rfl ?_
            refine e_cV (as := [_]) (ci := 11) dX11_upload_81 k_X11_isOther l_X11_152 i_X11_isOther v_X11_isOther hT rfl (by decide) ⟨_, _, rfl⟩ rfl rfl rfl rfl (Nat.le_of_ble_eq_true rfl) ⟨by decide, by decide⟩ (Nat.le_of_ble_eq_true rfl) (by decide) (m_isOther hT hS ⟨by omega, by omega⟩) ?_
            refine e_if_ne (tgt := 98) dX11_upload_84 (by decide) bi_iI (fun c_84 => ?_) (fun c_84 => ?_)
            · simp only [bi_z, Classical.not_not] at c_84
              exfalso; first | exact ho c_84 | exact c_84 ho | exact ho (fun h => h c_84) | exact c_84 (fun h => ho h)
            · simp only [bi_z, Classical.not_not] at c_84
              refine e_aload_n dX11_upload_87 rfl ?_
              refine m_getR (kt := (20, 48, 8)) (by decide) dX11_upload_88 f_X11_29 hT rfl (Nat.succ_ne_zero _) (fun q_88 h_88 => ?_)
              refine e_iload dX11_upload_91 rfl ?_
              refine e_iconst dX11_upload_93 ?_
              refine m_iast (by decide) dX11_upload_94 h_88 (by omega) (by omega) ⟨by omega, by omega⟩ ?_
              refine e_goto (tgt := 148) dX11_upload_95 (by decide) ?_
              refine e_aload_n dX11_upload_148 rfl ?_
              refine e_iload_n dX11_upload_149 rfl ?_
              refine e_cV (as := [_]) (ci := 11) dX11_upload_150 k_X11_firstNoted l_X11_208 i_X11_firstNoted v_X11_firstNoted hT rfl (by decide) ⟨_, _, rfl⟩ rfl rfl rfl rfl (Nat.le_of_ble_eq_true rfl) ⟨by decide, by decide⟩ (Nat.le_of_ble_eq_true rfl) (by decide) (by first | exact m_firstNoted hT hS ⟨by omega, by omega⟩ | exact m_firstNoted hT hS2 ⟨by omega, by omega⟩ | exact m_firstNoted hT hS3 ⟨by omega, by omega⟩ | exact m_firstNoted hT hS4 ⟨by omega, by omega⟩ | exact m_firstNoted hT hS5 ⟨by omega, by omega⟩) ?_
              try simp only [lockF_thr, rightF_thr, latestOf_thr, asOfT_thr]
              refine e_istore (ls2 := [_, _, _, _, _, _]) dX11_upload_153 (Nat.le_of_ble_eq_true rfl) rfl ?_
              refine e_goto (tgt := 66) dX11_upload_155 (by decide) ?_
              exact ih _ _ _ hS2 hP2 hC (by omega) (by omega) (by omega)
      · by_cases h2 : S 2 (fnF S m 16) = 2
        · by_cases hs : (sendsF S (S 3 (fnF S m 16)) l).1 = -1
          · have hfp : 0 ≤ (fnF S m 16) ∧ (fnF S m 16) < 48 := by omega
            have h8 : 0 < S 8 (fnF S m 16) := by omega
            rw [if_neg ho, if_pos h2] at hC ⊢
            rw [if_pos hs] at hC ⊢
            have hC1 : CT (sendsF S (S 3 (fnF S m 16)) l).2 := hC
            have hok := sendsF_ok hS hP hC1
            have hS3 : WR (sendsF S (S 3 (fnF S m 16)) l).2 := hok.1
            have hP3 := hok.2
            have hn3 : ntF (sendsF S (S 3 (fnF S m 16)) l).2 m 16 = ntF S m 16 := ntF_congr (fun k => sendsF_8 _ _ _ _) m 16
            refine e_iload dX11_upload_66 rfl ?_
            refine e_iconst dX11_upload_68 ?_
            refine e_icmp_eq (tgt := 158) dX11_upload_69 (by decide) ⟨by omega, by omega⟩ ⟨by omega, by omega⟩ (fun c_69 => ?_) (fun c_69 => ?_)
            · exfalso; omega
            · refine e_iload dX11_upload_72 rfl ?_
              refine e_iconst dX11_upload_74 ?_
              refine e_icmp_eq (tgt := 158) dX11_upload_75 (by decide) ⟨by omega, by omega⟩ ⟨by omega, by omega⟩ (fun c_75 => ?_) (fun c_75 => ?_)
              · exfalso; omega
              · refine e_aload_n dX11_upload_78 rfl ?_
                refine e_iload dX11_upload_79 rfl ?_
                refine e_cV (as := [_]) (ci := 11) dX11_upload_81 k_X11_isOther l_X11_152 i_X11_isOther v_X11_isOther hT rfl (by decide) ⟨_, _, rfl⟩ rfl rfl rfl rfl (Nat.le_of_ble_eq_true rfl) ⟨by decide, by decide⟩ (Nat.le_of_ble_eq_true rfl) (by decide) (m_isOther hT hS ⟨by omega, by omega⟩) ?_
                refine e_if_ne (tgt := 98) dX11_upload_84 (by decide) bi_iI (fun c_84 => ?_) (fun c_84 => ?_)
                · simp only [bi_z, Classical.not_not] at c_84
                  refine e_aload_n dX11_upload_98 rfl ?_
                  refine m_getR (kt := (20, 48, 2)) (by decide) dX11_upload_99 f_X11_7 hT rfl (Nat.succ_ne_zero _) (fun q_99 h_99 => ?_)
                  refine e_iload dX11_upload_102 rfl ?_
                  refine m_iaw (by decide) (rg_2 hS) dX11_upload_104 h_99 (by omega) (by omega) (fun g_104 => ?_)
                  refine e_iconst dX11_upload_105 ?_
                  refine e_icmp_ne (tgt := 125) dX11_upload_106 (by decide) ⟨by omega, by omega⟩ ⟨by omega, by omega⟩ (fun c_106 => ?_) (fun c_106 => ?_)
                  · exfalso; omega
                  · refine e_aload_n dX11_upload_109 rfl ?_
                    refine e_aload_n dX11_upload_110 rfl ?_
                    refine m_getR (kt := (21, 48, 3)) (by decide) dX11_upload_111 f_X11_13 hT rfl (Nat.succ_ne_zero _) (fun q_111 h_111 => ?_)
                    refine e_iload dX11_upload_114 rfl ?_
                    refine m_law (by decide) (rg_3 hS) dX11_upload_116 h_111 (by omega) (by omega) (fun g_116 => ?_)
                    refine e_iload dX11_upload_117 rfl ?_
                    refine e_cV (as := [_, _]) (ci := 11) dX11_upload_119 k_X11_sends l_X11_211 i_X11_sends v_X11_sends hT rfl (by decide) ⟨_, _, rfl⟩ rfl rfl rfl rfl (Nat.le_of_ble_eq_true rfl) ⟨by decide, by decide⟩ (Nat.le_of_ble_eq_true rfl) (by decide) (m_sends hT hS hP hg3 ⟨by omega, by omega⟩ hC1) ?_
                    refine e_goto (tgt := 127) dX11_upload_122 (by decide) ?_
                    refine e_istore (ls2 := [_, _, _, _, _, _]) dX11_upload_127 (Nat.le_of_ble_eq_true rfl) rfl ?_
                    refine e_iload_n dX11_upload_129 rfl ?_
                    refine e_iload dX11_upload_130 rfl ?_
                    refine e_iconst dX11_upload_132 ?_
                    refine e_icmp_ne (tgt := 140) dX11_upload_133 (by decide) ⟨by omega, by omega⟩ ⟨by omega, by omega⟩ (fun c_133 => ?_) (fun c_133 => ?_)
                    · exfalso; omega
                    · refine e_iconst dX11_upload_136 ?_
                      refine e_goto (tgt := 146) dX11_upload_137 (by decide) ?_
                      refine e_iadd dX11_upload_146 ?_
                      refine e_istore_n (ls2 := [_, _, _, _, _, _]) dX11_upload_147 (Nat.le_of_ble_eq_true rfl) rfl ?_
                      refine e_aload_n dX11_upload_148 rfl ?_
                      refine e_iload_n dX11_upload_149 rfl ?_
                      refine e_cV (as := [_]) (ci := 11) dX11_upload_150 k_X11_firstNoted l_X11_208 i_X11_firstNoted v_X11_firstNoted hT rfl (by decide) ⟨_, _, rfl⟩ rfl rfl rfl rfl (Nat.le_of_ble_eq_true rfl) ⟨by decide, by decide⟩ (Nat.le_of_ble_eq_true rfl) (by decide) (by first | exact m_firstNoted hT hS ⟨by omega, by omega⟩ | exact m_firstNoted hT hS2 ⟨by omega, by omega⟩ | exact m_firstNoted hT hS3 ⟨by omega, by omega⟩ | exact m_firstNoted hT hS4 ⟨by omega, by omega⟩ | exact m_firstNoted hT hS5 ⟨by omega, by omega⟩) ?_
                      try simp only [lockF_thr, rightF_thr, latestOf_thr, asOfT_thr]
                      refine e_istore (ls2 := [_, _, _, _, _, _]) dX11_upload_153 (Nat.le_of_ble_eq_true rfl) rfl ?_
                      refine e_goto (tgt := 66) dX11_upload_155 (by decide) ?_
                      rw [hs, Int.add_zero]
                      exact m_upEnd hT hS3 hm n
                · simp only [bi_z, Classical.not_not] at c_84
                  exfalso; first | exact ho c_84 | exact c_84 ho | exact ho (fun h => h c_84) | exact c_84 (fun h => ho h)
          · have hfp : 0 ≤ (fnF S m 16) ∧ (fnF S m 16) < 48 := by omega
            have h8 : 0 < S 8 (fnF S m 16) := by omega
            rw [if_neg ho, if_pos h2] at hC ⊢
            rw [if_neg hs] at hC ⊢
            have hL3 := upF_le m r (n + (looksF (sendsF S (S 3 (fnF S m 16)) l).2 (fnF S m 16)).1) (sendsF S (S 3 (fnF S m 16)) l).1 (looksF (sendsF S (S 3 (fnF S m 16)) l).2 (fnF S m 16)).2
            have hC3 : CT (looksF (sendsF S (S 3 (fnF S m 16)) l).2 (fnF S m 16)).2 := hL3.ct hC
            have hC1 : CT (sendsF S (S 3 (fnF S m 16)) l).2 := (LE.looks _ _).ct hC3
            have hok := sendsF_ok hS hP hC1
            have hS2 : WR (sendsF S (S 3 (fnF S m 16)) l).2 := hok.1
            have hP2 := hok.2
            have hS4 : WR (looksF (sendsF S (S 3 (fnF S m 16)) l).2 (fnF S m 16)).2 := wr_looks hS2 hfp hC3
            have hP4 : PMI (looksF (sendsF S (S 3 (fnF S m 16)) l).2 (fnF S m 16)).2 := pmi_looks hP2 _
            have hn3 : ntF (sendsF S (S 3 (fnF S m 16)) l).2 m 16 = ntF S m 16 := ntF_congr (fun k => sendsF_8 _ _ _ _) m 16
            have hn4 : ntF (looksF (sendsF S (S 3 (fnF S m 16)) l).2 (fnF S m 16)).2 m 16 = ntF (sendsF S (S 3 (fnF S m 16)) l).2 m 16 - 1 := ntF_looks (by omega) (by rw [sendsF_8]; exact h8)
            have hk1 := look2_1 (q_us (sendsF S (S 3 (fnF S m 16)) l).2 8 (fnF S m 16) 0) (fnF S m 16) (latestOf (sendsF S (S 3 (fnF S m 16)) l).2 ((fnF S m 16) % 16))
            have hk2 : (looksF (sendsF S (S 3 (fnF S m 16)) l).2 (fnF S m 16)).1 = 0 ∨ (looksF (sendsF S (S 3 (fnF S m 16)) l).2 (fnF S m 16)).1 = 1 := hk1
            have hrg := sendsF_rg S (p := l) (by omega) (S 3 (fnF S m 16))
            refine e_iload dX11_upload_66 rfl ?_
            refine e_iconst dX11_upload_68 ?_
            refine e_icmp_eq (tgt := 158) dX11_upload_69 (by decide) ⟨by omega, by omega⟩ ⟨by omega, by omega⟩ (fun c_69 => ?_) (fun c_69 => ?_)
            · exfalso; omega
            · refine e_iload dX11_upload_72 rfl ?_
              refine e_iconst dX11_upload_74 ?_
              refine e_icmp_eq (tgt := 158) dX11_upload_75 (by decide) ⟨by omega, by omega⟩ ⟨by omega, by omega⟩ (fun c_75 => ?_) (fun c_75 => ?_)
              · exfalso; omega
              · refine e_aload_n dX11_upload_78 rfl ?_
                refine e_iload dX11_upload_79 rfl ?_
                refine e_cV (as := [_]) (ci := 11) dX11_upload_81 k_X11_isOther l_X11_152 i_X11_isOther v_X11_isOther hT rfl (by decide) ⟨_, _, rfl⟩ rfl rfl rfl rfl (Nat.le_of_ble_eq_true rfl) ⟨by decide, by decide⟩ (Nat.le_of_ble_eq_true rfl) (by decide) (m_isOther hT hS ⟨by omega, by omega⟩) ?_
                refine e_if_ne (tgt := 98) dX11_upload_84 (by decide) bi_iI (fun c_84 => ?_) (fun c_84 => ?_)
                · simp only [bi_z, Classical.not_not] at c_84
                  refine e_aload_n dX11_upload_98 rfl ?_
                  refine m_getR (kt := (20, 48, 2)) (by decide) dX11_upload_99 f_X11_7 hT rfl (Nat.succ_ne_zero _) (fun q_99 h_99 => ?_)
                  refine e_iload dX11_upload_102 rfl ?_
                  refine m_iaw (by decide) (rg_2 hS) dX11_upload_104 h_99 (by omega) (by omega) (fun g_104 => ?_)
                  refine e_iconst dX11_upload_105 ?_
                  refine e_icmp_ne (tgt := 125) dX11_upload_106 (by decide) ⟨by omega, by omega⟩ ⟨by omega, by omega⟩ (fun c_106 => ?_) (fun c_106 => ?_)
                  · exfalso; omega
                  · refine e_aload_n dX11_upload_109 rfl ?_
                    refine e_aload_n dX11_upload_110 rfl ?_
                    refine m_getR (kt := (21, 48, 3)) (by decide) dX11_upload_111 f_X11_13 hT rfl (Nat.succ_ne_zero _) (fun q_111 h_111 => ?_)
                    refine e_iload dX11_upload_114 rfl ?_
                    refine m_law (by decide) (rg_3 hS) dX11_upload_116 h_111 (by omega) (by omega) (fun g_116 => ?_)
                    refine e_iload dX11_upload_117 rfl ?_
                    refine e_cV (as := [_, _]) (ci := 11) dX11_upload_119 k_X11_sends l_X11_211 i_X11_sends v_X11_sends hT rfl (by decide) ⟨_, _, rfl⟩ rfl rfl rfl rfl (Nat.le_of_ble_eq_true rfl) ⟨by decide, by decide⟩ (Nat.le_of_ble_eq_true rfl) (by decide) (m_sends hT hS hP hg3 ⟨by omega, by omega⟩ hC1) ?_
                    refine e_goto (tgt := 127) dX11_upload_122 (by decide) ?_
                    refine e_istore (ls2 := [_, _, _, _, _, _]) dX11_upload_127 (Nat.le_of_ble_eq_true rfl) rfl ?_
                    refine e_iload_n dX11_upload_129 rfl ?_
                    refine e_iload dX11_upload_130 rfl ?_
                    refine e_iconst dX11_upload_132 ?_
                    refine e_icmp_ne (tgt := 140) dX11_upload_133 (by decide) ⟨by omega, by omega⟩ ⟨by omega, by omega⟩ (fun c_133 => ?_) (fun c_133 => ?_)
                    · refine e_aload_n dX11_upload_140 rfl ?_
                      refine e_iload dX11_upload_141 rfl ?_
                      refine e_cV (as := [_]) (ci := 11) dX11_upload_143 k_X11_looks l_X11_214 i_X11_looks v_X11_looks hT rfl (by decide) ⟨_, _, rfl⟩ rfl rfl rfl rfl (Nat.le_of_ble_eq_true rfl) ⟨by decide, by decide⟩ (Nat.le_of_ble_eq_true rfl) (by decide) (by first | exact m_looks hT hS hfp hC2 | exact m_looks hT hS2 hfp hC3) ?_
                      refine e_iadd dX11_upload_146 ?_
                      refine e_istore_n (ls2 := [_, _, _, _, _, _]) dX11_upload_147 (Nat.le_of_ble_eq_true rfl) rfl ?_
                      refine e_aload_n dX11_upload_148 rfl ?_
                      refine e_iload_n dX11_upload_149 rfl ?_
                      refine e_cV (as := [_]) (ci := 11) dX11_upload_150 k_X11_firstNoted l_X11_208 i_X11_firstNoted v_X11_firstNoted hT rfl (by decide) ⟨_, _, rfl⟩ rfl rfl rfl rfl (Nat.le_of_ble_eq_true rfl) ⟨by decide, by decide⟩ (Nat.le_of_ble_eq_true rfl) (by decide) (by first | exact m_firstNoted hT hS ⟨by omega, by omega⟩ | exact m_firstNoted hT hS2 ⟨by omega, by omega⟩ | exact m_firstNoted hT hS3 ⟨by omega, by omega⟩ | exact m_firstNoted hT hS4 ⟨by omega, by omega⟩ | exact m_firstNoted hT hS5 ⟨by omega, by omega⟩) ?_
                      try simp only [lockF_thr, rightF_thr, latestOf_thr, asOfT_thr]
                      refine e_istore (ls2 := [_, _, _, _, _, _]) dX11_upload_153 (Nat.le_of_ble_eq_true rfl) rfl ?_
                      refine e_goto (tgt := 66) dX11_upload_155 (by decide) ?_
                      exact ih _ _ _ hS4 hP4 hC (by omega) (by omega) (by omega)
                    · exfalso; omega
                · simp only [bi_z, Classical.not_not] at c_84
                  exfalso; first | exact ho c_84 | exact c_84 ho | exact ho (fun h => h c_84) | exact c_84 (fun h => ho h)
        · have hfp : 0 ≤ (fnF S m 16) ∧ (fnF S m 16) < 48 := by omega
          have h8 : 0 < S 8 (fnF S m 16) := by omega
          rw [if_neg ho, if_neg h2] at hC ⊢
          have hL3 := upF_le m r (n + (looksF S (fnF S m 16)).1) l (looksF S (fnF S m 16)).2
          have hC2 : CT (looksF S (fnF S m 16)).2 := hL3.ct hC
          have hS5 : WR (looksF S (fnF S m 16)).2 := wr_looks hS hfp hC2
          have hP5 : PMI (looksF S (fnF S m 16)).2 := pmi_looks hP _
          have hn5 : ntF (looksF S (fnF S m 16)).2 m 16 = ntF S m 16 - 1 := ntF_looks (by omega) h8
          have hk1 := look2_1 (q_us S 8 (fnF S m 16) 0) (fnF S m 16) (latestOf S ((fnF S m 16) % 16))
          have hk2 : (looksF S (fnF S m 16)).1 = 0 ∨ (looksF S (fnF S m 16)).1 = 1 := hk1
          refine e_iload dX11_upload_66 rfl ?_
          refine e_iconst dX11_upload_68 ?_
          refine e_icmp_eq (tgt := 158) dX11_upload_69 (by decide) ⟨by omega, by omega⟩ ⟨by omega, by omega⟩ (fun c_69 => ?_) (fun c_69 => ?_)
          · exfalso; omega
          · refine e_iload dX11_upload_72 rfl ?_
            refine e_iconst dX11_upload_74 ?_
            refine e_icmp_eq (tgt := 158) dX11_upload_75 (by decide) ⟨by omega, by omega⟩ ⟨by omega, by omega⟩ (fun c_75 => ?_) (fun c_75 => ?_)
            · exfalso; omega
            · refine e_aload_n dX11_upload_78 rfl ?_
              refine e_iload dX11_upload_79 rfl ?_
              refine e_cV (as := [_]) (ci := 11) dX11_upload_81 k_X11_isOther l_X11_152 i_X11_isOther v_X11_isOther hT rfl (by decide) ⟨_, _, rfl⟩ rfl rfl rfl rfl (Nat.le_of_ble_eq_true rfl) ⟨by decide, by decide⟩ (Nat.le_of_ble_eq_true rfl) (by decide) (m_isOther hT hS ⟨by omega, by omega⟩) ?_
              refine e_if_ne (tgt := 98) dX11_upload_84 (by decide) bi_iI (fun c_84 => ?_) (fun c_84 => ?_)
              · simp only [bi_z, Classical.not_not] at c_84
                refine e_aload_n dX11_upload_98 rfl ?_
                refine m_getR (kt := (20, 48, 2)) (by decide) dX11_upload_99 f_X11_7 hT rfl (Nat.succ_ne_zero _) (fun q_99 h_99 => ?_)
                refine e_iload dX11_upload_102 rfl ?_
                refine m_iaw (by decide) (rg_2 hS) dX11_upload_104 h_99 (by omega) (by omega) (fun g_104 => ?_)
                refine e_iconst dX11_upload_105 ?_
                refine e_icmp_ne (tgt := 125) dX11_upload_106 (by decide) ⟨by omega, by omega⟩ ⟨by omega, by omega⟩ (fun c_106 => ?_) (fun c_106 => ?_)
                · refine e_iload dX11_upload_125 rfl ?_
                  refine e_istore (ls2 := [_, _, _, _, _, _]) dX11_upload_127 (Nat.le_of_ble_eq_true rfl) rfl ?_
                  refine e_iload_n dX11_upload_129 rfl ?_
                  refine e_iload dX11_upload_130 rfl ?_
                  refine e_iconst dX11_upload_132 ?_
                  refine e_icmp_ne (tgt := 140) dX11_upload_133 (by decide) ⟨by omega, by omega⟩ ⟨by omega, by omega⟩ (fun c_133 => ?_) (fun c_133 => ?_)
                  · refine e_aload_n dX11_upload_140 rfl ?_
                    refine e_iload dX11_upload_141 rfl ?_
                    refine e_cV (as := [_]) (ci := 11) dX11_upload_143 k_X11_looks l_X11_214 i_X11_looks v_X11_looks hT rfl (by decide) ⟨_, _, rfl⟩ rfl rfl rfl rfl (Nat.le_of_ble_eq_true rfl) ⟨by decide, by decide⟩ (Nat.le_of_ble_eq_true rfl) (by decide) (by first | exact m_looks hT hS hfp hC2 | exact m_looks hT hS2 hfp hC3) ?_
                    refine e_iadd dX11_upload_146 ?_
                    refine e_istore_n (ls2 := [_, _, _, _, _, _]) dX11_upload_147 (Nat.le_of_ble_eq_true rfl) rfl ?_
                    refine e_aload_n dX11_upload_148 rfl ?_
                    refine e_iload_n dX11_upload_149 rfl ?_
                    refine e_cV (as := [_]) (ci := 11) dX11_upload_150 k_X11_firstNoted l_X11_208 i_X11_firstNoted v_X11_firstNoted hT rfl (by decide) ⟨_, _, rfl⟩ rfl rfl rfl rfl (Nat.le_of_ble_eq_true rfl) ⟨by decide, by decide⟩ (Nat.le_of_ble_eq_true rfl) (by decide) (by first | exact m_firstNoted hT hS ⟨by omega, by omega⟩ | exact m_firstNoted hT hS2 ⟨by omega, by omega⟩ | exact m_firstNoted hT hS3 ⟨by omega, by omega⟩ | exact m_firstNoted hT hS4 ⟨by omega, by omega⟩ | exact m_firstNoted hT hS5 ⟨by omega, by omega⟩) ?_
                    try simp only [lockF_thr, rightF_thr, latestOf_thr, asOfT_thr]
                    refine e_istore (ls2 := [_, _, _, _, _, _]) dX11_upload_153 (Nat.le_of_ble_eq_true rfl) rfl ?_
                    refine e_goto (tgt := 66) dX11_upload_155 (by decide) ?_
                    exact ih _ _ _ hS5 hP5 hC (by omega) (by omega) (by omega)
                  · exfalso; omega
                · exfalso; omega
              · simp only [bi_z, Classical.not_not] at c_84
                exfalso; first | exact ho c_84 | exact c_84 ho | exact ho (fun h => h c_84) | exact c_84 (fun h => ho h)
set_option maxRecDepth 20000 in
set_option maxHeartbeats 4000000 in
theorem m_upload {K : q_K} {M C : q_S} {a : Nat} (hT : K a = (12, 0, 50)) (hW : WR M) (hP : PMI M) {m p : Int} (hm : q_iI m) (hq : q_iI p) (hC : CT (uploadF M m p).2) : q_E mX11_upload 0 [some (q_R a), some (q_I m), some (q_I p), none, none, none] [] K M C 0 0 (e_is (some (q_I (uploadF M m p).1)) K (uploadF M m p).2 C) := by
  have g16 := rs_16 hW
  by_cases e0 : ¬ (0 ≤ m ∧ m ≤ 2)
  · refine e_aload_n dX11_upload_0 rfl ?_
    refine e_iload_n dX11_upload_1 rfl ?_
    refine e_cS (as := [_]) dX11_upload_2 k_X11_isMachine l_X11_135 s_X11_isMachine rfl rfl rfl rfl (Nat.le_of_ble_eq_true rfl) ⟨by decide, by decide⟩ (Nat.le_of_ble_eq_true rfl) (by decide) (m_isMachine (by assumption)) ?_
    refine e_if_ne (tgt := 12) dX11_upload_5 (by decide) bi_iI (fun c_5 => ?_) (fun c_5 => ?_)
    · simp only [bi_z, Classical.not_not] at c_5
      exfalso; omega
    · simp only [bi_z, Classical.not_not] at c_5
      refine e_iconst dX11_upload_8 ?_
      refine e_goto (tgt := 40) dX11_upload_9 (by decide) ?_
      refine m_putI (by decide) dX11_upload_40 f_X11_101 rfl hT ⟨by omega, by omega⟩ ?_
      refine e_iconst dX11_upload_43 ?_
      refine e_istore_n (ls2 := [_, _, _, _, _, _]) dX11_upload_44 (Nat.le_of_ble_eq_true rfl) rfl ?_
      refine e_iload_n dX11_upload_45 rfl ?_
      refine e_istore (ls2 := [_, _, _, _, _, _]) dX11_upload_46 (Nat.le_of_ble_eq_true rfl) rfl ?_
      refine e_aload_n dX11_upload_48 rfl ?_
      refine m_getI (by decide) dX11_upload_49 f_X11_101 (Or.inl rfl) hT ?_
      simp only [q_us_ap, editsF_3, Int.reduceEq, Int.reduceNeg, false_and, and_false, and_self, if_true, if_false, true_and, and_true, ite_self]
      have g_49 := rs_41 hW
      refine e_if_le (tgt := 59) dX11_upload_52 (by decide) ⟨by decide, by decide⟩ (fun c_52 => ?_) (fun c_52 => ?_)
      · exact absurd c_52 (by decide)
      · refine e_iconst dX11_upload_55 ?_
        refine e_goto (tgt := 64) dX11_upload_56 (by decide) ?_
        refine e_istore (ls2 := [_, _, _, _, _, _]) dX11_upload_64 (Nat.le_of_ble_eq_true rfl) rfl ?_
        refine e_iload dX11_upload_66 rfl ?_
        refine e_iconst dX11_upload_68 ?_
        refine e_icmp_eq (tgt := 158) dX11_upload_69 (by decide) ⟨by decide, by decide⟩ ⟨by decide, by decide⟩ (fun c_69 => ?_) (fun c_69 => ?_)
        · refine e_iload_n dX11_upload_158 rfl ?_
          exact e_iret dX11_upload_159 (Or.inl rfl) (e_ok (by unfold uploadF; rw [if_pos e0]) (by unfold uploadF; rw [if_pos e0]) rfl)
        · exact absurd c_69 (by decide)
  ·
    by_cases e1 : ¬ (0 ≤ p ∧ p ≤ 100)
    · refine e_aload_n dX11_upload_0 rfl ?_
      refine e_iload_n dX11_upload_1 rfl ?_
      refine e_cS (as := [_]) dX11_upload_2 k_X11_isMachine l_X11_135 s_X11_isMachine rfl rfl rfl rfl (Nat.le_of_ble_eq_true rfl) ⟨by decide, by decide⟩ (Nat.le_of_ble_eq_true rfl) (by decide) (m_isMachine (by assumption)) ?_
      refine e_if_ne (tgt := 12) dX11_upload_5 (by decide) bi_iI (fun c_5 => ?_) (fun c_5 => ?_)
      · simp only [bi_z, Classical.not_not] at c_5
        refine e_iload_n dX11_upload_12 rfl ?_
        refine e_iconst dX11_upload_13 ?_
        refine e_bipush dX11_upload_14 (by decide) ?_
        refine e_cS (as := [_, _, _]) dX11_upload_16 k_X11_in l_X11_105 s_X11_in rfl rfl rfl rfl (Nat.le_of_ble_eq_true rfl) ⟨by decide, by decide⟩ (Nat.le_of_ble_eq_true rfl) (by decide) (m_in (by first | assumption | exact ⟨by decide, by decide⟩ | exact ⟨by omega, by omega⟩) (by first | assumption | exact ⟨by decide, by decide⟩ | exact ⟨by omega, by omega⟩) (by first | assumption | exact ⟨by decide, by decide⟩ | exact ⟨by omega, by omega⟩)) ?_
        refine e_if_ne (tgt := 26) dX11_upload_19 (by decide) bi_iI (fun c_19 => ?_) (fun c_19 => ?_)
        · simp only [bi_z, Classical.not_not] at c_19
          exfalso; omega
        · simp only [bi_z, Classical.not_not] at c_19
          refine e_iconst dX11_upload_22 ?_
          refine e_goto (tgt := 40) dX11_upload_23 (by decide) ?_
          refine m_putI (by decide) dX11_upload_40 f_X11_101 rfl hT ⟨by omega, by omega⟩ ?_
          refine e_iconst dX11_upload_43 ?_
          refine e_istore_n (ls2 := [_, _, _, _, _, _]) dX11_upload_44 (Nat.le_of_ble_eq_true rfl) rfl ?_
          refine e_iload_n dX11_upload_45 rfl ?_
          refine e_istore (ls2 := [_, _, _, _, _, _]) dX11_upload_46 (Nat.le_of_ble_eq_true rfl) rfl ?_
          refine e_aload_n dX11_upload_48 rfl ?_
          refine m_getI (by decide) dX11_upload_49 f_X11_101 (Or.inl rfl) hT ?_
          simp only [q_us_ap, editsF_3, Int.reduceEq, Int.reduceNeg, false_and, and_false, and_self, if_true, if_false, true_and, and_true, ite_self]
          have g_49 := rs_41 hW
          refine e_if_le (tgt := 59) dX11_upload_52 (by decide) ⟨by decide, by decide⟩ (fun c_52 => ?_) (fun c_52 => ?_)
          · exact absurd c_52 (by decide)
          · refine e_iconst dX11_upload_55 ?_
            refine e_goto (tgt := 64) dX11_upload_56 (by decide) ?_
            refine e_istore (ls2 := [_, _, _, _, _, _]) dX11_upload_64 (Nat.le_of_ble_eq_true rfl) rfl ?_
            refine e_iload dX11_upload_66 rfl ?_
            refine e_iconst dX11_upload_68 ?_
            refine e_icmp_eq (tgt := 158) dX11_upload_69 (by decide) ⟨by decide, by decide⟩ ⟨by decide, by decide⟩ (fun c_69 => ?_) (fun c_69 => ?_)
            · refine e_iload_n dX11_upload_158 rfl ?_
              exact e_iret dX11_upload_159 (Or.inl rfl) (e_ok (by unfold uploadF; rw [if_neg e0, if_pos e1]) (by unfold uploadF; rw [if_neg e0, if_pos e1]) rfl)
            · exact absurd c_69 (by decide)
      · simp only [bi_z, Classical.not_not] at c_5
        exfalso; omega
    ·
      by_cases e2 : 100 < M 50 16
      · refine e_aload_n dX11_upload_0 rfl ?_
        refine e_iload_n dX11_upload_1 rfl ?_
        refine e_cS (as := [_]) dX11_upload_2 k_X11_isMachine l_X11_135 s_X11_isMachine rfl rfl rfl rfl (Nat.le_of_ble_eq_true rfl) ⟨by decide, by decide⟩ (Nat.le_of_ble_eq_true rfl) (by decide) (m_isMachine (by assumption)) ?_
        refine e_if_ne (tgt := 12) dX11_upload_5 (by decide) bi_iI (fun c_5 => ?_) (fun c_5 => ?_)
        · simp only [bi_z, Classical.not_not] at c_5
          refine e_iload_n dX11_upload_12 rfl ?_
          refine e_iconst dX11_upload_13 ?_
          refine e_bipush dX11_upload_14 (by decide) ?_
          refine e_cS (as := [_, _, _]) dX11_upload_16 k_X11_in l_X11_105 s_X11_in rfl rfl rfl rfl (Nat.le_of_ble_eq_true rfl) ⟨by decide, by decide⟩ (Nat.le_of_ble_eq_true rfl) (by decide) (m_in (by first | assumption | exact ⟨by decide, by decide⟩ | exact ⟨by omega, by omega⟩) (by first | assumption | exact ⟨by decide, by decide⟩ | exact ⟨by omega, by omega⟩) (by first | assumption | exact ⟨by decide, by decide⟩ | exact ⟨by omega, by omega⟩)) ?_
          refine e_if_ne (tgt := 26) dX11_upload_19 (by decide) bi_iI (fun c_19 => ?_) (fun c_19 => ?_)
          · simp only [bi_z, Classical.not_not] at c_19
            refine e_aload_n dX11_upload_26 rfl ?_
            refine m_getI (by decide) dX11_upload_27 f_X11_155 (Or.inl rfl) hT ?_
            have g_27 := rs_16 hW
            refine e_bipush dX11_upload_30 (by decide) ?_
            refine e_icmp_le (tgt := 39) dX11_upload_32 (by decide) ⟨by omega, by omega⟩ ⟨by omega, by omega⟩ (fun c_32 => ?_) (fun c_32 => ?_)
            · exfalso; omega
            · refine e_iconst dX11_upload_35 ?_
              refine e_goto (tgt := 40) dX11_upload_36 (by decide) ?_
              refine m_putI (by decide) dX11_upload_40 f_X11_101 rfl hT ⟨by omega, by omega⟩ ?_
              refine e_iconst dX11_upload_43 ?_
              refine e_istore_n (ls2 := [_, _, _, _, _, _]) dX11_upload_44 (Nat.le_of_ble_eq_true rfl) rfl ?_
              refine e_iload_n dX11_upload_45 rfl ?_
              refine e_istore (ls2 := [_, _, _, _, _, _]) dX11_upload_46 (Nat.le_of_ble_eq_true rfl) rfl ?_
              refine e_aload_n dX11_upload_48 rfl ?_
              refine m_getI (by decide) dX11_upload_49 f_X11_101 (Or.inl rfl) hT ?_
              simp only [q_us_ap, editsF_3, Int.reduceEq, Int.reduceNeg, false_and, and_false, and_self, if_true, if_false, true_and, and_true, ite_self]
              have g_49 := rs_41 hW
              refine e_if_le (tgt := 59) dX11_upload_52 (by decide) ⟨by decide, by decide⟩ (fun c_52 => ?_) (fun c_52 => ?_)
              · exact absurd c_52 (by decide)
              · refine e_iconst dX11_upload_55 ?_
                refine e_goto (tgt := 64) dX11_upload_56 (by decide) ?_
                refine e_istore (ls2 := [_, _, _, _, _, _]) dX11_upload_64 (Nat.le_of_ble_eq_true rfl) rfl ?_
                refine e_iload dX11_upload_66 rfl ?_
                refine e_iconst dX11_upload_68 ?_
                refine e_icmp_eq (tgt := 158) dX11_upload_69 (by decide) ⟨by decide, by decide⟩ ⟨by decide, by decide⟩ (fun c_69 => ?_) (fun c_69 => ?_)
                · refine e_iload_n dX11_upload_158 rfl ?_
                  exact e_iret dX11_upload_159 (Or.inl rfl) (e_ok (by unfold uploadF; rw [if_neg e0, if_neg e1, if_pos e2]) (by unfold uploadF; rw [if_neg e0, if_neg e1, if_pos e2]) rfl)
                · exact absurd c_69 (by decide)
          · simp only [bi_z, Classical.not_not] at c_19
            exfalso; omega
        · simp only [bi_z, Classical.not_not] at c_5
          exfalso; omega
      ·
        have e3 : uploadF M m p = upF m 17 0 p (thr M 0) := by unfold uploadF; rw [if_neg e0, if_neg e1, if_neg e2]
        rw [e3] at hC ⊢
        refine e_aload_n dX11_upload_0 rfl ?_
        refine e_iload_n dX11_upload_1 rfl ?_
        refine e_cS (as := [_]) dX11_upload_2 k_X11_isMachine l_X11_135 s_X11_isMachine rfl rfl rfl rfl (Nat.le_of_ble_eq_true rfl) ⟨by decide, by decide⟩ (Nat.le_of_ble_eq_true rfl) (by decide) (m_isMachine (by assumption)) ?_
        refine e_if_ne (tgt := 12) dX11_upload_5 (by decide) bi_iI (fun c_5 => ?_) (fun c_5 => ?_)
        · simp only [bi_z, Classical.not_not] at c_5
          refine e_iload_n dX11_upload_12 rfl ?_
          refine e_iconst dX11_upload_13 ?_
          refine e_bipush dX11_upload_14 (by decide) ?_
          refine e_cS (as := [_, _, _]) dX11_upload_16 k_X11_in l_X11_105 s_X11_in rfl rfl rfl rfl (Nat.le_of_ble_eq_true rfl) ⟨by decide, by decide⟩ (Nat.le_of_ble_eq_true rfl) (by decide) (m_in (by first | assumption | exact ⟨by decide, by decide⟩ | exact ⟨by omega, by omega⟩) (by first | assumption | exact ⟨by decide, by decide⟩ | exact ⟨by omega, by omega⟩) (by first | assumption | exact ⟨by decide, by decide⟩ | exact ⟨by omega, by omega⟩)) ?_
          refine e_if_ne (tgt := 26) dX11_upload_19 (by decide) bi_iI (fun c_19 => ?_) (fun c_19 => ?_)
          · simp only [bi_z, Classical.not_not] at c_19
            refine e_aload_n dX11_upload_26 rfl ?_
            refine m_getI (by decide) dX11_upload_27 f_X11_155 (Or.inl rfl) hT ?_
            have g_27 := rs_16 hW
            refine e_bipush dX11_upload_30 (by decide) ?_
            refine e_icmp_le (tgt := 39) dX11_upload_32 (by decide) ⟨by omega, by omega⟩ ⟨by omega, by omega⟩ (fun c_32 => ?_) (fun c_32 => ?_)
            · refine e_iconst dX11_upload_39 ?_
              refine m_putI (by decide) dX11_upload_40 f_X11_101 rfl hT ⟨by omega, by omega⟩ ?_
              refine e_iconst dX11_upload_43 ?_
              refine e_istore_n (ls2 := [_, _, _, _, _, _]) dX11_upload_44 (Nat.le_of_ble_eq_true rfl) rfl ?_
              refine e_iload_n dX11_upload_45 rfl ?_
              refine e_istore (ls2 := [_, _, _, _, _, _]) dX11_upload_46 (Nat.le_of_ble_eq_true rfl) rfl ?_
              refine e_aload_n dX11_upload_48 rfl ?_
              refine m_getI (by decide) dX11_upload_49 f_X11_101 (Or.inl rfl) hT ?_
              simp only [q_us_ap, editsF_3, Int.reduceEq, Int.reduceNeg, false_and, and_false, and_self, if_true, if_false, true_and, and_true, ite_self]
              have g_49 := rs_41 hW
              refine e_if_le (tgt := 59) dX11_upload_52 (by decide) ⟨by decide, by decide⟩ (fun c_52 => ?_) (fun c_52 => ?_)
              · refine e_aload_n dX11_upload_59 rfl ?_
                refine e_iload_n dX11_upload_60 rfl ?_
                refine e_cV (as := [_]) (ci := 11) dX11_upload_61 k_X11_firstNoted l_X11_208 i_X11_firstNoted v_X11_firstNoted hT rfl (by decide) ⟨_, _, rfl⟩ rfl rfl rfl rfl (Nat.le_of_ble_eq_true rfl) ⟨by decide, by decide⟩ (Nat.le_of_ble_eq_true rfl) (by decide) (m_firstNoted hT (WR.up hW ⟨by decide, by decide⟩) ⟨by omega, by omega⟩) ?_
                try simp only [lockF_thr, rightF_thr, latestOf_thr, asOfT_thr]
                refine e_istore (ls2 := [_, _, _, _, _, _]) dX11_upload_64 (Nat.le_of_ble_eq_true rfl) rfl ?_
                refine e_drop (k := 2) (ls2 := [_, _, _, _, _, _]) rfl ?_
                exact m_upload_l hT (Classical.not_not.mp e0) 17 0 p (thr M 0) (WR.up hW ⟨by decide, by decide⟩) (hP.us (by decide) (by decide) (by decide)) hC (by have := (ntF_rg (thr M 0) m 16).2; show ntF (thr M 0) m 16 < 17; omega) ⟨by omega, by omega⟩ ⟨by decide, by decide⟩
              · exact absurd c_52 (by decide)
            · exfalso; omega
          · simp only [bi_z, Classical.not_not] at c_19
            exfalso; omega
        · simp only [bi_z, Classical.not_not] at c_5
          exfalso; omega
set_option maxRecDepth 20000 in
set_option maxHeartbeats 4000000 in
theorem m_pull_l {K : q_K} {M C : q_S} {a : Nat} (hT : K a = (12, 0, 50)) (hW : WR M) {m : Int} (hm : 0 ≤ m ∧ m ≤ 2) : ∀ (r k : Nat) (n i : Int) (S : q_S), (k + r = 16) → ((n, S) = plF (thr M 0) m k) → (i = 16 * m + k) → (0 ≤ n ∧ n ≤ k) → (WR S) → (S 50 41 = 0) → q_E mX11_pull 23 [some (q_R a), some (q_I m), some (q_I n), some (q_I i), none] [] K S C 0 0 (e_is (some (q_I (plF (thr M 0) m 16).1)) K (plF (thr M 0) m 16).2 C) := by
  intro r
  induction r with
  | zero =>
    intro k n i S h1 h2 h3 h4 hS h6
    refine e_iload_n dX11_pull_23 rfl ?_
    refine e_bipush dX11_pull_24 (by decide) ?_
    refine e_iload_n dX11_pull_26 rfl ?_
    refine e_imul dX11_pull_27 ?_
    refine e_bipush dX11_pull_28 (by decide) ?_
    refine e_iadd dX11_pull_30 ?_
    refine e_icmp_ge (tgt := 167) dX11_pull_31 (by decide) ⟨by omega, by omega⟩ ⟨by omega, by omega⟩ (fun c_31 => ?_) (fun c_31 => ?_)
    · refine e_iload_n dX11_pull_167 rfl ?_
      exact e_iret dX11_pull_168 (Or.inl rfl) (e_ok (by rw [show 16 = k by omega, ← h2]) (by rw [show 16 = k by omega, ← h2]) rfl)
    · exfalso; omega
  | succ r ih =>
    intro k n i S h1 h2 h3 h4 hS h6
    refine e_iload_n dX11_pull_23 rfl ?_
    refine e_bipush dX11_pull_24 (by decide) ?_
    refine e_iload_n dX11_pull_26 rfl ?_
    refine e_imul dX11_pull_27 ?_
    refine e_bipush dX11_pull_28 (by decide) ?_
    refine e_iadd dX11_pull_30 ?_
    refine e_icmp_ge (tgt := 167) dX11_pull_31 (by decide) ⟨by omega, by omega⟩ ⟨by omega, by omega⟩ (fun c_31 => ?_) (fun c_31 => ?_)
    · exfalso; omega
    · refine e_aload_n dX11_pull_34 rfl ?_
      refine m_getI (by decide) dX11_pull_35 f_X11_101 (Or.inl rfl) hT ?_
      have g_35 := rs_41 hS
      refine e_if_ne (tgt := 167) dX11_pull_38 (by decide) ⟨by omega, by omega⟩ (fun c_38 => ?_) (fun c_38 => ?_)
      · exfalso; omega
      · have e16 : i % 16 = (k : Int) := by omega
        have e48 : 0 ≤ i ∧ i < 48 := by omega
        have gl := latestOf_rg hS (k : Int)
        have g16 := rs_16 hS
        have gv : 0 ≤ S 21 (latestOf S (k : Int)) ∧ S 21 (latestOf S (k : Int)) ≤ 9999999999999 := hS 21 _
        have gw : 0 ≤ S 20 (latestOf S (k : Int)) ∧ S 20 (latestOf S (k : Int)) ≤ 3 := hS 20 _
        refine e_aload_n dX11_pull_41 rfl ?_
        refine e_iload_n dX11_pull_42 rfl ?_
        refine e_bipush dX11_pull_43 (by decide) ?_
        refine e_irem dX11_pull_45 ⟨by omega, by omega⟩ ⟨by omega, by omega⟩ ?_
        refine e_cV (as := [_]) (ci := 11) dX11_pull_46 k_X11_latestOf l_X11_184 i_X11_latestOf v_X11_latestOf hT rfl (by decide) ⟨_, _, rfl⟩ rfl rfl rfl rfl (Nat.le_of_ble_eq_true rfl) ⟨by decide, by decide⟩ (Nat.le_of_ble_eq_true rfl) (by decide) (m_latestOf hT hS ⟨by omega, by omega⟩) ?_
        have g_46 := latestOf_rg hS (i % 16)
        rw [e16]
        refine e_istore (ls2 := [_, _, _, _, _]) dX11_pull_49 (Nat.le_of_ble_eq_true rfl) rfl ?_
        refine e_aload_n dX11_pull_51 rfl ?_
        refine e_iload_n dX11_pull_52 rfl ?_
        refine e_cV (as := [_]) (ci := 11) dX11_pull_53 k_X11_isOther l_X11_152 i_X11_isOther v_X11_isOther hT rfl (by decide) ⟨_, _, rfl⟩ rfl rfl rfl rfl (Nat.le_of_ble_eq_true rfl) ⟨by decide, by decide⟩ (Nat.le_of_ble_eq_true rfl) (by decide) (m_isOther hT hS ⟨by omega, by omega⟩) ?_
        refine e_if_ne (tgt := 161) dX11_pull_56 (by decide) bi_iI (fun c_56 => ?_) (fun c_56 => ?_)
        · simp only [bi_z, Classical.not_not] at c_56
          refine e_iinc (ls2 := [_, _, _, _, _]) dX11_pull_161 rfl (Nat.le_of_ble_eq_true rfl) rfl ?_
          refine e_goto (tgt := 23) dX11_pull_164 (by decide) ?_
          refine e_drop (k := 4) (ls2 := [_, _, _, _, _]) rfl ?_
          exact ih (k + 1) _ _ _ (by omega) (by simp only [plF, ← h2, ← h3]; first | (rw [if_neg (show ¬ (¬ isOtherP S i ∧ ¬ (latestOf S (k : Int)) = -1 ∧ mayReadP S i (latestOf S (k : Int))) from fun h => c_56 h.1)]) | (rw [if_neg (show ¬ (¬ isOtherP S i ∧ ¬ (latestOf S (k : Int)) = -1 ∧ mayReadP S i (latestOf S (k : Int))) from fun h => h.1 c_56)]) | (rw [if_neg (show ¬ (¬ isOtherP S i ∧ ¬ (latestOf S (k : Int)) = -1 ∧ mayReadP S i (latestOf S (k : Int))) from fun h => h.2.1 c_62)]) | (rw [if_neg (show ¬ (¬ isOtherP S i ∧ ¬ (latestOf S (k : Int)) = -1 ∧ mayReadP S i (latestOf S (k : Int))) from fun h => c_72 h.2.2)]) | (rw [if_pos (show ¬ isOtherP S i ∧ ¬ (latestOf S (k : Int)) = -1 ∧ mayReadP S i (latestOf S (k : Int)) from ⟨fun g => g c_56, c_62, c_72⟩)]; (first | rw [if_pos (show isAsP S i (latestOf S (k : Int)) from c_83)] | rw [if_neg (show ¬ isAsP S i (latestOf S (k : Int)) from c_83)]); (first | rw [if_pos (show isInP S (latestOf S (k : Int)) ∧ ¬ S 2 i = 0 ∧ S 3 i = S 21 (latestOf S (k : Int)) from ⟨c_99, c_108, c_125⟩)] | rw [if_neg (show ¬ (isInP S (latestOf S (k : Int)) ∧ ¬ S 2 i = 0 ∧ S 3 i = S 21 (latestOf S (k : Int))) from fun h => c_99 h.1)] | rw [if_neg (show ¬ (isInP S (latestOf S (k : Int)) ∧ ¬ S 2 i = 0 ∧ S 3 i = S 21 (latestOf S (k : Int))) from fun h => h.2.1 c_108)] | rw [if_neg (show ¬ (isInP S (latestOf S (k : Int)) ∧ ¬ S 2 i = 0 ∧ S 3 i = S 21 (latestOf S (k : Int))) from fun h => c_125 h.2.2)]))) (by omega) (by omega) (by first | exact hS | exact WR.becomes hS ⟨by omega, by omega⟩ | exact WR.up (WR.up hS ⟨(show (0 : Int) ≤ _ by omega), (show _ ≤ (120 : Int) by omega)⟩) gw) (by first | exact h6 | (rw [becomesF_50 (by decide)]; exact h6))
        · simp only [bi_z, Classical.not_not] at c_56
          refine e_iload dX11_pull_59 rfl ?_
          refine e_iconst dX11_pull_61 ?_
          refine e_icmp_eq (tgt := 161) dX11_pull_62 (by decide) ⟨by omega, by omega⟩ ⟨by omega, by omega⟩ (fun c_62 => ?_) (fun c_62 => ?_)
          · refine e_iinc (ls2 := [_, _, _, _, _]) dX11_pull_161 rfl (Nat.le_of_ble_eq_true rfl) rfl ?_
            refine e_goto (tgt := 23) dX11_pull_164 (by decide) ?_
            refine e_drop (k := 4) (ls2 := [_, _, _, _, _]) rfl ?_
            exact ih (k + 1) _ _ _ (by omega) (by simp only [plF, ← h2, ← h3]; first | (rw [if_neg (show ¬ (¬ isOtherP S i ∧ ¬ (latestOf S (k : Int)) = -1 ∧ mayReadP S i (latestOf S (k : Int))) from fun h => c_56 h.1)]) | (rw [if_neg (show ¬ (¬ isOtherP S i ∧ ¬ (latestOf S (k : Int)) = -1 ∧ mayReadP S i (latestOf S (k : Int))) from fun h => h.1 c_56)]) | (rw [if_neg (show ¬ (¬ isOtherP S i ∧ ¬ (latestOf S (k : Int)) = -1 ∧ mayReadP S i (latestOf S (k : Int))) from fun h => h.2.1 c_62)]) | (rw [if_neg (show ¬ (¬ isOtherP S i ∧ ¬ (latestOf S (k : Int)) = -1 ∧ mayReadP S i (latestOf S (k : Int))) from fun h => c_72 h.2.2)]) | (rw [if_pos (show ¬ isOtherP S i ∧ ¬ (latestOf S (k : Int)) = -1 ∧ mayReadP S i (latestOf S (k : Int)) from ⟨fun g => g c_56, c_62, c_72⟩)]; (first | rw [if_pos (show isAsP S i (latestOf S (k : Int)) from c_83)] | rw [if_neg (show ¬ isAsP S i (latestOf S (k : Int)) from c_83)]); (first | rw [if_pos (show isInP S (latestOf S (k : Int)) ∧ ¬ S 2 i = 0 ∧ S 3 i = S 21 (latestOf S (k : Int)) from ⟨c_99, c_108, c_125⟩)] | rw [if_neg (show ¬ (isInP S (latestOf S (k : Int)) ∧ ¬ S 2 i = 0 ∧ S 3 i = S 21 (latestOf S (k : Int))) from fun h => c_99 h.1)] | rw [if_neg (show ¬ (isInP S (latestOf S (k : Int)) ∧ ¬ S 2 i = 0 ∧ S 3 i = S 21 (latestOf S (k : Int))) from fun h => h.2.1 c_108)] | rw [if_neg (show ¬ (isInP S (latestOf S (k : Int)) ∧ ¬ S 2 i = 0 ∧ S 3 i = S 21 (latestOf S (k : Int))) from fun h => c_125 h.2.2)]))) (by omega) (by omega) (by first | exact hS | exact WR.becomes hS ⟨by omega, by omega⟩ | exact WR.up (WR.up hS ⟨(show (0 : Int) ≤ _ by omega), (show _ ≤ (120 : Int) by omega)⟩) gw) (by first | exact h6 | (rw [becomesF_50 (by decide)]; exact h6))
          · refine e_aload_n dX11_pull_65 rfl ?_
            refine e_iload_n dX11_pull_66 rfl ?_
            refine e_iload dX11_pull_67 rfl ?_
            refine e_cV (as := [_, _]) (ci := 11) dX11_pull_69 k_X11_mayRead l_X11_217 i_X11_mayRead v_X11_mayRead hT rfl (by decide) ⟨_, _, rfl⟩ rfl rfl rfl rfl (Nat.le_of_ble_eq_true rfl) ⟨by decide, by decide⟩ (Nat.le_of_ble_eq_true rfl) (by decide) (m_mayRead hT hS ⟨by omega, by omega⟩ ⟨by omega, by omega⟩) ?_
            refine e_if_eq (tgt := 161) dX11_pull_72 (by decide) bi_iI (fun c_72 => ?_) (fun c_72 => ?_)
            · simp only [bi_z, Classical.not_not] at c_72
              refine e_iinc (ls2 := [_, _, _, _, _]) dX11_pull_161 rfl (Nat.le_of_ble_eq_true rfl) rfl ?_
              refine e_goto (tgt := 23) dX11_pull_164 (by decide) ?_
              refine e_drop (k := 4) (ls2 := [_, _, _, _, _]) rfl ?_
              exact ih (k + 1) _ _ _ (by omega) (by simp only [plF, ← h2, ← h3]; first | (rw [if_neg (show ¬ (¬ isOtherP S i ∧ ¬ (latestOf S (k : Int)) = -1 ∧ mayReadP S i (latestOf S (k : Int))) from fun h => c_56 h.1)]) | (rw [if_neg (show ¬ (¬ isOtherP S i ∧ ¬ (latestOf S (k : Int)) = -1 ∧ mayReadP S i (latestOf S (k : Int))) from fun h => h.1 c_56)]) | (rw [if_neg (show ¬ (¬ isOtherP S i ∧ ¬ (latestOf S (k : Int)) = -1 ∧ mayReadP S i (latestOf S (k : Int))) from fun h => h.2.1 c_62)]) | (rw [if_neg (show ¬ (¬ isOtherP S i ∧ ¬ (latestOf S (k : Int)) = -1 ∧ mayReadP S i (latestOf S (k : Int))) from fun h => c_72 h.2.2)]) | (rw [if_pos (show ¬ isOtherP S i ∧ ¬ (latestOf S (k : Int)) = -1 ∧ mayReadP S i (latestOf S (k : Int)) from ⟨fun g => g c_56, c_62, c_72⟩)]; (first | rw [if_pos (show isAsP S i (latestOf S (k : Int)) from c_83)] | rw [if_neg (show ¬ isAsP S i (latestOf S (k : Int)) from c_83)]); (first | rw [if_pos (show isInP S (latestOf S (k : Int)) ∧ ¬ S 2 i = 0 ∧ S 3 i = S 21 (latestOf S (k : Int)) from ⟨c_99, c_108, c_125⟩)] | rw [if_neg (show ¬ (isInP S (latestOf S (k : Int)) ∧ ¬ S 2 i = 0 ∧ S 3 i = S 21 (latestOf S (k : Int))) from fun h => c_99 h.1)] | rw [if_neg (show ¬ (isInP S (latestOf S (k : Int)) ∧ ¬ S 2 i = 0 ∧ S 3 i = S 21 (latestOf S (k : Int))) from fun h => h.2.1 c_108)] | rw [if_neg (show ¬ (isInP S (latestOf S (k : Int)) ∧ ¬ S 2 i = 0 ∧ S 3 i = S 21 (latestOf S (k : Int))) from fun h => c_125 h.2.2)]))) (by omega) (by omega) (by first | exact hS | exact WR.becomes hS ⟨by omega, by omega⟩ | exact WR.up (WR.up hS ⟨(show (0 : Int) ≤ _ by omega), (show _ ≤ (120 : Int) by omega)⟩) gw) (by first | exact h6 | (rw [becomesF_50 (by decide)]; exact h6))
            · simp only [bi_z, Classical.not_not] at c_72
              refine e_iload_n dX11_pull_75 rfl ?_
              refine e_aload_n dX11_pull_76 rfl ?_
              refine e_iload_n dX11_pull_77 rfl ?_
              refine e_iload dX11_pull_78 rfl ?_
              refine e_cV (as := [_, _]) (ci := 11) dX11_pull_80 k_X11_isAs l_X11_148 i_X11_isAs v_X11_isAs hT rfl (by decide) ⟨_, _, rfl⟩ rfl rfl rfl rfl (Nat.le_of_ble_eq_true rfl) ⟨by decide, by decide⟩ (Nat.le_of_ble_eq_true rfl) (by decide) (m_isAs hT hS ⟨by omega, by omega⟩ ⟨by omega, by omega⟩) ?_
              refine e_if_eq (tgt := 90) dX11_pull_83 (by decide) bi_iI (fun c_83 => ?_) (fun c_83 => ?_)
              · simp only [bi_z, Classical.not_not] at c_83
                refine e_iconst dX11_pull_90 ?_
                refine e_iadd dX11_pull_91 ?_
                refine e_istore_n (ls2 := [_, _, _, _, _]) dX11_pull_92 (Nat.le_of_ble_eq_true rfl) rfl ?_
                refine e_aload_n dX11_pull_93 rfl ?_
                refine e_iload dX11_pull_94 rfl ?_
                refine e_cV (as := [_]) (ci := 11) dX11_pull_96 k_X11_isIn l_X11_158 i_X11_isIn v_X11_isIn hT rfl (by decide) ⟨_, _, rfl⟩ rfl rfl rfl rfl (Nat.le_of_ble_eq_true rfl) ⟨by decide, by decide⟩ (Nat.le_of_ble_eq_true rfl) (by decide) (m_isIn hT hS ⟨by omega, by omega⟩) ?_
                refine e_if_eq (tgt := 154) dX11_pull_99 (by decide) bi_iI (fun c_99 => ?_) (fun c_99 => ?_)
                · simp only [bi_z, Classical.not_not] at c_99
                  refine e_aload_n dX11_pull_154 rfl ?_
                  refine e_iload_n dX11_pull_155 rfl ?_
                  refine e_iload dX11_pull_156 rfl ?_
                  refine e_cV (as := [_, _]) (ci := 11) dX11_pull_158 k_X11_becomes l_X11_180 i_X11_becomes v_X11_becomes hT rfl (by decide) ⟨_, _, rfl⟩ rfl rfl rfl rfl (Nat.le_of_ble_eq_true rfl) ⟨by decide, by decide⟩ (Nat.le_of_ble_eq_true rfl) (by decide) (m_becomes hT hS ⟨by omega, by omega⟩ ⟨by omega, by omega⟩) ?_
                  refine e_iinc (ls2 := [_, _, _, _, _]) dX11_pull_161 rfl (Nat.le_of_ble_eq_true rfl) rfl ?_
                  refine e_goto (tgt := 23) dX11_pull_164 (by decide) ?_
                  refine e_drop (k := 4) (ls2 := [_, _, _, _, _]) rfl ?_
                  exact ih (k + 1) _ _ _ (by omega) (by simp only [plF, ← h2, ← h3]; first | (rw [if_neg (show ¬ (¬ isOtherP S i ∧ ¬ (latestOf S (k : Int)) = -1 ∧ mayReadP S i (latestOf S (k : Int))) from fun h => c_56 h.1)]) | (rw [if_neg (show ¬ (¬ isOtherP S i ∧ ¬ (latestOf S (k : Int)) = -1 ∧ mayReadP S i (latestOf S (k : Int))) from fun h => h.1 c_56)]) | (rw [if_neg (show ¬ (¬ isOtherP S i ∧ ¬ (latestOf S (k : Int)) = -1 ∧ mayReadP S i (latestOf S (k : Int))) from fun h => h.2.1 c_62)]) | (rw [if_neg (show ¬ (¬ isOtherP S i ∧ ¬ (latestOf S (k : Int)) = -1 ∧ mayReadP S i (latestOf S (k : Int))) from fun h => c_72 h.2.2)]) | (rw [if_pos (show ¬ isOtherP S i ∧ ¬ (latestOf S (k : Int)) = -1 ∧ mayReadP S i (latestOf S (k : Int)) from ⟨fun g => g c_56, c_62, c_72⟩)]; (first | rw [if_pos (show isAsP S i (latestOf S (k : Int)) from c_83)] | rw [if_neg (show ¬ isAsP S i (latestOf S (k : Int)) from c_83)]); (first | rw [if_pos (show isInP S (latestOf S (k : Int)) ∧ ¬ S 2 i = 0 ∧ S 3 i = S 21 (latestOf S (k : Int)) from ⟨c_99, c_108, c_125⟩)] | rw [if_neg (show ¬ (isInP S (latestOf S (k : Int)) ∧ ¬ S 2 i = 0 ∧ S 3 i = S 21 (latestOf S (k : Int))) from fun h => c_99 h.1)] | rw [if_neg (show ¬ (isInP S (latestOf S (k : Int)) ∧ ¬ S 2 i = 0 ∧ S 3 i = S 21 (latestOf S (k : Int))) from fun h => h.2.1 c_108)] | rw [if_neg (show ¬ (isInP S (latestOf S (k : Int)) ∧ ¬ S 2 i = 0 ∧ S 3 i = S 21 (latestOf S (k : Int))) from fun h => c_125 h.2.2)]))) (by omega) (by omega) (by first | exact hS | exact WR.becomes hS ⟨by omega, by omega⟩ | exact WR.up (WR.up hS ⟨(show (0 : Int) ≤ _ by omega), (show _ ≤ (120 : Int) by omega)⟩) gw) (by first | exact h6 | (rw [becomesF_50 (by decide)]; exact h6))
                · simp only [bi_z, Classical.not_not] at c_99
                  refine e_aload_n dX11_pull_102 rfl ?_
                  refine m_getR (kt := (20, 48, 2)) (by decide) dX11_pull_103 f_X11_7 hT rfl (Nat.succ_ne_zero _) (fun q_103 h_103 => ?_)
                  refine e_iload_n dX11_pull_106 rfl ?_
                  refine m_iaw (by decide) (rg_2 hS) dX11_pull_107 h_103 (by omega) (by omega) (fun g_107 => ?_)
                  refine e_if_eq (tgt := 154) dX11_pull_108 (by decide) ⟨by omega, by omega⟩ (fun c_108 => ?_) (fun c_108 => ?_)
                  · refine e_aload_n dX11_pull_154 rfl ?_
                    refine e_iload_n dX11_pull_155 rfl ?_
                    refine e_iload dX11_pull_156 rfl ?_
                    refine e_cV (as := [_, _]) (ci := 11) dX11_pull_158 k_X11_becomes l_X11_180 i_X11_becomes v_X11_becomes hT rfl (by decide) ⟨_, _, rfl⟩ rfl rfl rfl rfl (Nat.le_of_ble_eq_true rfl) ⟨by decide, by decide⟩ (Nat.le_of_ble_eq_true rfl) (by decide) (m_becomes hT hS ⟨by omega, by omega⟩ ⟨by omega, by omega⟩) ?_
                    refine e_iinc (ls2 := [_, _, _, _, _]) dX11_pull_161 rfl (Nat.le_of_ble_eq_true rfl) rfl ?_
                    refine e_goto (tgt := 23) dX11_pull_164 (by decide) ?_
                    refine e_drop (k := 4) (ls2 := [_, _, _, _, _]) rfl ?_
                    exact ih (k + 1) _ _ _ (by omega) (by simp only [plF, ← h2, ← h3]; first | (rw [if_neg (show ¬ (¬ isOtherP S i ∧ ¬ (latestOf S (k : Int)) = -1 ∧ mayReadP S i (latestOf S (k : Int))) from fun h => c_56 h.1)]) | (rw [if_neg (show ¬ (¬ isOtherP S i ∧ ¬ (latestOf S (k : Int)) = -1 ∧ mayReadP S i (latestOf S (k : Int))) from fun h => h.1 c_56)]) | (rw [if_neg (show ¬ (¬ isOtherP S i ∧ ¬ (latestOf S (k : Int)) = -1 ∧ mayReadP S i (latestOf S (k : Int))) from fun h => h.2.1 c_62)]) | (rw [if_neg (show ¬ (¬ isOtherP S i ∧ ¬ (latestOf S (k : Int)) = -1 ∧ mayReadP S i (latestOf S (k : Int))) from fun h => c_72 h.2.2)]) | (rw [if_pos (show ¬ isOtherP S i ∧ ¬ (latestOf S (k : Int)) = -1 ∧ mayReadP S i (latestOf S (k : Int)) from ⟨fun g => g c_56, c_62, c_72⟩)]; (first | rw [if_pos (show isAsP S i (latestOf S (k : Int)) from c_83)] | rw [if_neg (show ¬ isAsP S i (latestOf S (k : Int)) from c_83)]); (first | rw [if_pos (show isInP S (latestOf S (k : Int)) ∧ ¬ S 2 i = 0 ∧ S 3 i = S 21 (latestOf S (k : Int)) from ⟨c_99, c_108, c_125⟩)] | rw [if_neg (show ¬ (isInP S (latestOf S (k : Int)) ∧ ¬ S 2 i = 0 ∧ S 3 i = S 21 (latestOf S (k : Int))) from fun h => c_99 h.1)] | rw [if_neg (show ¬ (isInP S (latestOf S (k : Int)) ∧ ¬ S 2 i = 0 ∧ S 3 i = S 21 (latestOf S (k : Int))) from fun h => h.2.1 c_108)] | rw [if_neg (show ¬ (isInP S (latestOf S (k : Int)) ∧ ¬ S 2 i = 0 ∧ S 3 i = S 21 (latestOf S (k : Int))) from fun h => c_125 h.2.2)]))) (by omega) (by omega) (by first | exact hS | exact WR.becomes hS ⟨by omega, by omega⟩ | exact WR.up (WR.up hS ⟨(show (0 : Int) ≤ _ by omega), (show _ ≤ (120 : Int) by omega)⟩) gw) (by first | exact h6 | (rw [becomesF_50 (by decide)]; exact h6))
                  · refine e_aload_n dX11_pull_111 rfl ?_
                    refine m_getR (kt := (21, 48, 3)) (by decide) dX11_pull_112 f_X11_13 hT rfl (Nat.succ_ne_zero _) (fun q_112 h_112 => ?_)
                    refine e_iload_n dX11_pull_115 rfl ?_
                    refine m_law (by decide) (rg_3 hS) dX11_pull_116 h_112 (by omega) (by omega) (fun g_116 => ?_)
                    refine e_aload_n dX11_pull_117 rfl ?_
                    refine m_getR (kt := (21, 120, 21)) (by decide) dX11_pull_118 f_X11_56 hT rfl (Nat.succ_ne_zero _) (fun q_118 h_118 => ?_)
                    refine e_iload dX11_pull_121 rfl ?_
                    refine m_law (by decide) (rg_21 hS) dX11_pull_123 h_118 (by omega) (by omega) (fun g_123 => ?_)
                    refine e_lcmp dX11_pull_124 ⟨by omega, by omega⟩ ⟨by omega, by omega⟩ ?_
                    refine e_if_ne (tgt := 154) dX11_pull_125 (by decide) (q_cmp_iI _ _) (fun c_125 => ?_) (fun c_125 => ?_)
                    · rw [q_cmp_eq] at c_125
                      refine e_aload_n dX11_pull_154 rfl ?_
                      refine e_iload_n dX11_pull_155 rfl ?_
                      refine e_iload dX11_pull_156 rfl ?_
                      refine e_cV (as := [_, _]) (ci := 11) dX11_pull_158 k_X11_becomes l_X11_180 i_X11_becomes v_X11_becomes hT rfl (by decide) ⟨_, _, rfl⟩ rfl rfl rfl rfl (Nat.le_of_ble_eq_true rfl) ⟨by decide, by decide⟩ (Nat.le_of_ble_eq_true rfl) (by decide) (m_becomes hT hS ⟨by omega, by omega⟩ ⟨by omega, by omega⟩) ?_
                      refine e_iinc (ls2 := [_, _, _, _, _]) dX11_pull_161 rfl (Nat.le_of_ble_eq_true rfl) rfl ?_
                      refine e_goto (tgt := 23) dX11_pull_164 (by decide) ?_
                      refine e_drop (k := 4) (ls2 := [_, _, _, _, _]) rfl ?_
                      exact ih (k + 1) _ _ _ (by omega) (by simp only [plF, ← h2, ← h3]; first | (rw [if_neg (show ¬ (¬ isOtherP S i ∧ ¬ (latestOf S (k : Int)) = -1 ∧ mayReadP S i (latestOf S (k : Int))) from fun h => c_56 h.1)]) | (rw [if_neg (show ¬ (¬ isOtherP S i ∧ ¬ (latestOf S (k : Int)) = -1 ∧ mayReadP S i (latestOf S (k : Int))) from fun h => h.1 c_56)]) | (rw [if_neg (show ¬ (¬ isOtherP S i ∧ ¬ (latestOf S (k : Int)) = -1 ∧ mayReadP S i (latestOf S (k : Int))) from fun h => h.2.1 c_62)]) | (rw [if_neg (show ¬ (¬ isOtherP S i ∧ ¬ (latestOf S (k : Int)) = -1 ∧ mayReadP S i (latestOf S (k : Int))) from fun h => c_72 h.2.2)]) | (rw [if_pos (show ¬ isOtherP S i ∧ ¬ (latestOf S (k : Int)) = -1 ∧ mayReadP S i (latestOf S (k : Int)) from ⟨fun g => g c_56, c_62, c_72⟩)]; (first | rw [if_pos (show isAsP S i (latestOf S (k : Int)) from c_83)] | rw [if_neg (show ¬ isAsP S i (latestOf S (k : Int)) from c_83)]); (first | rw [if_pos (show isInP S (latestOf S (k : Int)) ∧ ¬ S 2 i = 0 ∧ S 3 i = S 21 (latestOf S (k : Int)) from ⟨c_99, c_108, c_125⟩)] | rw [if_neg (show ¬ (isInP S (latestOf S (k : Int)) ∧ ¬ S 2 i = 0 ∧ S 3 i = S 21 (latestOf S (k : Int))) from fun h => c_99 h.1)] | rw [if_neg (show ¬ (isInP S (latestOf S (k : Int)) ∧ ¬ S 2 i = 0 ∧ S 3 i = S 21 (latestOf S (k : Int))) from fun h => h.2.1 c_108)] | rw [if_neg (show ¬ (isInP S (latestOf S (k : Int)) ∧ ¬ S 2 i = 0 ∧ S 3 i = S 21 (latestOf S (k : Int))) from fun h => c_125 h.2.2)]))) (by omega) (by omega) (by first | exact hS | exact WR.becomes hS ⟨by omega, by omega⟩ | exact WR.up (WR.up hS ⟨(show (0 : Int) ≤ _ by omega), (show _ ≤ (120 : Int) by omega)⟩) gw) (by first | exact h6 | (rw [becomesF_50 (by decide)]; exact h6))
                    · rw [q_cmp_eq] at c_125
                      refine e_aload_n dX11_pull_128 rfl ?_
                      refine m_getR (kt := (20, 48, 5)) (by decide) dX11_pull_129 f_X11_20 hT rfl (Nat.succ_ne_zero _) (fun q_129 h_129 => ?_)
                      refine e_iload_n dX11_pull_132 rfl ?_
                      refine e_iload dX11_pull_133 rfl ?_
                      refine e_iconst dX11_pull_135 ?_
                      refine e_iadd dX11_pull_136 ?_
                      refine m_iast (by decide) dX11_pull_137 h_129 (by omega) (by omega) ⟨by omega, by omega⟩ ?_
                      refine e_aload_n dX11_pull_138 rfl ?_
                      refine m_getR (kt := (20, 48, 4)) (by decide) dX11_pull_139 f_X11_17 hT rfl (Nat.succ_ne_zero _) (fun q_139 h_139 => ?_)
                      refine e_iload_n dX11_pull_142 rfl ?_
                      refine e_aload_n dX11_pull_143 rfl ?_
                      refine m_getR (kt := (20, 120, 20)) (by decide) dX11_pull_144 f_X11_53 hT rfl (Nat.succ_ne_zero _) (fun q_144 h_144 => ?_)
                      refine e_iload dX11_pull_147 rfl ?_
                      refine m_iald (by decide) dX11_pull_149 h_144 (by omega) (by omega) ?_
                      simp only [q_us_ap, editsF_3, Int.reduceEq, Int.reduceNeg, false_and, and_false, and_self, if_true, if_false, true_and, and_true, ite_self]
                      have g_149 := rg_20 hS (latestOf S (k : Int)) (by omega) (by omega)
                      refine m_iast (by decide) dX11_pull_150 h_139 (by omega) (by omega) ⟨by omega, by omega⟩ ?_
                      refine e_goto (tgt := 161) dX11_pull_151 (by decide) ?_
                      refine e_iinc (ls2 := [_, _, _, _, _]) dX11_pull_161 rfl (Nat.le_of_ble_eq_true rfl) rfl ?_
                      refine e_goto (tgt := 23) dX11_pull_164 (by decide) ?_
                      refine e_drop (k := 4) (ls2 := [_, _, _, _, _]) rfl ?_
                      exact ih (k + 1) _ _ _ (by omega) (by simp only [plF, ← h2, ← h3]; first | (rw [if_neg (show ¬ (¬ isOtherP S i ∧ ¬ (latestOf S (k : Int)) = -1 ∧ mayReadP S i (latestOf S (k : Int))) from fun h => c_56 h.1)]) | (rw [if_neg (show ¬ (¬ isOtherP S i ∧ ¬ (latestOf S (k : Int)) = -1 ∧ mayReadP S i (latestOf S (k : Int))) from fun h => h.1 c_56)]) | (rw [if_neg (show ¬ (¬ isOtherP S i ∧ ¬ (latestOf S (k : Int)) = -1 ∧ mayReadP S i (latestOf S (k : Int))) from fun h => h.2.1 c_62)]) | (rw [if_neg (show ¬ (¬ isOtherP S i ∧ ¬ (latestOf S (k : Int)) = -1 ∧ mayReadP S i (latestOf S (k : Int))) from fun h => c_72 h.2.2)]) | (rw [if_pos (show ¬ isOtherP S i ∧ ¬ (latestOf S (k : Int)) = -1 ∧ mayReadP S i (latestOf S (k : Int)) from ⟨fun g => g c_56, c_62, c_72⟩)]; (first | rw [if_pos (show isAsP S i (latestOf S (k : Int)) from c_83)] | rw [if_neg (show ¬ isAsP S i (latestOf S (k : Int)) from c_83)]); (first | rw [if_pos (show isInP S (latestOf S (k : Int)) ∧ ¬ S 2 i = 0 ∧ S 3 i = S 21 (latestOf S (k : Int)) from ⟨c_99, c_108, c_125⟩)] | rw [if_neg (show ¬ (isInP S (latestOf S (k : Int)) ∧ ¬ S 2 i = 0 ∧ S 3 i = S 21 (latestOf S (k : Int))) from fun h => c_99 h.1)] | rw [if_neg (show ¬ (isInP S (latestOf S (k : Int)) ∧ ¬ S 2 i = 0 ∧ S 3 i = S 21 (latestOf S (k : Int))) from fun h => h.2.1 c_108)] | rw [if_neg (show ¬ (isInP S (latestOf S (k : Int)) ∧ ¬ S 2 i = 0 ∧ S 3 i = S 21 (latestOf S (k : Int))) from fun h => c_125 h.2.2)]))) (by omega) (by omega) (by first | exact hS | exact WR.becomes hS ⟨by omega, by omega⟩ | exact WR.up (WR.up hS ⟨(show (0 : Int) ≤ _ by omega), (show _ ≤ (120 : Int) by omega)⟩) gw) (by first | exact h6 | (rw [becomesF_50 (by decide)]; exact h6))
              · simp only [bi_z, Classical.not_not] at c_83
                refine e_iconst dX11_pull_86 ?_
                refine e_goto (tgt := 91) dX11_pull_87 (by decide) ?_
                refine e_iadd dX11_pull_91 ?_
                refine e_istore_n (ls2 := [_, _, _, _, _]) dX11_pull_92 (Nat.le_of_ble_eq_true rfl) rfl ?_
                refine e_aload_n dX11_pull_93 rfl ?_
                refine e_iload dX11_pull_94 rfl ?_
                refine e_cV (as := [_]) (ci := 11) dX11_pull_96 k_X11_isIn l_X11_158 i_X11_isIn v_X11_isIn hT rfl (by decide) ⟨_, _, rfl⟩ rfl rfl rfl rfl (Nat.le_of_ble_eq_true rfl) ⟨by decide, by decide⟩ (Nat.le_of_ble_eq_true rfl) (by decide) (m_isIn hT hS ⟨by omega, by omega⟩) ?_
                refine e_if_eq (tgt := 154) dX11_pull_99 (by decide) bi_iI (fun c_99 => ?_) (fun c_99 => ?_)
                · simp only [bi_z, Classical.not_not] at c_99
                  refine e_aload_n dX11_pull_154 rfl ?_
                  refine e_iload_n dX11_pull_155 rfl ?_
                  refine e_iload dX11_pull_156 rfl ?_
                  refine e_cV (as := [_, _]) (ci := 11) dX11_pull_158 k_X11_becomes l_X11_180 i_X11_becomes v_X11_becomes hT rfl (by decide) ⟨_, _, rfl⟩ rfl rfl rfl rfl (Nat.le_of_ble_eq_true rfl) ⟨by decide, by decide⟩ (Nat.le_of_ble_eq_true rfl) (by decide) (m_becomes hT hS ⟨by omega, by omega⟩ ⟨by omega, by omega⟩) ?_
                  refine e_iinc (ls2 := [_, _, _, _, _]) dX11_pull_161 rfl (Nat.le_of_ble_eq_true rfl) rfl ?_
                  refine e_goto (tgt := 23) dX11_pull_164 (by decide) ?_
                  refine e_drop (k := 4) (ls2 := [_, _, _, _, _]) rfl ?_
                  exact ih (k + 1) _ _ _ (by omega) (by simp only [plF, ← h2, ← h3]; first | (rw [if_neg (show ¬ (¬ isOtherP S i ∧ ¬ (latestOf S (k : Int)) = -1 ∧ mayReadP S i (latestOf S (k : Int))) from fun h => c_56 h.1)]) | (rw [if_neg (show ¬ (¬ isOtherP S i ∧ ¬ (latestOf S (k : Int)) = -1 ∧ mayReadP S i (latestOf S (k : Int))) from fun h => h.1 c_56)]) | (rw [if_neg (show ¬ (¬ isOtherP S i ∧ ¬ (latestOf S (k : Int)) = -1 ∧ mayReadP S i (latestOf S (k : Int))) from fun h => h.2.1 c_62)]) | (rw [if_neg (show ¬ (¬ isOtherP S i ∧ ¬ (latestOf S (k : Int)) = -1 ∧ mayReadP S i (latestOf S (k : Int))) from fun h => c_72 h.2.2)]) | (rw [if_pos (show ¬ isOtherP S i ∧ ¬ (latestOf S (k : Int)) = -1 ∧ mayReadP S i (latestOf S (k : Int)) from ⟨fun g => g c_56, c_62, c_72⟩)]; (first | rw [if_pos (show isAsP S i (latestOf S (k : Int)) from c_83)] | rw [if_neg (show ¬ isAsP S i (latestOf S (k : Int)) from c_83)]); (first | rw [if_pos (show isInP S (latestOf S (k : Int)) ∧ ¬ S 2 i = 0 ∧ S 3 i = S 21 (latestOf S (k : Int)) from ⟨c_99, c_108, c_125⟩)] | rw [if_neg (show ¬ (isInP S (latestOf S (k : Int)) ∧ ¬ S 2 i = 0 ∧ S 3 i = S 21 (latestOf S (k : Int))) from fun h => c_99 h.1)] | rw [if_neg (show ¬ (isInP S (latestOf S (k : Int)) ∧ ¬ S 2 i = 0 ∧ S 3 i = S 21 (latestOf S (k : Int))) from fun h => h.2.1 c_108)] | rw [if_neg (show ¬ (isInP S (latestOf S (k : Int)) ∧ ¬ S 2 i = 0 ∧ S 3 i = S 21 (latestOf S (k : Int))) from fun h => c_125 h.2.2)]))) (by omega) (by omega) (by first | exact hS | exact WR.becomes hS ⟨by omega, by omega⟩ | exact WR.up (WR.up hS ⟨(show (0 : Int) ≤ _ by omega), (show _ ≤ (120 : Int) by omega)⟩) gw) (by first | exact h6 | (rw [becomesF_50 (by decide)]; exact h6))
                · simp only [bi_z, Classical.not_not] at c_99
                  refine e_aload_n dX11_pull_102 rfl ?_
                  refine m_getR (kt := (20, 48, 2)) (by decide) dX11_pull_103 f_X11_7 hT rfl (Nat.succ_ne_zero _) (fun q_103 h_103 => ?_)
                  refine e_iload_n dX11_pull_106 rfl ?_
                  refine m_iaw (by decide) (rg_2 hS) dX11_pull_107 h_103 (by omega) (by omega) (fun g_107 => ?_)
                  refine e_if_eq (tgt := 154) dX11_pull_108 (by decide) ⟨by omega, by omega⟩ (fun c_108 => ?_) (fun c_108 => ?_)
                  · refine e_aload_n dX11_pull_154 rfl ?_
                    refine e_iload_n dX11_pull_155 rfl ?_
                    refine e_iload dX11_pull_156 rfl ?_
                    refine e_cV (as := [_, _]) (ci := 11) dX11_pull_158 k_X11_becomes l_X11_180 i_X11_becomes v_X11_becomes hT rfl (by decide) ⟨_, _, rfl⟩ rfl rfl rfl rfl (Nat.le_of_ble_eq_true rfl) ⟨by decide, by decide⟩ (Nat.le_of_ble_eq_true rfl) (by decide) (m_becomes hT hS ⟨by omega, by omega⟩ ⟨by omega, by omega⟩) ?_
                    refine e_iinc (ls2 := [_, _, _, _, _]) dX11_pull_161 rfl (Nat.le_of_ble_eq_true rfl) rfl ?_
                    refine e_goto (tgt := 23) dX11_pull_164 (by decide) ?_
                    refine e_drop (k := 4) (ls2 := [_, _, _, _, _]) rfl ?_
                    exact ih (k + 1) _ _ _ (by omega) (by simp only [plF, ← h2, ← h3]; first | (rw [if_neg (show ¬ (¬ isOtherP S i ∧ ¬ (latestOf S (k : Int)) = -1 ∧ mayReadP S i (latestOf S (k : Int))) from fun h => c_56 h.1)]) | (rw [if_neg (show ¬ (¬ isOtherP S i ∧ ¬ (latestOf S (k : Int)) = -1 ∧ mayReadP S i (latestOf S (k : Int))) from fun h => h.1 c_56)]) | (rw [if_neg (show ¬ (¬ isOtherP S i ∧ ¬ (latestOf S (k : Int)) = -1 ∧ mayReadP S i (latestOf S (k : Int))) from fun h => h.2.1 c_62)]) | (rw [if_neg (show ¬ (¬ isOtherP S i ∧ ¬ (latestOf S (k : Int)) = -1 ∧ mayReadP S i (latestOf S (k : Int))) from fun h => c_72 h.2.2)]) | (rw [if_pos (show ¬ isOtherP S i ∧ ¬ (latestOf S (k : Int)) = -1 ∧ mayReadP S i (latestOf S (k : Int)) from ⟨fun g => g c_56, c_62, c_72⟩)]; (first | rw [if_pos (show isAsP S i (latestOf S (k : Int)) from c_83)] | rw [if_neg (show ¬ isAsP S i (latestOf S (k : Int)) from c_83)]); (first | rw [if_pos (show isInP S (latestOf S (k : Int)) ∧ ¬ S 2 i = 0 ∧ S 3 i = S 21 (latestOf S (k : Int)) from ⟨c_99, c_108, c_125⟩)] | rw [if_neg (show ¬ (isInP S (latestOf S (k : Int)) ∧ ¬ S 2 i = 0 ∧ S 3 i = S 21 (latestOf S (k : Int))) from fun h => c_99 h.1)] | rw [if_neg (show ¬ (isInP S (latestOf S (k : Int)) ∧ ¬ S 2 i = 0 ∧ S 3 i = S 21 (latestOf S (k : Int))) from fun h => h.2.1 c_108)] | rw [if_neg (show ¬ (isInP S (latestOf S (k : Int)) ∧ ¬ S 2 i = 0 ∧ S 3 i = S 21 (latestOf S (k : Int))) from fun h => c_125 h.2.2)]))) (by omega) (by omega) (by first | exact hS | exact WR.becomes hS ⟨by omega, by omega⟩ | exact WR.up (WR.up hS ⟨(show (0 : Int) ≤ _ by omega), (show _ ≤ (120 : Int) by omega)⟩) gw) (by first | exact h6 | (rw [becomesF_50 (by decide)]; exact h6))
                  · refine e_aload_n dX11_pull_111 rfl ?_
                    refine m_getR (kt := (21, 48, 3)) (by decide) dX11_pull_112 f_X11_13 hT rfl (Nat.succ_ne_zero _) (fun q_112 h_112 => ?_)
                    refine e_iload_n dX11_pull_115 rfl ?_
                    refine m_law (by decide) (rg_3 hS) dX11_pull_116 h_112 (by omega) (by omega) (fun g_116 => ?_)
                    refine e_aload_n dX11_pull_117 rfl ?_
                    refine m_getR (kt := (21, 120, 21)) (by decide) dX11_pull_118 f_X11_56 hT rfl (Nat.succ_ne_zero _) (fun q_118 h_118 => ?_)
                    refine e_iload dX11_pull_121 rfl ?_
                    refine m_law (by decide) (rg_21 hS) dX11_pull_123 h_118 (by omega) (by omega) (fun g_123 => ?_)
                    refine e_lcmp dX11_pull_124 ⟨by omega, by omega⟩ ⟨by omega, by omega⟩ ?_
                    refine e_if_ne (tgt := 154) dX11_pull_125 (by decide) (q_cmp_iI _ _) (fun c_125 => ?_) (fun c_125 => ?_)
                    · rw [q_cmp_eq] at c_125
                      refine e_aload_n dX11_pull_154 rfl ?_
                      refine e_iload_n dX11_pull_155 rfl ?_
                      refine e_iload dX11_pull_156 rfl ?_
                      refine e_cV (as := [_, _]) (ci := 11) dX11_pull_158 k_X11_becomes l_X11_180 i_X11_becomes v_X11_becomes hT rfl (by decide) ⟨_, _, rfl⟩ rfl rfl rfl rfl (Nat.le_of_ble_eq_true rfl) ⟨by decide, by decide⟩ (Nat.le_of_ble_eq_true rfl) (by decide) (m_becomes hT hS ⟨by omega, by omega⟩ ⟨by omega, by omega⟩) ?_
                      refine e_iinc (ls2 := [_, _, _, _, _]) dX11_pull_161 rfl (Nat.le_of_ble_eq_true rfl) rfl ?_
                      refine e_goto (tgt := 23) dX11_pull_164 (by decide) ?_
                      refine e_drop (k := 4) (ls2 := [_, _, _, _, _]) rfl ?_
                      exact ih (k + 1) _ _ _ (by omega) (by simp only [plF, ← h2, ← h3]; first | (rw [if_neg (show ¬ (¬ isOtherP S i ∧ ¬ (latestOf S (k : Int)) = -1 ∧ mayReadP S i (latestOf S (k : Int))) from fun h => c_56 h.1)]) | (rw [if_neg (show ¬ (¬ isOtherP S i ∧ ¬ (latestOf S (k : Int)) = -1 ∧ mayReadP S i (latestOf S (k : Int))) from fun h => h.1 c_56)]) | (rw [if_neg (show ¬ (¬ isOtherP S i ∧ ¬ (latestOf S (k : Int)) = -1 ∧ mayReadP S i (latestOf S (k : Int))) from fun h => h.2.1 c_62)]) | (rw [if_neg (show ¬ (¬ isOtherP S i ∧ ¬ (latestOf S (k : Int)) = -1 ∧ mayReadP S i (latestOf S (k : Int))) from fun h => c_72 h.2.2)]) | (rw [if_pos (show ¬ isOtherP S i ∧ ¬ (latestOf S (k : Int)) = -1 ∧ mayReadP S i (latestOf S (k : Int)) from ⟨fun g => g c_56, c_62, c_72⟩)]; (first | rw [if_pos (show isAsP S i (latestOf S (k : Int)) from c_83)] | rw [if_neg (show ¬ isAsP S i (latestOf S (k : Int)) from c_83)]); (first | rw [if_pos (show isInP S (latestOf S (k : Int)) ∧ ¬ S 2 i = 0 ∧ S 3 i = S 21 (latestOf S (k : Int)) from ⟨c_99, c_108, c_125⟩)] | rw [if_neg (show ¬ (isInP S (latestOf S (k : Int)) ∧ ¬ S 2 i = 0 ∧ S 3 i = S 21 (latestOf S (k : Int))) from fun h => c_99 h.1)] | rw [if_neg (show ¬ (isInP S (latestOf S (k : Int)) ∧ ¬ S 2 i = 0 ∧ S 3 i = S 21 (latestOf S (k : Int))) from fun h => h.2.1 c_108)] | rw [if_neg (show ¬ (isInP S (latestOf S (k : Int)) ∧ ¬ S 2 i = 0 ∧ S 3 i = S 21 (latestOf S (k : Int))) from fun h => c_125 h.2.2)]))) (by omega) (by omega) (by first | exact hS | exact WR.becomes hS ⟨by omega, by omega⟩ | exact WR.up (WR.up hS ⟨(show (0 : Int) ≤ _ by omega), (show _ ≤ (120 : Int) by omega)⟩) gw) (by first | exact h6 | (rw [becomesF_50 (by decide)]; exact h6))
                    · rw [q_cmp_eq] at c_125
                      refine e_aload_n dX11_pull_128 rfl ?_
                      refine m_getR (kt := (20, 48, 5)) (by decide) dX11_pull_129 f_X11_20 hT rfl (Nat.succ_ne_zero _) (fun q_129 h_129 => ?_)
                      refine e_iload_n dX11_pull_132 rfl ?_
                      refine e_iload dX11_pull_133 rfl ?_
                      refine e_iconst dX11_pull_135 ?_
                      refine e_iadd dX11_pull_136 ?_
                      refine m_iast (by decide) dX11_pull_137 h_129 (by omega) (by omega) ⟨by omega, by omega⟩ ?_
                      refine e_aload_n dX11_pull_138 rfl ?_
                      refine m_getR (kt := (20, 48, 4)) (by decide) dX11_pull_139 f_X11_17 hT rfl (Nat.succ_ne_zero _) (fun q_139 h_139 => ?_)
                      refine e_iload_n dX11_pull_142 rfl ?_
                      refine e_aload_n dX11_pull_143 rfl ?_
                      refine m_getR (kt := (20, 120, 20)) (by decide) dX11_pull_144 f_X11_53 hT rfl (Nat.succ_ne_zero _) (fun q_144 h_144 => ?_)
                      refine e_iload dX11_pull_147 rfl ?_
                      refine m_iald (by decide) dX11_pull_149 h_144 (by omega) (by omega) ?_
                      simp only [q_us_ap, editsF_3, Int.reduceEq, Int.reduceNeg, false_and, and_false, and_self, if_true, if_false, true_and, and_true, ite_self]
                      have g_149 := rg_20 hS (latestOf S (k : Int)) (by omega) (by omega)
                      refine m_iast (by decide) dX11_pull_150 h_139 (by omega) (by omega) ⟨by omega, by omega⟩ ?_
                      refine e_goto (tgt := 161) dX11_pull_151 (by decide) ?_
                      refine e_iinc (ls2 := [_, _, _, _, _]) dX11_pull_161 rfl (Nat.le_of_ble_eq_true rfl) rfl ?_
                      refine e_goto (tgt := 23) dX11_pull_164 (by decide) ?_
                      refine e_drop (k := 4) (ls2 := [_, _, _, _, _]) rfl ?_
                      exact ih (k + 1) _ _ _ (by omega) (by simp only [plF, ← h2, ← h3]; first | (rw [if_neg (show ¬ (¬ isOtherP S i ∧ ¬ (latestOf S (k : Int)) = -1 ∧ mayReadP S i (latestOf S (k : Int))) from fun h => c_56 h.1)]) | (rw [if_neg (show ¬ (¬ isOtherP S i ∧ ¬ (latestOf S (k : Int)) = -1 ∧ mayReadP S i (latestOf S (k : Int))) from fun h => h.1 c_56)]) | (rw [if_neg (show ¬ (¬ isOtherP S i ∧ ¬ (latestOf S (k : Int)) = -1 ∧ mayReadP S i (latestOf S (k : Int))) from fun h => h.2.1 c_62)]) | (rw [if_neg (show ¬ (¬ isOtherP S i ∧ ¬ (latestOf S (k : Int)) = -1 ∧ mayReadP S i (latestOf S (k : Int))) from fun h => c_72 h.2.2)]) | (rw [if_pos (show ¬ isOtherP S i ∧ ¬ (latestOf S (k : Int)) = -1 ∧ mayReadP S i (latestOf S (k : Int)) from ⟨fun g => g c_56, c_62, c_72⟩)]; (first | rw [if_pos (show isAsP S i (latestOf S (k : Int)) from c_83)] | rw [if_neg (show ¬ isAsP S i (latestOf S (k : Int)) from c_83)]); (first | rw [if_pos (show isInP S (latestOf S (k : Int)) ∧ ¬ S 2 i = 0 ∧ S 3 i = S 21 (latestOf S (k : Int)) from ⟨c_99, c_108, c_125⟩)] | rw [if_neg (show ¬ (isInP S (latestOf S (k : Int)) ∧ ¬ S 2 i = 0 ∧ S 3 i = S 21 (latestOf S (k : Int))) from fun h => c_99 h.1)] | rw [if_neg (show ¬ (isInP S (latestOf S (k : Int)) ∧ ¬ S 2 i = 0 ∧ S 3 i = S 21 (latestOf S (k : Int))) from fun h => h.2.1 c_108)] | rw [if_neg (show ¬ (isInP S (latestOf S (k : Int)) ∧ ¬ S 2 i = 0 ∧ S 3 i = S 21 (latestOf S (k : Int))) from fun h => c_125 h.2.2)]))) (by omega) (by omega) (by first | exact hS | exact WR.becomes hS ⟨by omega, by omega⟩ | exact WR.up (WR.up hS ⟨(show (0 : Int) ≤ _ by omega), (show _ ≤ (120 : Int) by omega)⟩) gw) (by first | exact h6 | (rw [becomesF_50 (by decide)]; exact h6))
set_option maxRecDepth 20000 in
set_option maxHeartbeats 4000000 in
theorem m_pull {K : q_K} {M C : q_S} {a : Nat} (hT : K a = (12, 0, 50)) (hW : WR M) {m : Int} (hm : q_iI m) : q_E mX11_pull 0 [some (q_R a), some (q_I m), none, none, none] [] K M C 0 0 (e_is (some (q_I (pullF M m).1)) K (pullF M m).2 C) := by
  by_cases e0 : 0 ≤ m ∧ m ≤ 2
  · refine e_aload_n dX11_pull_0 rfl ?_
    refine e_iload_n dX11_pull_1 rfl ?_
    refine e_cS (as := [_]) dX11_pull_2 k_X11_isMachine l_X11_135 s_X11_isMachine rfl rfl rfl rfl (Nat.le_of_ble_eq_true rfl) ⟨by decide, by decide⟩ (Nat.le_of_ble_eq_true rfl) (by decide) (m_isMachine (by assumption)) ?_
    refine e_if_eq (tgt := 12) dX11_pull_5 (by decide) bi_iI (fun c_5 => ?_) (fun c_5 => ?_)
    · simp only [bi_z, Classical.not_not] at c_5
      exfalso; omega
    · simp only [bi_z, Classical.not_not] at c_5
      refine e_iconst dX11_pull_8 ?_
      refine e_goto (tgt := 13) dX11_pull_9 (by decide) ?_
      refine m_putI (by decide) dX11_pull_13 f_X11_101 rfl hT ⟨by omega, by omega⟩ ?_
      refine e_iconst dX11_pull_16 ?_
      refine e_istore_n (ls2 := [_, _, _, _, _]) dX11_pull_17 (Nat.le_of_ble_eq_true rfl) rfl ?_
      refine e_bipush dX11_pull_18 (by decide) ?_
      refine e_iload_n dX11_pull_20 rfl ?_
      refine e_imul dX11_pull_21 ?_
      refine e_istore_n (ls2 := [_, _, _, _, _]) dX11_pull_22 (Nat.le_of_ble_eq_true rfl) rfl ?_
      have := m_pull_l (C := C) hT hW e0 16 0 0 (16 * m) (thr M 0) (by omega) rfl (by omega) ⟨by decide, by decide⟩ (WR.up hW ⟨by decide, by decide⟩) rfl
      unfold pullF; rw [if_neg (Classical.not_not.mpr e0)]; exact this
  ·
    refine e_aload_n dX11_pull_0 rfl ?_
    refine e_iload_n dX11_pull_1 rfl ?_
    refine e_cS (as := [_]) dX11_pull_2 k_X11_isMachine l_X11_135 s_X11_isMachine rfl rfl rfl rfl (Nat.le_of_ble_eq_true rfl) ⟨by decide, by decide⟩ (Nat.le_of_ble_eq_true rfl) (by decide) (m_isMachine (by assumption)) ?_
    refine e_if_eq (tgt := 12) dX11_pull_5 (by decide) bi_iI (fun c_5 => ?_) (fun c_5 => ?_)
    · simp only [bi_z, Classical.not_not] at c_5
      refine e_iconst dX11_pull_12 ?_
      refine m_putI (by decide) dX11_pull_13 f_X11_101 rfl hT ⟨by omega, by omega⟩ ?_
      refine e_iconst dX11_pull_16 ?_
      refine e_istore_n (ls2 := [_, _, _, _, _]) dX11_pull_17 (Nat.le_of_ble_eq_true rfl) rfl ?_
      refine e_bipush dX11_pull_18 (by decide) ?_
      refine e_iload_n dX11_pull_20 rfl ?_
      refine e_imul dX11_pull_21 ?_
      refine e_istore_n (ls2 := [_, _, _, _, _]) dX11_pull_22 (Nat.le_of_ble_eq_true rfl) rfl ?_
      refine e_iload_n dX11_pull_23 rfl ?_
      refine e_bipush dX11_pull_24 (by decide) ?_
      refine e_iload_n dX11_pull_26 rfl ?_
      refine e_imul dX11_pull_27 ?_
      refine e_bipush dX11_pull_28 (by decide) ?_
      refine e_iadd dX11_pull_30 ?_
      refine e_icmp_geA (tgt := 167) dX11_pull_31 (by decide) ?_ ?_
      · refine e_iload_n dX11_pull_167 rfl ?_
        exact e_iret dX11_pull_168 (Or.inl rfl) (e_ok (by unfold pullF; rw [if_pos e0]) (by unfold pullF; rw [if_pos e0]) rfl)
      · refine e_aload_n dX11_pull_34 rfl ?_
        refine m_getI (by decide) dX11_pull_35 f_X11_101 (Or.inl rfl) hT ?_
        simp only [q_us_ap, editsF_3, Int.reduceEq, Int.reduceNeg, false_and, and_false, and_self, if_true, if_false, true_and, and_true, ite_self]
        have g_35 := rs_41 hW
        refine e_if_ne (tgt := 167) dX11_pull_38 (by decide) ⟨by decide, by decide⟩ (fun c_38 => ?_) (fun c_38 => ?_)
        · refine e_iload_n dX11_pull_167 rfl ?_
          exact e_iret dX11_pull_168 (Or.inl rfl) (e_ok (by unfold pullF; rw [if_pos e0]) (by unfold pullF; rw [if_pos e0]) rfl)
        · exact absurd c_38 (by decide)
    · simp only [bi_z, Classical.not_not] at c_5
      exfalso; omega
