set_option maxRecDepth 20000 in
set_option maxHeartbeats 4000000 in
theorem m_mr1 {K : q_K} {M C : q_S} {a : Nat} (hT : K a = (12, 0, 50)) (hW : WR M) {Q : q_Q2} {m needs : Int} (hm : 0 ≤ m ∧ m ≤ 2) (H : q_E mX11_makesRoom 63 [some (q_R a), some (q_I m), some (q_I needs), some (q_I (M 12 m - takF M m 16 + cgL M m 16)), none, none] [] K M C 0 0 (Q)) : ∀ (r k : Nat) (t i : Int), (k + r = 16) → (t = M 12 m - takF M m 16 + cgL M m k) → (i = 16 * m + k) → q_E mX11_makesRoom 19 [some (q_R a), some (q_I m), some (q_I needs), some (q_I t), some (q_I i), none] [] K M C 0 0 (Q) := by
  intro r
  induction r with
  | zero =>
    intro k t i h1 h2 h3
    refine e_iload dX11_makesRoom_19 rfl ?_
    refine e_bipush dX11_makesRoom_21 (by decide) ?_
    refine e_iload_n dX11_makesRoom_23 rfl ?_
    refine e_imul dX11_makesRoom_24 ?_
    refine e_bipush dX11_makesRoom_25 (by decide) ?_
    refine e_iadd dX11_makesRoom_27 ?_
    refine e_icmp_ge (tgt := 63) dX11_makesRoom_28 (by decide) ⟨by omega, by omega⟩ ⟨by omega, by omega⟩ (fun c_28 => ?_) (fun c_28 => ?_)
    · refine e_drop (k := 4) (ls2 := [_, _, _, _, _, _]) rfl ?_
      have e9 : k = 16 := by omega
      subst e9
      rw [h2]
      exact H
    · exfalso; omega
  | succ r ih =>
    intro k t i h1 h2 h3
    have g_c := cgL_rg M m k
    have g_t := takF_rg M m 16
    have g12 : 0 ≤ M 12 m ∧ M 12 m ≤ 200 := hW 12 m
    refine e_iload dX11_makesRoom_19 rfl ?_
    refine e_bipush dX11_makesRoom_21 (by decide) ?_
    refine e_iload_n dX11_makesRoom_23 rfl ?_
    refine e_imul dX11_makesRoom_24 ?_
    refine e_bipush dX11_makesRoom_25 (by decide) ?_
    refine e_iadd dX11_makesRoom_27 ?_
    refine e_icmp_ge (tgt := 63) dX11_makesRoom_28 (by decide) ⟨by omega, by omega⟩ ⟨by omega, by omega⟩ (fun c_28 => ?_) (fun c_28 => ?_)
    · exfalso; omega
    · refine e_iload_n dX11_makesRoom_31 rfl ?_
      refine e_aload_n dX11_makesRoom_32 rfl ?_
      refine e_iload dX11_makesRoom_33 rfl ?_
      refine e_cV (as := [_]) (ci := 11) dX11_makesRoom_35 k_X11_canGo l_X11_223 i_X11_canGo v_X11_canGo hT rfl (by decide) ⟨_, _, rfl⟩ rfl rfl rfl rfl (Nat.le_of_ble_eq_true rfl) ⟨by decide, by decide⟩ (Nat.le_of_ble_eq_true rfl) (by decide) (m_canGo hT hW ⟨by omega, by omega⟩) ?_
      refine e_if_eq (tgt := 54) dX11_makesRoom_38 (by decide) bi_iI (fun c_38 => ?_) (fun c_38 => ?_)
      · simp only [bi_z, Classical.not_not] at c_38
        refine e_iconst dX11_makesRoom_54 ?_
        have g55 := cgL_rg M m k
        refine e_iadd dX11_makesRoom_55 ?_
        refine e_istore_n (ls2 := [_, _, _, _, _, _]) dX11_makesRoom_56 (Nat.le_of_ble_eq_true rfl) rfl ?_
        refine e_iinc (ls2 := [_, _, _, _, _, _]) dX11_makesRoom_57 rfl (Nat.le_of_ble_eq_true rfl) rfl ?_
        refine e_goto (tgt := 19) dX11_makesRoom_60 (by decide) ?_
        exact ih (k + 1) _ _ (by omega) (by simp only [cgL, ← h3]; (first | rw [if_pos c_38] | rw [if_neg c_38]); omega) (by omega)
      · simp only [bi_z, Classical.not_not] at c_38
        refine e_aload_n dX11_makesRoom_41 rfl ?_
        refine m_getR (kt := (21, 48, 3)) (by decide) dX11_makesRoom_42 f_X11_13 hT rfl (Nat.succ_ne_zero _) (fun q_42 h_42 => ?_)
        refine e_iload dX11_makesRoom_45 rfl ?_
        refine m_law (by decide) (rg_3 hW) dX11_makesRoom_47 h_42 (by omega) (by omega) (fun g_47 => ?_)
        refine e_cS (as := [_]) dX11_makesRoom_48 k_X11_lengthOf l_X11_111 s_X11_lengthOf rfl rfl rfl rfl (Nat.le_of_ble_eq_true rfl) ⟨by decide, by decide⟩ (Nat.le_of_ble_eq_true rfl) (by decide) (m_lengthOf ⟨by omega, by omega⟩) ?_
        have g_48 := mlen_nn (M 3 i)
        refine e_goto (tgt := 55) dX11_makesRoom_51 (by decide) ?_
        have g55 := cgL_rg M m k
        refine e_iadd dX11_makesRoom_55 ?_
        refine e_istore_n (ls2 := [_, _, _, _, _, _]) dX11_makesRoom_56 (Nat.le_of_ble_eq_true rfl) rfl ?_
        refine e_iinc (ls2 := [_, _, _, _, _, _]) dX11_makesRoom_57 rfl (Nat.le_of_ble_eq_true rfl) rfl ?_
        refine e_goto (tgt := 19) dX11_makesRoom_60 (by decide) ?_
        exact ih (k + 1) _ _ (by omega) (by simp only [cgL, ← h3]; (first | rw [if_pos c_38] | rw [if_neg c_38]); omega) (by omega)
set_option maxRecDepth 20000 in
set_option maxHeartbeats 4000000 in
theorem m_mr3 {K : q_K} {M C : q_S} {a : Nat} (hT : K a = (12, 0, 50)) (hW : WR M) {Q : q_Q2} {m needs : Int} (hm : 0 ≤ m ∧ m ≤ 2) (H : q_E mX11_makesRoom 154 [some (q_R a), some (q_I m), some (q_I needs), none, some (q_I (goF M m 16)), none] [] K M C 0 0 (Q)) : ∀ (r k : Nat) (g i : Int), (k + r = 16) → (g = goF M m k) → (i = 16 * m + k) → q_E mX11_makesRoom 95 [some (q_R a), some (q_I m), some (q_I needs), none, some (q_I g), some (q_I i)] [] K M C 0 0 (Q) := by
  intro r
  induction r with
  | zero =>
    intro k g i h1 h2 h3
    refine e_iload dX11_makesRoom_95 rfl ?_
    refine e_bipush dX11_makesRoom_97 (by decide) ?_
    refine e_iload_n dX11_makesRoom_99 rfl ?_
    refine e_imul dX11_makesRoom_100 ?_
    refine e_bipush dX11_makesRoom_101 (by decide) ?_
    refine e_iadd dX11_makesRoom_103 ?_
    refine e_icmp_ge (tgt := 154) dX11_makesRoom_104 (by decide) ⟨by omega, by omega⟩ ⟨by omega, by omega⟩ (fun c_104 => ?_) (fun c_104 => ?_)
    · refine e_drop (k := 5) (ls2 := [_, _, _, _, _, _]) rfl ?_
      have e9 : k = 16 := by omega
      subst e9
      rw [h2]
      exact H
    · exfalso; omega
  | succ r ih =>
    intro k g i h1 h2 h3
    have g_g := goF_sp M m k
    refine e_iload dX11_makesRoom_95 rfl ?_
    refine e_bipush dX11_makesRoom_97 (by decide) ?_
    refine e_iload_n dX11_makesRoom_99 rfl ?_
    refine e_imul dX11_makesRoom_100 ?_
    refine e_bipush dX11_makesRoom_101 (by decide) ?_
    refine e_iadd dX11_makesRoom_103 ?_
    refine e_icmp_ge (tgt := 154) dX11_makesRoom_104 (by decide) ⟨by omega, by omega⟩ ⟨by omega, by omega⟩ (fun c_104 => ?_) (fun c_104 => ?_)
    · exfalso; omega
    · refine e_aload_n dX11_makesRoom_107 rfl ?_
      refine e_iload dX11_makesRoom_108 rfl ?_
      refine e_cV (as := [_]) (ci := 11) dX11_makesRoom_110 k_X11_canGo l_X11_223 i_X11_canGo v_X11_canGo hT rfl (by decide) ⟨_, _, rfl⟩ rfl rfl rfl rfl (Nat.le_of_ble_eq_true rfl) ⟨by decide, by decide⟩ (Nat.le_of_ble_eq_true rfl) (by decide) (m_canGo hT hW ⟨by omega, by omega⟩) ?_
      refine e_if_eq (tgt := 144) dX11_makesRoom_113 (by decide) bi_iI (fun c_113 => ?_) (fun c_113 => ?_)
      · simp only [bi_z, Classical.not_not] at c_113
        refine e_iload dX11_makesRoom_144 rfl ?_
        refine e_istore (ls2 := [_, _, _, _, _, _]) dX11_makesRoom_146 (Nat.le_of_ble_eq_true rfl) rfl ?_
        refine e_iinc (ls2 := [_, _, _, _, _, _]) dX11_makesRoom_148 rfl (Nat.le_of_ble_eq_true rfl) rfl ?_
        refine e_goto (tgt := 95) dX11_makesRoom_151 (by decide) ?_
        exact ih (k + 1) _ _ (by omega) (by simp only [goF, ← h3, ← h2]; first | rw [if_neg (fun h => c_113 h.1)] | rw [if_pos ⟨c_113, by omega⟩] | rw [if_neg (fun h => by have := h.2; omega)]) (by omega)
      · simp only [bi_z, Classical.not_not] at c_113
        refine e_iload dX11_makesRoom_116 rfl ?_
        refine e_iconst dX11_makesRoom_118 ?_
        refine e_icmp_eq (tgt := 139) dX11_makesRoom_119 (by decide) ⟨by omega, by omega⟩ ⟨by omega, by omega⟩ (fun c_119 => ?_) (fun c_119 => ?_)
        · refine e_iload dX11_makesRoom_139 rfl ?_
          refine e_goto (tgt := 146) dX11_makesRoom_141 (by decide) ?_
          refine e_istore (ls2 := [_, _, _, _, _, _]) dX11_makesRoom_146 (Nat.le_of_ble_eq_true rfl) rfl ?_
          refine e_iinc (ls2 := [_, _, _, _, _, _]) dX11_makesRoom_148 rfl (Nat.le_of_ble_eq_true rfl) rfl ?_
          refine e_goto (tgt := 95) dX11_makesRoom_151 (by decide) ?_
          exact ih (k + 1) _ _ (by omega) (by simp only [goF, ← h3, ← h2]; first | rw [if_neg (fun h => c_113 h.1)] | rw [if_pos ⟨c_113, by omega⟩] | rw [if_neg (fun h => by have := h.2; omega)]) (by omega)
        · refine e_aload_n dX11_makesRoom_122 rfl ?_
          refine m_getR (kt := (20, 48, 7)) (by decide) dX11_makesRoom_123 f_X11_26 hT rfl (Nat.succ_ne_zero _) (fun q_123 h_123 => ?_)
          refine e_iload dX11_makesRoom_126 rfl ?_
          refine m_iaw (by decide) (rg_7 hW) dX11_makesRoom_128 h_123 (by omega) (by omega) (fun g_128 => ?_)
          refine e_aload_n dX11_makesRoom_129 rfl ?_
          refine m_getR (kt := (20, 48, 7)) (by decide) dX11_makesRoom_130 f_X11_26 hT rfl (Nat.succ_ne_zero _) (fun q_130 h_130 => ?_)
          refine e_iload dX11_makesRoom_133 rfl ?_
          refine m_iaw (by decide) (rg_7 hW) dX11_makesRoom_135 h_130 (by omega) (by omega) (fun g_135 => ?_)
          refine e_icmp_ge (tgt := 144) dX11_makesRoom_136 (by decide) ⟨by omega, by omega⟩ ⟨by omega, by omega⟩ (fun c_136 => ?_) (fun c_136 => ?_)
          · refine e_iload dX11_makesRoom_144 rfl ?_
            refine e_istore (ls2 := [_, _, _, _, _, _]) dX11_makesRoom_146 (Nat.le_of_ble_eq_true rfl) rfl ?_
            refine e_iinc (ls2 := [_, _, _, _, _, _]) dX11_makesRoom_148 rfl (Nat.le_of_ble_eq_true rfl) rfl ?_
            refine e_goto (tgt := 95) dX11_makesRoom_151 (by decide) ?_
            exact ih (k + 1) _ _ (by omega) (by simp only [goF, ← h3, ← h2]; first | rw [if_neg (fun h => c_113 h.1)] | rw [if_pos ⟨c_113, by omega⟩] | rw [if_neg (fun h => by have := h.2; omega)]) (by omega)
          · refine e_iload dX11_makesRoom_139 rfl ?_
            refine e_goto (tgt := 146) dX11_makesRoom_141 (by decide) ?_
            refine e_istore (ls2 := [_, _, _, _, _, _]) dX11_makesRoom_146 (Nat.le_of_ble_eq_true rfl) rfl ?_
            refine e_iinc (ls2 := [_, _, _, _, _, _]) dX11_makesRoom_148 rfl (Nat.le_of_ble_eq_true rfl) rfl ?_
            refine e_goto (tgt := 95) dX11_makesRoom_151 (by decide) ?_
            exact ih (k + 1) _ _ (by omega) (by simp only [goF, ← h3, ← h2]; first | rw [if_neg (fun h => c_113 h.1)] | rw [if_pos ⟨c_113, by omega⟩] | rw [if_neg (fun h => by have := h.2; omega)]) (by omega)
set_option maxRecDepth 20000 in
set_option maxHeartbeats 4000000 in
theorem m_mr2 {K : q_K} {C : q_S} {a : Nat} (hT : K a = (12, 0, 50)) {m needs : Int} (hm : 0 ≤ m ∧ m ≤ 2) (hn : 0 ≤ needs ∧ needs ≤ 100) : ∀ (r : Nat) (S : q_S), WR S → cgN S m 16 < r → needs ≤ S 12 m - takF S m 16 + cgL S m 16 → q_E mX11_makesRoom 70 [some (q_R a), some (q_I m), some (q_I needs), none, none, none] [] K S C 0 0 (e_is (some (q_I 1)) K (mrF m needs r S) C) := by
  intro r
  induction r with
  | zero => intro S hS h2 h3; have := (cgN_rg S m 16).1; exfalso; omega
  | succ r ih =>
    intro S hS h2 h3
    have gt0 := takF_rg S m 16
    have g12 : 0 ≤ S 12 m ∧ S 12 m ≤ 200 := hS 12 m
    refine e_aload_n dX11_makesRoom_70 rfl ?_
    refine m_getR (kt := (20, 3, 12)) (by decide) dX11_makesRoom_71 f_X11_35 hT rfl (Nat.succ_ne_zero _) (fun q_71 h_71 => ?_)
    refine e_iload_n dX11_makesRoom_74 rfl ?_
    refine m_iaw (by decide) (rg_12 hS) dX11_makesRoom_75 h_71 (by omega) (by omega) (fun g_75 => ?_)
    refine e_aload_n dX11_makesRoom_76 rfl ?_
    refine e_iload_n dX11_makesRoom_77 rfl ?_
    refine e_cV (as := [_]) (ci := 11) dX11_makesRoom_78 k_X11_takenAt l_X11_220 i_X11_takenAt v_X11_takenAt hT rfl (by decide) ⟨_, _, rfl⟩ rfl rfl rfl rfl (Nat.le_of_ble_eq_true rfl) ⟨by decide, by decide⟩ (Nat.le_of_ble_eq_true rfl) (by decide) (m_takenAt hT hS ⟨by omega, by omega⟩) ?_
    refine e_isub dX11_makesRoom_81 ?_
    refine e_iload_n dX11_makesRoom_82 rfl ?_
    refine e_icmp_ge (tgt := 165) dX11_makesRoom_83 (by decide) ⟨by omega, by omega⟩ ⟨by omega, by omega⟩ (fun c_83 => ?_) (fun c_83 => ?_)
    · have em : mrF m needs (r + 1) S = S := by simp only [mrF]; rw [if_neg (by omega)]
      rw [em]
      refine e_iconst dX11_makesRoom_165 ?_
      exact e_iret dX11_makesRoom_166 (Or.inr ⟨rfl, by omega⟩) (e_ok rfl rfl rfl)
    · have em : mrF m needs (r + 1) S = mrF m needs r (q_us S 2 (goF S m 16) 1) := by simp only [mrF]; rw [if_pos (by omega)]
      rw [em]
      have hgs : 16 * m ≤ goF S m 16 ∧ goF S m 16 < 16 * m + 16 ∧ canGoP S (goF S m 16) := by
        rcases goF_sp S m 16 with ⟨h, h2⟩ | h
        · exfalso; omega
        · exact h
      obtain ⟨hg1, hg2, hgo⟩ := hgs
      refine e_iconst dX11_makesRoom_86 ?_
      refine e_istore (ls2 := [_, _, _, _, _, _]) dX11_makesRoom_87 (Nat.le_of_ble_eq_true rfl) rfl ?_
      refine e_bipush dX11_makesRoom_89 (by decide) ?_
      refine e_iload_n dX11_makesRoom_91 rfl ?_
      refine e_imul dX11_makesRoom_92 ?_
      refine e_istore (ls2 := [_, _, _, _, _, _]) dX11_makesRoom_93 (Nat.le_of_ble_eq_true rfl) rfl ?_
      refine m_mr3 hT hS hm ?_ 16 0 _ _ (by omega) rfl (by omega)
      refine e_aload_n dX11_makesRoom_154 rfl ?_
      refine m_getR (kt := (20, 48, 2)) (by decide) dX11_makesRoom_155 f_X11_7 hT rfl (Nat.succ_ne_zero _) (fun q_155 h_155 => ?_)
      refine e_iload dX11_makesRoom_158 rfl ?_
      refine e_iconst dX11_makesRoom_160 ?_
      refine m_iast (by decide) dX11_makesRoom_161 h_155 (by omega) (by omega) ⟨by omega, by omega⟩ ?_
      refine e_goto (tgt := 70) dX11_makesRoom_162 (by decide) ?_
      refine e_drop (k := 4) (ls2 := [_, _, _, _, _, _]) rfl ?_
      have gt := goes_tak (S := S) (m := m) (q := goF S m 16) (by omega) hgo 16
      rw [if_pos (by show goF S m 16 < 16 * m + 16; omega), if_pos (by show goF S m 16 < 16 * m + 16; omega)] at gt
      exact ih _ (WR.up hS ⟨(show (0 : Int) ≤ 1 by decide), (show (1 : Int) ≤ 2 by decide)⟩) (by omega) (by rw [show (q_us S 2 (goF S m 16) 1) 12 m = S 12 m from rfl]; omega)
set_option maxRecDepth 20000 in
set_option maxHeartbeats 4000000 in
theorem m_makesRoom {K : q_K} {M C : q_S} {a : Nat} (hT : K a = (12, 0, 50)) (hW : WR M) {m needs : Int} (hm : 0 ≤ m ∧ m ≤ 2) (hn : 0 ≤ needs ∧ needs ≤ 100) : q_E mX11_makesRoom 0 [some (q_R a), some (q_I m), some (q_I needs), none, none, none] [] K M C 0 0 (e_is (some (q_I (makesRoomF M m needs).1)) K (makesRoomF M m needs).2 C) := by
  have gt0 := takF_rg M m 16
  have g12 : 0 ≤ M 12 m ∧ M 12 m ≤ 200 := hW 12 m
  have gc0 := cgL_rg M m 16
  refine e_aload_n dX11_makesRoom_0 rfl ?_
  refine m_getR (kt := (20, 3, 12)) (by decide) dX11_makesRoom_1 f_X11_35 hT rfl (Nat.succ_ne_zero _) (fun q_1 h_1 => ?_)
  refine e_iload_n dX11_makesRoom_4 rfl ?_
  refine m_iaw (by decide) (rg_12 hW) dX11_makesRoom_5 h_1 (by omega) (by omega) (fun g_5 => ?_)
  refine e_aload_n dX11_makesRoom_6 rfl ?_
  refine e_iload_n dX11_makesRoom_7 rfl ?_
  refine e_cV (as := [_]) (ci := 11) dX11_makesRoom_8 k_X11_takenAt l_X11_220 i_X11_takenAt v_X11_takenAt hT rfl (by decide) ⟨_, _, rfl⟩ rfl rfl rfl rfl (Nat.le_of_ble_eq_true rfl) ⟨by decide, by decide⟩ (Nat.le_of_ble_eq_true rfl) (by decide) (m_takenAt hT hW ⟨by omega, by omega⟩) ?_
  refine e_isub dX11_makesRoom_11 ?_
  refine e_istore_n (ls2 := [_, _, _, _, _, _]) dX11_makesRoom_12 (Nat.le_of_ble_eq_true rfl) rfl ?_
  refine e_bipush dX11_makesRoom_13 (by decide) ?_
  refine e_iload_n dX11_makesRoom_15 rfl ?_
  refine e_imul dX11_makesRoom_16 ?_
  refine e_istore (ls2 := [_, _, _, _, _, _]) dX11_makesRoom_17 (Nat.le_of_ble_eq_true rfl) rfl ?_
  refine m_mr1 hT hW hm ?_ 16 0 _ _ (by omega) (by simp only [cgL]; omega) (by omega)
  refine e_iload_n dX11_makesRoom_63 rfl ?_
  refine e_iload_n dX11_makesRoom_64 rfl ?_
  refine e_icmp_ge (tgt := 70) dX11_makesRoom_65 (by decide) ⟨by omega, by omega⟩ ⟨by omega, by omega⟩ (fun c_65 => ?_) (fun c_65 => ?_)
  · refine e_drop (k := 3) (ls2 := [_, _, _, _, _, _]) rfl ?_
    have em : makesRoomF M m needs = (1, mrF m needs 17 M) := by unfold makesRoomF; rw [if_neg (by omega)]
    rw [em]
    exact m_mr2 hT hm hn 17 M hW (by have := (cgN_rg M m 16).2; show cgN M m 16 < 17; omega) (by omega)
  · have em : makesRoomF M m needs = (0, M) := by unfold makesRoomF; rw [if_pos (by omega)]
    rw [em]
    refine e_iconst dX11_makesRoom_68 ?_
    exact e_iret dX11_makesRoom_69 (Or.inr ⟨rfl, by omega⟩) (e_ok rfl rfl rfl)
theorem isWholeF_o {M : q_S} {c t j : Int} (h : t ≠ 40) : (isWholeF M c).2 t j = M t j := cutS_o h
theorem isWholeF_3 {M : q_S} {c j : Int} : (isWholeF M c).2 3 j = M 3 j := isWholeF_o (by decide)
theorem isWholeF_9 {M : q_S} {c j : Int} : (isWholeF M c).2 50 j = M 50 j := isWholeF_o (by decide)
theorem makesRoomF_3 {M : q_S} {m n j : Int} : (makesRoomF M m n).2 3 j = M 3 j := makesRoomF_o (by decide)
theorem makesRoomF_9 {M : q_S} {m n j : Int} : (makesRoomF M m n).2 50 j = M 50 j := makesRoomF_o (by decide)
theorem openE_eq {S : q_S} {p c n : Int} (h : S 3 p = c) (h2 : S 50 9 = n) : openE S p = (mlen c, q_us (q_us (q_us S 2 p 2) 50 9 (n + 1)) 7 p (n + 1)) := by
  unfold openE; rw [h, h2]
theorem isWholeF_1 (M : q_S) (c : Int) : (isWholeF M c).1 = 0 ∨ (isWholeF M c).1 = 1 := whI_01 M c _
theorem wr_isWhole {M : q_S} (h : WR M) (c : Int) : WR (isWholeF M c).2 := wr_cutS h c
set_option maxRecDepth 20000 in
set_option maxHeartbeats 4000000 in
theorem m_open {K : q_K} {M C : q_S} {a : Nat} (hT : K a = (12, 0, 50)) (hW : WR M) {m f : Int} (hm : q_iI m) (hf : q_iI f) (hop : M 50 9 ≤ 999) : q_E mX11_open 0 [some (q_R a), some (q_I m), some (q_I f), none, none] [] K M C 0 0 (e_is (some (q_I (openF M m f).1)) K (openF M m f).2 C) := by
  have hg3 : 0 ≤ M 3 (16 * m + f) ∧ M 3 (16 * m + f) ≤ 9999999999999 := hW 3 _
  have hg4 : 0 ≤ M 4 (16 * m + f) ∧ M 4 (16 * m + f) ≤ 3 := hW 4 _
  have hgl := mlen_nn (M 3 (16 * m + f))
  have hgr := rightF_rg hW (M 4 (16 * m + f)) m
  have hg1 := isWholeF_1 (q_us M 50 41 0) (M 3 (16 * m + f))
  have hg2 := makesRoomF_1 (isWholeF (q_us M 50 41 0) (M 3 (16 * m + f))).2 m (mlen (M 3 (16 * m + f)))
  by_cases e0 : ¬ inMF m f
  · refine e_aload_n dX11_open_0 rfl ?_
    refine e_iload_n dX11_open_1 rfl ?_
    refine e_cS (as := [_]) dX11_open_2 k_X11_isMachine l_X11_135 s_X11_isMachine rfl rfl rfl rfl (Nat.le_of_ble_eq_true rfl) ⟨by decide, by decide⟩ (Nat.le_of_ble_eq_true rfl) (by decide) (m_isMachine (by assumption)) ?_
    refine e_if_eq (tgt := 15) dX11_open_5 (by decide) bi_iI (fun c_5 => ?_) (fun c_5 => ?_)
    · simp only [bi_z, Classical.not_not] at c_5
      refine e_iconst dX11_open_15 ?_
      refine e_goto (tgt := 38) dX11_open_16 (by decide) ?_
      refine m_putI (by decide) dX11_open_38 f_X11_101 rfl hT ⟨by omega, by omega⟩ ?_
      refine e_aload_n dX11_open_41 rfl ?_
      refine m_getI (by decide) dX11_open_42 f_X11_101 (Or.inl rfl) hT ?_
      simp only [isWholeF_3, isWholeF_9, makesRoomF_3, makesRoomF_9, q_us_ap, editsF_3, Int.reduceEq, Int.reduceNeg, false_and, and_false, and_self, if_true, if_false, true_and, and_true, ite_self]
      have g_42 := rs_41 hW
      refine e_if_le (tgt := 50) dX11_open_45 (by decide) ⟨by decide, by decide⟩ (fun c_45 => ?_) (fun c_45 => ?_)
      · exact absurd c_45 (by decide)
      · refine e_iconst dX11_open_48 ?_
        exact e_iret dX11_open_49 (Or.inl rfl) (e_ok (by unfold openF; rw [if_pos e0]) (by unfold openF; rw [if_pos e0]) rfl)
    · simp only [bi_z, Classical.not_not] at c_5
      refine e_iload_n dX11_open_8 rfl ?_
      refine e_cS (as := [_]) dX11_open_9 k_X11_isFile l_X11_139 s_X11_isFile rfl rfl rfl rfl (Nat.le_of_ble_eq_true rfl) ⟨by decide, by decide⟩ (Nat.le_of_ble_eq_true rfl) (by decide) (m_isFile (by assumption)) ?_
      refine e_if_ne (tgt := 19) dX11_open_12 (by decide) bi_iI (fun c_12 => ?_) (fun c_12 => ?_)
      · simp only [bi_z, Classical.not_not] at c_12
        exfalso; omega
      · simp only [bi_z, Classical.not_not] at c_12
        refine e_iconst dX11_open_15 ?_
        refine e_goto (tgt := 38) dX11_open_16 (by decide) ?_
        refine m_putI (by decide) dX11_open_38 f_X11_101 rfl hT ⟨by omega, by omega⟩ ?_
        refine e_aload_n dX11_open_41 rfl ?_
        refine m_getI (by decide) dX11_open_42 f_X11_101 (Or.inl rfl) hT ?_
        simp only [isWholeF_3, isWholeF_9, makesRoomF_3, makesRoomF_9, q_us_ap, editsF_3, Int.reduceEq, Int.reduceNeg, false_and, and_false, and_self, if_true, if_false, true_and, and_true, ite_self]
        have g_42 := rs_41 hW
        refine e_if_le (tgt := 50) dX11_open_45 (by decide) ⟨by decide, by decide⟩ (fun c_45 => ?_) (fun c_45 => ?_)
        · exact absurd c_45 (by decide)
        · refine e_iconst dX11_open_48 ?_
          exact e_iret dX11_open_49 (Or.inl rfl) (e_ok (by unfold openF; rw [if_pos e0]) (by unfold openF; rw [if_pos e0]) rfl)
  ·
    by_cases e1 : M 2 (16 * m + f) = 0
    · refine e_aload_n dX11_open_0 rfl ?_
      refine e_iload_n dX11_open_1 rfl ?_
      refine e_cS (as := [_]) dX11_open_2 k_X11_isMachine l_X11_135 s_X11_isMachine rfl rfl rfl rfl (Nat.le_of_ble_eq_true rfl) ⟨by decide, by decide⟩ (Nat.le_of_ble_eq_true rfl) (by decide) (m_isMachine (by assumption)) ?_
      refine e_if_eq (tgt := 15) dX11_open_5 (by decide) bi_iI (fun c_5 => ?_) (fun c_5 => ?_)
      · simp only [bi_z, Classical.not_not] at c_5
        exfalso; omega
      · simp only [bi_z, Classical.not_not] at c_5
        refine e_iload_n dX11_open_8 rfl ?_
        refine e_cS (as := [_]) dX11_open_9 k_X11_isFile l_X11_139 s_X11_isFile rfl rfl rfl rfl (Nat.le_of_ble_eq_true rfl) ⟨by decide, by decide⟩ (Nat.le_of_ble_eq_true rfl) (by decide) (m_isFile (by assumption)) ?_
        refine e_if_ne (tgt := 19) dX11_open_12 (by decide) bi_iI (fun c_12 => ?_) (fun c_12 => ?_)
        · simp only [bi_z, Classical.not_not] at c_12
          refine e_aload_n dX11_open_19 rfl ?_
          refine m_getR (kt := (20, 48, 2)) (by decide) dX11_open_20 f_X11_7 hT rfl (Nat.succ_ne_zero _) (fun q_20 h_20 => ?_)
          refine e_bipush dX11_open_23 (by decide) ?_
          refine e_iload_n dX11_open_25 rfl ?_
          refine e_imul dX11_open_26 ?_
          refine e_iload_n dX11_open_27 rfl ?_
          refine e_iadd dX11_open_28 ?_
          refine m_iaw (by decide) (rg_2 hW) dX11_open_29 h_20 (by omega) (by omega) (fun g_29 => ?_)
          refine e_if_ne (tgt := 37) dX11_open_30 (by decide) ⟨by omega, by omega⟩ (fun c_30 => ?_) (fun c_30 => ?_)
          · exfalso; omega
          · refine e_iconst dX11_open_33 ?_
            refine e_goto (tgt := 38) dX11_open_34 (by decide) ?_
            refine m_putI (by decide) dX11_open_38 f_X11_101 rfl hT ⟨by omega, by omega⟩ ?_
            refine e_aload_n dX11_open_41 rfl ?_
            refine m_getI (by decide) dX11_open_42 f_X11_101 (Or.inl rfl) hT ?_
            simp only [isWholeF_3, isWholeF_9, makesRoomF_3, makesRoomF_9, q_us_ap, editsF_3, Int.reduceEq, Int.reduceNeg, false_and, and_false, and_self, if_true, if_false, true_and, and_true, ite_self]
            have g_42 := rs_41 hW
            refine e_if_le (tgt := 50) dX11_open_45 (by decide) ⟨by decide, by decide⟩ (fun c_45 => ?_) (fun c_45 => ?_)
            · exact absurd c_45 (by decide)
            · refine e_iconst dX11_open_48 ?_
              exact e_iret dX11_open_49 (Or.inl rfl) (e_ok (by unfold openF; rw [if_neg e0, if_pos e1]) (by unfold openF; rw [if_neg e0, if_pos e1]) rfl)
        · simp only [bi_z, Classical.not_not] at c_12
          exfalso; omega
    ·
      by_cases e2 : ¬ M 2 (16 * m + f) = 1
      · refine e_aload_n dX11_open_0 rfl ?_
        refine e_iload_n dX11_open_1 rfl ?_
        refine e_cS (as := [_]) dX11_open_2 k_X11_isMachine l_X11_135 s_X11_isMachine rfl rfl rfl rfl (Nat.le_of_ble_eq_true rfl) ⟨by decide, by decide⟩ (Nat.le_of_ble_eq_true rfl) (by decide) (m_isMachine (by assumption)) ?_
        refine e_if_eq (tgt := 15) dX11_open_5 (by decide) bi_iI (fun c_5 => ?_) (fun c_5 => ?_)
        · simp only [bi_z, Classical.not_not] at c_5
          exfalso; omega
        · simp only [bi_z, Classical.not_not] at c_5
          refine e_iload_n dX11_open_8 rfl ?_
          refine e_cS (as := [_]) dX11_open_9 k_X11_isFile l_X11_139 s_X11_isFile rfl rfl rfl rfl (Nat.le_of_ble_eq_true rfl) ⟨by decide, by decide⟩ (Nat.le_of_ble_eq_true rfl) (by decide) (m_isFile (by assumption)) ?_
          refine e_if_ne (tgt := 19) dX11_open_12 (by decide) bi_iI (fun c_12 => ?_) (fun c_12 => ?_)
          · simp only [bi_z, Classical.not_not] at c_12
            refine e_aload_n dX11_open_19 rfl ?_
            refine m_getR (kt := (20, 48, 2)) (by decide) dX11_open_20 f_X11_7 hT rfl (Nat.succ_ne_zero _) (fun q_20 h_20 => ?_)
            refine e_bipush dX11_open_23 (by decide) ?_
            refine e_iload_n dX11_open_25 rfl ?_
            refine e_imul dX11_open_26 ?_
            refine e_iload_n dX11_open_27 rfl ?_
            refine e_iadd dX11_open_28 ?_
            refine m_iaw (by decide) (rg_2 hW) dX11_open_29 h_20 (by omega) (by omega) (fun g_29 => ?_)
            refine e_if_ne (tgt := 37) dX11_open_30 (by decide) ⟨by omega, by omega⟩ (fun c_30 => ?_) (fun c_30 => ?_)
            · refine e_iconst dX11_open_37 ?_
              refine m_putI (by decide) dX11_open_38 f_X11_101 rfl hT ⟨by omega, by omega⟩ ?_
              refine e_aload_n dX11_open_41 rfl ?_
              refine m_getI (by decide) dX11_open_42 f_X11_101 (Or.inl rfl) hT ?_
              simp only [isWholeF_3, isWholeF_9, makesRoomF_3, makesRoomF_9, q_us_ap, editsF_3, Int.reduceEq, Int.reduceNeg, false_and, and_false, and_self, if_true, if_false, true_and, and_true, ite_self]
              have g_42 := rs_41 hW
              refine e_if_le (tgt := 50) dX11_open_45 (by decide) ⟨by decide, by decide⟩ (fun c_45 => ?_) (fun c_45 => ?_)
              · refine e_bipush dX11_open_50 (by decide) ?_
                refine e_iload_n dX11_open_52 rfl ?_
                refine e_imul dX11_open_53 ?_
                refine e_iload_n dX11_open_54 rfl ?_
                refine e_iadd dX11_open_55 ?_
                refine e_istore_n (ls2 := [_, _, _, _, _]) dX11_open_56 (Nat.le_of_ble_eq_true rfl) rfl ?_
                refine e_aload_n dX11_open_57 rfl ?_
                refine m_getR (kt := (20, 48, 2)) (by decide) dX11_open_58 f_X11_7 hT rfl (Nat.succ_ne_zero _) (fun q_58 h_58 => ?_)
                refine e_iload_n dX11_open_61 rfl ?_
                refine m_iald (by decide) dX11_open_62 h_58 (by omega) (by omega) ?_
                simp only [isWholeF_3, isWholeF_9, makesRoomF_3, makesRoomF_9, q_us_ap, editsF_3, Int.reduceEq, Int.reduceNeg, false_and, and_false, and_self, if_true, if_false, true_and, and_true, ite_self]
                have g_62 := rg_2 hW ((16 * m) + f) (by omega) (by omega)
                refine e_iconst dX11_open_63 ?_
                refine e_icmp_ne (tgt := 133) dX11_open_64 (by decide) ⟨by omega, by omega⟩ ⟨by omega, by omega⟩ (fun c_64 => ?_) (fun c_64 => ?_)
                · refine e_aload_n dX11_open_133 rfl ?_
                  refine m_getI (by decide) dX11_open_134 f_X11_101 (Or.inl rfl) hT ?_
                  simp only [isWholeF_3, isWholeF_9, makesRoomF_3, makesRoomF_9, q_us_ap, editsF_3, Int.reduceEq, Int.reduceNeg, false_and, and_false, and_self, if_true, if_false, true_and, and_true, ite_self]
                  have g_134 := rs_41 hW
                  refine e_if_le (tgt := 142) dX11_open_137 (by decide) ⟨by decide, by decide⟩ (fun c_137 => ?_) (fun c_137 => ?_)
                  · refine e_aload_n dX11_open_142 rfl ?_
                    refine m_getR (kt := (20, 48, 2)) (by decide) dX11_open_143 f_X11_7 hT rfl (Nat.succ_ne_zero _) (fun q_143 h_143 => ?_)
                    refine e_iload_n dX11_open_146 rfl ?_
                    refine e_iconst dX11_open_147 ?_
                    refine m_iast (by decide) dX11_open_148 h_143 (by omega) (by omega) ⟨by omega, by omega⟩ ?_
                    refine e_aload_n dX11_open_149 rfl ?_
                    refine e_dup dX11_open_150 rfl ?_
                    refine m_getI (by decide) dX11_open_151 f_X11_233 (Or.inl rfl) hT ?_
                    simp only [isWholeF_3, isWholeF_9, makesRoomF_3, makesRoomF_9, q_us_ap, editsF_3, Int.reduceEq, Int.reduceNeg, false_and, and_false, and_self, if_true, if_false, true_and, and_true, ite_self]
                    have g_151 := rs_9 hW
                    refine e_iconst dX11_open_154 ?_
                    refine e_iadd dX11_open_155 ?_
                    refine m_putI (by decide) dX11_open_156 f_X11_233 rfl hT ⟨by omega, by omega⟩ ?_
                    refine e_aload_n dX11_open_159 rfl ?_
                    refine m_getR (kt := (20, 48, 7)) (by decide) dX11_open_160 f_X11_26 hT rfl (Nat.succ_ne_zero _) (fun q_160 h_160 => ?_)
                    refine e_iload_n dX11_open_163 rfl ?_
                    refine e_aload_n dX11_open_164 rfl ?_
                    refine m_getI (by decide) dX11_open_165 f_X11_233 (Or.inl rfl) hT ?_
                    simp only [isWholeF_3, isWholeF_9, makesRoomF_3, makesRoomF_9, q_us_ap, editsF_3, Int.reduceEq, Int.reduceNeg, false_and, and_false, and_self, if_true, if_false, true_and, and_true, ite_self]
                    have g_165 := rs_9 hW
                    refine m_iast (by decide) dX11_open_168 h_160 (by omega) (by omega) ⟨by omega, by omega⟩ ?_
                    refine e_aload_n dX11_open_169 rfl ?_
                    refine m_getR (kt := (21, 48, 3)) (by decide) dX11_open_170 f_X11_13 hT rfl (Nat.succ_ne_zero _) (fun q_170 h_170 => ?_)
                    refine e_iload_n dX11_open_173 rfl ?_
                    refine m_lald (by decide) dX11_open_174 h_170 (by omega) (by omega) ?_
                    simp only [isWholeF_3, isWholeF_9, makesRoomF_3, makesRoomF_9, q_us_ap, editsF_3, Int.reduceEq, Int.reduceNeg, false_and, and_false, and_self, if_true, if_false, true_and, and_true, ite_self]
                    have g_174 := rg_3 hW ((16 * m) + f) (by omega) (by omega)
                    refine e_cS (as := [_]) dX11_open_175 k_X11_lengthOf l_X11_111 s_X11_lengthOf rfl rfl rfl rfl (Nat.le_of_ble_eq_true rfl) ⟨by decide, by decide⟩ (Nat.le_of_ble_eq_true rfl) (by decide) (m_lengthOf ⟨by omega, by omega⟩) ?_
                    try simp only [lockF_thr, rightF_thr, latestOf_thr, asOfT_thr]
                    have g_175 := mlen_nn (M 3 ((16 * m) + f))
                    exact e_iret dX11_open_178 (Or.inl rfl) (e_ok (by unfold openF; rw [if_neg e0, if_neg e1, if_neg e2]; rfl) (by unfold openF; rw [if_neg e0, if_neg e1, if_neg e2]; rfl) rfl)
                  · exact absurd c_137 (by decide)
                · exfalso; omega
              · exact absurd c_45 (by decide)
            · exfalso; omega
          · simp only [bi_z, Classical.not_not] at c_12
            exfalso; omega
      ·
        by_cases e3 : ¬ 1 ≤ rightF M (M 4 (16 * m + f)) m
        · have eo : openF M m f = (0, thr (thr M 0) 2) := by unfold openF; rw [if_neg e0, if_neg e1, if_pos (Classical.not_not.mp e2)]; unfold openK; exact if_pos e3
          refine e_aload_n dX11_open_0 rfl ?_
          refine e_iload_n dX11_open_1 rfl ?_
          refine e_cS (as := [_]) dX11_open_2 k_X11_isMachine l_X11_135 s_X11_isMachine rfl rfl rfl rfl (Nat.le_of_ble_eq_true rfl) ⟨by decide, by decide⟩ (Nat.le_of_ble_eq_true rfl) (by decide) (m_isMachine (by assumption)) ?_
          refine e_if_eq (tgt := 15) dX11_open_5 (by decide) bi_iI (fun c_5 => ?_) (fun c_5 => ?_)
          · simp only [bi_z, Classical.not_not] at c_5
            exfalso; omega
          · simp only [bi_z, Classical.not_not] at c_5
            refine e_iload_n dX11_open_8 rfl ?_
            refine e_cS (as := [_]) dX11_open_9 k_X11_isFile l_X11_139 s_X11_isFile rfl rfl rfl rfl (Nat.le_of_ble_eq_true rfl) ⟨by decide, by decide⟩ (Nat.le_of_ble_eq_true rfl) (by decide) (m_isFile (by assumption)) ?_
            refine e_if_ne (tgt := 19) dX11_open_12 (by decide) bi_iI (fun c_12 => ?_) (fun c_12 => ?_)
            · simp only [bi_z, Classical.not_not] at c_12
              refine e_aload_n dX11_open_19 rfl ?_
              refine m_getR (kt := (20, 48, 2)) (by decide) dX11_open_20 f_X11_7 hT rfl (Nat.succ_ne_zero _) (fun q_20 h_20 => ?_)
              refine e_bipush dX11_open_23 (by decide) ?_
              refine e_iload_n dX11_open_25 rfl ?_
              refine e_imul dX11_open_26 ?_
              refine e_iload_n dX11_open_27 rfl ?_
              refine e_iadd dX11_open_28 ?_
              refine m_iaw (by decide) (rg_2 hW) dX11_open_29 h_20 (by omega) (by omega) (fun g_29 => ?_)
              refine e_if_ne (tgt := 37) dX11_open_30 (by decide) ⟨by omega, by omega⟩ (fun c_30 => ?_) (fun c_30 => ?_)
              · refine e_iconst dX11_open_37 ?_
                refine m_putI (by decide) dX11_open_38 f_X11_101 rfl hT ⟨by omega, by omega⟩ ?_
                refine e_aload_n dX11_open_41 rfl ?_
                refine m_getI (by decide) dX11_open_42 f_X11_101 (Or.inl rfl) hT ?_
                simp only [isWholeF_3, isWholeF_9, makesRoomF_3, makesRoomF_9, q_us_ap, editsF_3, Int.reduceEq, Int.reduceNeg, false_and, and_false, and_self, if_true, if_false, true_and, and_true, ite_self]
                have g_42 := rs_41 hW
                refine e_if_le (tgt := 50) dX11_open_45 (by decide) ⟨by decide, by decide⟩ (fun c_45 => ?_) (fun c_45 => ?_)
                · refine e_bipush dX11_open_50 (by decide) ?_
                  refine e_iload_n dX11_open_52 rfl ?_
                  refine e_imul dX11_open_53 ?_
                  refine e_iload_n dX11_open_54 rfl ?_
                  refine e_iadd dX11_open_55 ?_
                  refine e_istore_n (ls2 := [_, _, _, _, _]) dX11_open_56 (Nat.le_of_ble_eq_true rfl) rfl ?_
                  refine e_aload_n dX11_open_57 rfl ?_
                  refine m_getR (kt := (20, 48, 2)) (by decide) dX11_open_58 f_X11_7 hT rfl (Nat.succ_ne_zero _) (fun q_58 h_58 => ?_)
                  refine e_iload_n dX11_open_61 rfl ?_
                  refine m_iald (by decide) dX11_open_62 h_58 (by omega) (by omega) ?_
                  simp only [isWholeF_3, isWholeF_9, makesRoomF_3, makesRoomF_9, q_us_ap, editsF_3, Int.reduceEq, Int.reduceNeg, false_and, and_false, and_self, if_true, if_false, true_and, and_true, ite_self]
                  have g_62 := rg_2 hW ((16 * m) + f) (by omega) (by omega)
                  refine e_iconst dX11_open_63 ?_
                  refine e_icmp_ne (tgt := 133) dX11_open_64 (by decide) ⟨by omega, by omega⟩ ⟨by omega, by omega⟩ (fun c_64 => ?_) (fun c_64 => ?_)
                  · exfalso; omega
                  · refine e_aload_n dX11_open_67 rfl ?_
                    refine e_aload_n dX11_open_68 rfl ?_
                    refine m_getR (kt := (20, 48, 4)) (by decide) dX11_open_69 f_X11_17 hT rfl (Nat.succ_ne_zero _) (fun q_69 h_69 => ?_)
                    refine e_iload_n dX11_open_72 rfl ?_
                    refine m_iald (by decide) dX11_open_73 h_69 (by omega) (by omega) ?_
                    simp only [isWholeF_3, isWholeF_9, makesRoomF_3, makesRoomF_9, q_us_ap, editsF_3, Int.reduceEq, Int.reduceNeg, false_and, and_false, and_self, if_true, if_false, true_and, and_true, ite_self]
                    have g_73 := rg_4 hW ((16 * m) + f) (by omega) (by omega)
                    refine e_iload_n dX11_open_74 rfl ?_
                    refine e_cV (as := [_, _]) (ci := 11) dX11_open_75 k_X11_rightOf l_X11_165 i_X11_rightOf v_X11_rightOf hT rfl (by decide) ⟨_, _, rfl⟩ rfl rfl rfl rfl (Nat.le_of_ble_eq_true rfl) ⟨by decide, by decide⟩ (Nat.le_of_ble_eq_true rfl) (by decide) (m_rightOf hT (by first | exact hW | exact WR.up hW ⟨by decide, by decide⟩) ⟨by omega, by omega⟩ ⟨by omega, by omega⟩) ?_
                    try simp only [lockF_thr, rightF_thr, latestOf_thr, asOfT_thr]
                    have g_75 := rightF_rg hW (M 4 ((16 * m) + f)) m
                    refine e_iconst dX11_open_78 ?_
                    refine e_icmp_lt (tgt := 99) dX11_open_79 (by decide) ⟨by omega, by omega⟩ ⟨by omega, by omega⟩ (fun c_79 => ?_) (fun c_79 => ?_)
                    · refine e_iconst dX11_open_99 ?_
                      refine e_istore (ls2 := [_, _, _, _, _]) dX11_open_100 (Nat.le_of_ble_eq_true rfl) rfl ?_
                      refine e_aload_n dX11_open_102 rfl ?_
                      refine e_iload dX11_open_103 rfl ?_
                      refine e_if_eq (tgt := 129) dX11_open_105 (by decide) ⟨by decide, by decide⟩ (fun c_105 => ?_) (fun c_105 => ?_)
                      · refine e_iconst dX11_open_129 ?_
                        refine m_putI (by decide) dX11_open_130 f_X11_101 rfl hT ⟨by omega, by omega⟩ ?_
                        refine e_aload_n dX11_open_133 rfl ?_
                        refine m_getI (by decide) dX11_open_134 f_X11_101 (Or.inl rfl) hT ?_
                        simp only [isWholeF_3, isWholeF_9, makesRoomF_3, makesRoomF_9, q_us_ap, editsF_3, Int.reduceEq, Int.reduceNeg, false_and, and_false, and_self, if_true, if_false, true_and, and_true, ite_self]
                        have g_134 := rs_41 hW
                        refine e_if_le (tgt := 142) dX11_open_137 (by decide) ⟨by decide, by decide⟩ (fun c_137 => ?_) (fun c_137 => ?_)
                        · exact absurd c_137 (by decide)
                        · refine e_iconst dX11_open_140 ?_
                          exact e_iret dX11_open_141 (Or.inl rfl) (e_ok (by rw [eo]) (by rw [eo]) rfl)
                      · exact absurd c_105 (by decide)
                    · exfalso; omega
                · exact absurd c_45 (by decide)
              · exfalso; omega
            · simp only [bi_z, Classical.not_not] at c_12
              exfalso; omega
        ·
          by_cases e4 : (isWholeF (q_us M 50 41 0) (M 3 (16 * m + f))).1 = 0
          · have eo : openF M m f = (0, thr (isWholeF (q_us M 50 41 0) (M 3 (16 * m + f))).2 2) := by unfold openF; rw [if_neg e0, if_neg e1, if_pos (Classical.not_not.mp e2)]; unfold openK; refine Eq.trans (if_neg e3) ?_; exact if_pos e4
            refine e_aload_n dX11_open_0 rfl ?_
            refine e_iload_n dX11_open_1 rfl ?_
            refine e_cS (as := [_]) dX11_open_2 k_X11_isMachine l_X11_135 s_X11_isMachine rfl rfl rfl rfl (Nat.le_of_ble_eq_true rfl) ⟨by decide, by decide⟩ (Nat.le_of_ble_eq_true rfl) (by decide) (m_isMachine (by assumption)) ?_
            refine e_if_eq (tgt := 15) dX11_open_5 (by decide) bi_iI (fun c_5 => ?_) (fun c_5 => ?_)
            · simp only [bi_z, Classical.not_not] at c_5
              exfalso; omega
            · simp only [bi_z, Classical.not_not] at c_5
              refine e_iload_n dX11_open_8 rfl ?_
              refine e_cS (as := [_]) dX11_open_9 k_X11_isFile l_X11_139 s_X11_isFile rfl rfl rfl rfl (Nat.le_of_ble_eq_true rfl) ⟨by decide, by decide⟩ (Nat.le_of_ble_eq_true rfl) (by decide) (m_isFile (by assumption)) ?_
              refine e_if_ne (tgt := 19) dX11_open_12 (by decide) bi_iI (fun c_12 => ?_) (fun c_12 => ?_)
              · simp only [bi_z, Classical.not_not] at c_12
                refine e_aload_n dX11_open_19 rfl ?_
                refine m_getR (kt := (20, 48, 2)) (by decide) dX11_open_20 f_X11_7 hT rfl (Nat.succ_ne_zero _) (fun q_20 h_20 => ?_)
                refine e_bipush dX11_open_23 (by decide) ?_
                refine e_iload_n dX11_open_25 rfl ?_
                refine e_imul dX11_open_26 ?_
                refine e_iload_n dX11_open_27 rfl ?_
                refine e_iadd dX11_open_28 ?_
                refine m_iaw (by decide) (rg_2 hW) dX11_open_29 h_20 (by omega) (by omega) (fun g_29 => ?_)
                refine e_if_ne (tgt := 37) dX11_open_30 (by decide) ⟨by omega, by omega⟩ (fun c_30 => ?_) (fun c_30 => ?_)
                · refine e_iconst dX11_open_37 ?_
                  refine m_putI (by decide) dX11_open_38 f_X11_101 rfl hT ⟨by omega, by omega⟩ ?_
                  refine e_aload_n dX11_open_41 rfl ?_
                  refine m_getI (by decide) dX11_open_42 f_X11_101 (Or.inl rfl) hT ?_
                  simp only [isWholeF_3, isWholeF_9, makesRoomF_3, makesRoomF_9, q_us_ap, editsF_3, Int.reduceEq, Int.reduceNeg, false_and, and_false, and_self, if_true, if_false, true_and, and_true, ite_self]
                  have g_42 := rs_41 hW
                  refine e_if_le (tgt := 50) dX11_open_45 (by decide) ⟨by decide, by decide⟩ (fun c_45 => ?_) (fun c_45 => ?_)
                  · refine e_bipush dX11_open_50 (by decide) ?_
                    refine e_iload_n dX11_open_52 rfl ?_
                    refine e_imul dX11_open_53 ?_
                    refine e_iload_n dX11_open_54 rfl ?_
                    refine e_iadd dX11_open_55 ?_
                    refine e_istore_n (ls2 := [_, _, _, _, _]) dX11_open_56 (Nat.le_of_ble_eq_true rfl) rfl ?_
                    refine e_aload_n dX11_open_57 rfl ?_
                    refine m_getR (kt := (20, 48, 2)) (by decide) dX11_open_58 f_X11_7 hT rfl (Nat.succ_ne_zero _) (fun q_58 h_58 => ?_)
                    refine e_iload_n dX11_open_61 rfl ?_
                    refine m_iald (by decide) dX11_open_62 h_58 (by omega) (by omega) ?_
                    simp only [isWholeF_3, isWholeF_9, makesRoomF_3, makesRoomF_9, q_us_ap, editsF_3, Int.reduceEq, Int.reduceNeg, false_and, and_false, and_self, if_true, if_false, true_and, and_true, ite_self]
                    have g_62 := rg_2 hW ((16 * m) + f) (by omega) (by omega)
                    refine e_iconst dX11_open_63 ?_
                    refine e_icmp_ne (tgt := 133) dX11_open_64 (by decide) ⟨by omega, by omega⟩ ⟨by omega, by omega⟩ (fun c_64 => ?_) (fun c_64 => ?_)
                    · exfalso; omega
                    · refine e_aload_n dX11_open_67 rfl ?_
                      refine e_aload_n dX11_open_68 rfl ?_
                      refine m_getR (kt := (20, 48, 4)) (by decide) dX11_open_69 f_X11_17 hT rfl (Nat.succ_ne_zero _) (fun q_69 h_69 => ?_)
                      refine e_iload_n dX11_open_72 rfl ?_
                      refine m_iald (by decide) dX11_open_73 h_69 (by omega) (by omega) ?_
                      simp only [isWholeF_3, isWholeF_9, makesRoomF_3, makesRoomF_9, q_us_ap, editsF_3, Int.reduceEq, Int.reduceNeg, false_and, and_false, and_self, if_true, if_false, true_and, and_true, ite_self]
                      have g_73 := rg_4 hW ((16 * m) + f) (by omega) (by omega)
                      refine e_iload_n dX11_open_74 rfl ?_
                      refine e_cV (as := [_, _]) (ci := 11) dX11_open_75 k_X11_rightOf l_X11_165 i_X11_rightOf v_X11_rightOf hT rfl (by decide) ⟨_, _, rfl⟩ rfl rfl rfl rfl (Nat.le_of_ble_eq_true rfl) ⟨by decide, by decide⟩ (Nat.le_of_ble_eq_true rfl) (by decide) (m_rightOf hT (by first | exact hW | exact WR.up hW ⟨by decide, by decide⟩) ⟨by omega, by omega⟩ ⟨by omega, by omega⟩) ?_
                      try simp only [lockF_thr, rightF_thr, latestOf_thr, asOfT_thr]
                      have g_75 := rightF_rg hW (M 4 ((16 * m) + f)) m
                      refine e_iconst dX11_open_78 ?_
                      refine e_icmp_lt (tgt := 99) dX11_open_79 (by decide) ⟨by omega, by omega⟩ ⟨by omega, by omega⟩ (fun c_79 => ?_) (fun c_79 => ?_)
                      · exfalso; omega
                      · refine e_aload_n dX11_open_82 rfl ?_
                        refine e_aload_n dX11_open_83 rfl ?_
                        refine m_getR (kt := (21, 48, 3)) (by decide) dX11_open_84 f_X11_13 hT rfl (Nat.succ_ne_zero _) (fun q_84 h_84 => ?_)
                        refine e_iload_n dX11_open_87 rfl ?_
                        refine m_lald (by decide) dX11_open_88 h_84 (by omega) (by omega) ?_
                        simp only [isWholeF_3, isWholeF_9, makesRoomF_3, makesRoomF_9, q_us_ap, editsF_3, Int.reduceEq, Int.reduceNeg, false_and, and_false, and_self, if_true, if_false, true_and, and_true, ite_self]
                        have g_88 := rg_3 hW ((16 * m) + f) (by omega) (by omega)
                        refine e_cV (as := [_]) (ci := 11) dX11_open_89 k_X11_isWhole l_X11_226 i_X11_isWhole v_X11_isWhole hT rfl (by decide) ⟨_, _, rfl⟩ rfl rfl rfl rfl (Nat.le_of_ble_eq_true rfl) ⟨by decide, by decide⟩ (Nat.le_of_ble_eq_true rfl) (by decide) (m_isWhole hT (WR.up hW ⟨by decide, by decide⟩) hg3) ?_
                        refine e_if_eq (tgt := 99) dX11_open_92 (by decide) ⟨by omega, by omega⟩ (fun c_92 => ?_) (fun c_92 => ?_)
                        · refine e_iconst dX11_open_99 ?_
                          refine e_istore (ls2 := [_, _, _, _, _]) dX11_open_100 (Nat.le_of_ble_eq_true rfl) rfl ?_
                          refine e_aload_n dX11_open_102 rfl ?_
                          refine e_iload dX11_open_103 rfl ?_
                          refine e_if_eq (tgt := 129) dX11_open_105 (by decide) ⟨by decide, by decide⟩ (fun c_105 => ?_) (fun c_105 => ?_)
                          · refine e_iconst dX11_open_129 ?_
                            refine m_putI (by decide) dX11_open_130 f_X11_101 rfl hT ⟨by omega, by omega⟩ ?_
                            refine e_aload_n dX11_open_133 rfl ?_
                            refine m_getI (by decide) dX11_open_134 f_X11_101 (Or.inl rfl) hT ?_
                            simp only [isWholeF_3, isWholeF_9, makesRoomF_3, makesRoomF_9, q_us_ap, editsF_3, Int.reduceEq, Int.reduceNeg, false_and, and_false, and_self, if_true, if_false, true_and, and_true, ite_self]
                            have g_134 := rs_41 hW
                            refine e_if_le (tgt := 142) dX11_open_137 (by decide) ⟨by decide, by decide⟩ (fun c_137 => ?_) (fun c_137 => ?_)
                            · exact absurd c_137 (by decide)
                            · refine e_iconst dX11_open_140 ?_
                              exact e_iret dX11_open_141 (Or.inl rfl) (e_ok (by rw [eo]) (by rw [eo]) rfl)
                          · exact absurd c_105 (by decide)
                        · exfalso; omega
                  · exact absurd c_45 (by decide)
                · exfalso; omega
              · simp only [bi_z, Classical.not_not] at c_12
                exfalso; omega
          ·
            by_cases e5 : (makesRoomF (isWholeF (q_us M 50 41 0) (M 3 (16 * m + f))).2 m (mlen (M 3 (16 * m + f)))).1 = 0
            · have eo : openF M m f = (0, thr (makesRoomF (isWholeF (q_us M 50 41 0) (M 3 (16 * m + f))).2 m (mlen (M 3 (16 * m + f)))).2 2) := by unfold openF; rw [if_neg e0, if_neg e1, if_pos (Classical.not_not.mp e2)]; unfold openK; refine Eq.trans (if_neg e3) ?_; refine Eq.trans (if_neg e4) ?_; exact if_pos e5
              refine e_aload_n dX11_open_0 rfl ?_
              refine e_iload_n dX11_open_1 rfl ?_
              refine e_cS (as := [_]) dX11_open_2 k_X11_isMachine l_X11_135 s_X11_isMachine rfl rfl rfl rfl (Nat.le_of_ble_eq_true rfl) ⟨by decide, by decide⟩ (Nat.le_of_ble_eq_true rfl) (by decide) (m_isMachine (by assumption)) ?_
              refine e_if_eq (tgt := 15) dX11_open_5 (by decide) bi_iI (fun c_5 => ?_) (fun c_5 => ?_)
              · simp only [bi_z, Classical.not_not] at c_5
                exfalso; omega
              · simp only [bi_z, Classical.not_not] at c_5
                refine e_iload_n dX11_open_8 rfl ?_
                refine e_cS (as := [_]) dX11_open_9 k_X11_isFile l_X11_139 s_X11_isFile rfl rfl rfl rfl (Nat.le_of_ble_eq_true rfl) ⟨by decide, by decide⟩ (Nat.le_of_ble_eq_true rfl) (by decide) (m_isFile (by assumption)) ?_
                refine e_if_ne (tgt := 19) dX11_open_12 (by decide) bi_iI (fun c_12 => ?_) (fun c_12 => ?_)
                · simp only [bi_z, Classical.not_not] at c_12
                  refine e_aload_n dX11_open_19 rfl ?_
                  refine m_getR (kt := (20, 48, 2)) (by decide) dX11_open_20 f_X11_7 hT rfl (Nat.succ_ne_zero _) (fun q_20 h_20 => ?_)
                  refine e_bipush dX11_open_23 (by decide) ?_
                  refine e_iload_n dX11_open_25 rfl ?_
                  refine e_imul dX11_open_26 ?_
                  refine e_iload_n dX11_open_27 rfl ?_
                  refine e_iadd dX11_open_28 ?_
                  refine m_iaw (by decide) (rg_2 hW) dX11_open_29 h_20 (by omega) (by omega) (fun g_29 => ?_)
                  refine e_if_ne (tgt := 37) dX11_open_30 (by decide) ⟨by omega, by omega⟩ (fun c_30 => ?_) (fun c_30 => ?_)
                  · refine e_iconst dX11_open_37 ?_
                    refine m_putI (by decide) dX11_open_38 f_X11_101 rfl hT ⟨by omega, by omega⟩ ?_
                    refine e_aload_n dX11_open_41 rfl ?_
                    refine m_getI (by decide) dX11_open_42 f_X11_101 (Or.inl rfl) hT ?_
                    simp only [isWholeF_3, isWholeF_9, makesRoomF_3, makesRoomF_9, q_us_ap, editsF_3, Int.reduceEq, Int.reduceNeg, false_and, and_false, and_self, if_true, if_false, true_and, and_true, ite_self]
                    have g_42 := rs_41 hW
                    refine e_if_le (tgt := 50) dX11_open_45 (by decide) ⟨by decide, by decide⟩ (fun c_45 => ?_) (fun c_45 => ?_)
                    · refine e_bipush dX11_open_50 (by decide) ?_
                      refine e_iload_n dX11_open_52 rfl ?_
                      refine e_imul dX11_open_53 ?_
                      refine e_iload_n dX11_open_54 rfl ?_
                      refine e_iadd dX11_open_55 ?_
                      refine e_istore_n (ls2 := [_, _, _, _, _]) dX11_open_56 (Nat.le_of_ble_eq_true rfl) rfl ?_
                      refine e_aload_n dX11_open_57 rfl ?_
                      refine m_getR (kt := (20, 48, 2)) (by decide) dX11_open_58 f_X11_7 hT rfl (Nat.succ_ne_zero _) (fun q_58 h_58 => ?_)
                      refine e_iload_n dX11_open_61 rfl ?_
                      refine m_iald (by decide) dX11_open_62 h_58 (by omega) (by omega) ?_
                      simp only [isWholeF_3, isWholeF_9, makesRoomF_3, makesRoomF_9, q_us_ap, editsF_3, Int.reduceEq, Int.reduceNeg, false_and, and_false, and_self, if_true, if_false, true_and, and_true, ite_self]
                      have g_62 := rg_2 hW ((16 * m) + f) (by omega) (by omega)
                      refine e_iconst dX11_open_63 ?_
                      refine e_icmp_ne (tgt := 133) dX11_open_64 (by decide) ⟨by omega, by omega⟩ ⟨by omega, by omega⟩ (fun c_64 => ?_) (fun c_64 => ?_)
                      · exfalso; omega
                      · refine e_aload_n dX11_open_67 rfl ?_
                        refine e_aload_n dX11_open_68 rfl ?_
                        refine m_getR (kt := (20, 48, 4)) (by decide) dX11_open_69 f_X11_17 hT rfl (Nat.succ_ne_zero _) (fun q_69 h_69 => ?_)
                        refine e_iload_n dX11_open_72 rfl ?_
                        refine m_iald (by decide) dX11_open_73 h_69 (by omega) (by omega) ?_
                        simp only [isWholeF_3, isWholeF_9, makesRoomF_3, makesRoomF_9, q_us_ap, editsF_3, Int.reduceEq, Int.reduceNeg, false_and, and_false, and_self, if_true, if_false, true_and, and_true, ite_self]
                        have g_73 := rg_4 hW ((16 * m) + f) (by omega) (by omega)
                        refine e_iload_n dX11_open_74 rfl ?_
                        refine e_cV (as := [_, _]) (ci := 11) dX11_open_75 k_X11_rightOf l_X11_165 i_X11_rightOf v_X11_rightOf hT rfl (by decide) ⟨_, _, rfl⟩ rfl rfl rfl rfl (Nat.le_of_ble_eq_true rfl) ⟨by decide, by decide⟩ (Nat.le_of_ble_eq_true rfl) (by decide) (m_rightOf hT (by first | exact hW | exact WR.up hW ⟨by decide, by decide⟩) ⟨by omega, by omega⟩ ⟨by omega, by omega⟩) ?_
                        try simp only [lockF_thr, rightF_thr, latestOf_thr, asOfT_thr]
                        have g_75 := rightF_rg hW (M 4 ((16 * m) + f)) m
                        refine e_iconst dX11_open_78 ?_
                        refine e_icmp_lt (tgt := 99) dX11_open_79 (by decide) ⟨by omega, by omega⟩ ⟨by omega, by omega⟩ (fun c_79 => ?_) (fun c_79 => ?_)
                        · exfalso; omega
                        · refine e_aload_n dX11_open_82 rfl ?_
                          refine e_aload_n dX11_open_83 rfl ?_
                          refine m_getR (kt := (21, 48, 3)) (by decide) dX11_open_84 f_X11_13 hT rfl (Nat.succ_ne_zero _) (fun q_84 h_84 => ?_)
                          refine e_iload_n dX11_open_87 rfl ?_
                          refine m_lald (by decide) dX11_open_88 h_84 (by omega) (by omega) ?_
                          simp only [isWholeF_3, isWholeF_9, makesRoomF_3, makesRoomF_9, q_us_ap, editsF_3, Int.reduceEq, Int.reduceNeg, false_and, and_false, and_self, if_true, if_false, true_and, and_true, ite_self]
                          have g_88 := rg_3 hW ((16 * m) + f) (by omega) (by omega)
                          refine e_cV (as := [_]) (ci := 11) dX11_open_89 k_X11_isWhole l_X11_226 i_X11_isWhole v_X11_isWhole hT rfl (by decide) ⟨_, _, rfl⟩ rfl rfl rfl rfl (Nat.le_of_ble_eq_true rfl) ⟨by decide, by decide⟩ (Nat.le_of_ble_eq_true rfl) (by decide) (m_isWhole hT (WR.up hW ⟨by decide, by decide⟩) hg3) ?_
                          refine e_if_eq (tgt := 99) dX11_open_92 (by decide) ⟨by omega, by omega⟩ (fun c_92 => ?_) (fun c_92 => ?_)
                          · exfalso; omega
                          · refine e_iconst dX11_open_95 ?_
                            refine e_goto (tgt := 100) dX11_open_96 (by decide) ?_
                            refine e_istore (ls2 := [_, _, _, _, _]) dX11_open_100 (Nat.le_of_ble_eq_true rfl) rfl ?_
                            refine e_aload_n dX11_open_102 rfl ?_
                            refine e_iload dX11_open_103 rfl ?_
                            refine e_if_eq (tgt := 129) dX11_open_105 (by decide) ⟨by decide, by decide⟩ (fun c_105 => ?_) (fun c_105 => ?_)
                            · exact absurd c_105 (by decide)
                            · refine e_aload_n dX11_open_108 rfl ?_
                              refine e_iload_n dX11_open_109 rfl ?_
                              refine e_aload_n dX11_open_110 rfl ?_
                              refine m_getR (kt := (21, 48, 3)) (by decide) dX11_open_111 f_X11_13 hT rfl (Nat.succ_ne_zero _) (fun q_111 h_111 => ?_)
                              refine e_iload_n dX11_open_114 rfl ?_
                              refine m_lald (by decide) dX11_open_115 h_111 (by omega) (by omega) ?_
                              simp only [isWholeF_3, isWholeF_9, makesRoomF_3, makesRoomF_9, q_us_ap, editsF_3, Int.reduceEq, Int.reduceNeg, false_and, and_false, and_self, if_true, if_false, true_and, and_true, ite_self]
                              have g_115 := rg_3 hW ((16 * m) + f) (by omega) (by omega)
                              refine e_cS (as := [_]) dX11_open_116 k_X11_lengthOf l_X11_111 s_X11_lengthOf rfl rfl rfl rfl (Nat.le_of_ble_eq_true rfl) ⟨by decide, by decide⟩ (Nat.le_of_ble_eq_true rfl) (by decide) (m_lengthOf ⟨by omega, by omega⟩) ?_
                              try simp only [lockF_thr, rightF_thr, latestOf_thr, asOfT_thr]
                              have g_116 := mlen_nn (M 3 ((16 * m) + f))
                              refine e_cV (as := [_, _]) (ci := 11) dX11_open_119 k_X11_makesRoom l_X11_230 i_X11_makesRoom v_X11_makesRoom hT rfl (by decide) ⟨_, _, rfl⟩ rfl rfl rfl rfl (Nat.le_of_ble_eq_true rfl) ⟨by decide, by decide⟩ (Nat.le_of_ble_eq_true rfl) (by decide) (m_makesRoom hT (wr_isWhole (WR.up hW ⟨by decide, by decide⟩) _) ⟨by omega, by omega⟩ ⟨by omega, by omega⟩) ?_
                              refine e_if_eq (tgt := 129) dX11_open_122 (by decide) ⟨by omega, by omega⟩ (fun c_122 => ?_) (fun c_122 => ?_)
                              · refine e_iconst dX11_open_129 ?_
                                refine m_putI (by decide) dX11_open_130 f_X11_101 rfl hT ⟨by omega, by omega⟩ ?_
                                refine e_aload_n dX11_open_133 rfl ?_
                                refine m_getI (by decide) dX11_open_134 f_X11_101 (Or.inl rfl) hT ?_
                                simp only [isWholeF_3, isWholeF_9, makesRoomF_3, makesRoomF_9, q_us_ap, editsF_3, Int.reduceEq, Int.reduceNeg, false_and, and_false, and_self, if_true, if_false, true_and, and_true, ite_self]
                                have g_134 := rs_41 hW
                                refine e_if_le (tgt := 142) dX11_open_137 (by decide) ⟨by decide, by decide⟩ (fun c_137 => ?_) (fun c_137 => ?_)
                                · exact absurd c_137 (by decide)
                                · refine e_iconst dX11_open_140 ?_
                                  exact e_iret dX11_open_141 (Or.inl rfl) (e_ok (by rw [eo]) (by rw [eo]) rfl)
                              · exfalso; omega
                    · exact absurd c_45 (by decide)
                  · exfalso; omega
                · simp only [bi_z, Classical.not_not] at c_12
                  exfalso; omega
            ·
              have eo : openF M m f = (mlen (M 3 (16 * m + f)), q_us (q_us (q_us (thr (makesRoomF (isWholeF (q_us M 50 41 0) (M 3 (16 * m + f))).2 m (mlen (M 3 (16 * m + f)))).2 0) 2 (16 * m + f) 2) 50 9 (M 50 9 + 1)) 7 (16 * m + f) (M 50 9 + 1)) := by
                have ea : (thr (makesRoomF (isWholeF (q_us M 50 41 0) (M 3 (16 * m + f))).2 m (mlen (M 3 (16 * m + f)))).2 0) 3 (16 * m + f) = M 3 (16 * m + f) := by show (makesRoomF (isWholeF (q_us M 50 41 0) (M 3 (16 * m + f))).2 m (mlen (M 3 (16 * m + f)))).2 3 _ = _; rw [makesRoomF_3, isWholeF_3]; rfl
                have eb : (thr (makesRoomF (isWholeF (q_us M 50 41 0) (M 3 (16 * m + f))).2 m (mlen (M 3 (16 * m + f)))).2 0) 50 9 = M 50 9 := by show (makesRoomF (isWholeF (q_us M 50 41 0) (M 3 (16 * m + f))).2 m (mlen (M 3 (16 * m + f)))).2 50 9 = _; rw [makesRoomF_9, isWholeF_9]; rfl
                unfold openF; rw [if_neg e0, if_neg e1, if_pos (Classical.not_not.mp e2)]; unfold openK; refine Eq.trans (if_neg e3) ?_; refine Eq.trans (if_neg e4) ?_; refine Eq.trans (if_neg e5) ?_
                exact openE_eq ea eb
              refine e_aload_n dX11_open_0 rfl ?_
              refine e_iload_n dX11_open_1 rfl ?_
              refine e_cS (as := [_]) dX11_open_2 k_X11_isMachine l_X11_135 s_X11_isMachine rfl rfl rfl rfl (Nat.le_of_ble_eq_true rfl) ⟨by decide, by decide⟩ (Nat.le_of_ble_eq_true rfl) (by decide) (m_isMachine (by assumption)) ?_
              refine e_if_eq (tgt := 15) dX11_open_5 (by decide) bi_iI (fun c_5 => ?_) (fun c_5 => ?_)
              · simp only [bi_z, Classical.not_not] at c_5
                exfalso; omega
              · simp only [bi_z, Classical.not_not] at c_5
                refine e_iload_n dX11_open_8 rfl ?_
                refine e_cS (as := [_]) dX11_open_9 k_X11_isFile l_X11_139 s_X11_isFile rfl rfl rfl rfl (Nat.le_of_ble_eq_true rfl) ⟨by decide, by decide⟩ (Nat.le_of_ble_eq_true rfl) (by decide) (m_isFile (by assumption)) ?_
                refine e_if_ne (tgt := 19) dX11_open_12 (by decide) bi_iI (fun c_12 => ?_) (fun c_12 => ?_)
                · simp only [bi_z, Classical.not_not] at c_12
                  refine e_aload_n dX11_open_19 rfl ?_
                  refine m_getR (kt := (20, 48, 2)) (by decide) dX11_open_20 f_X11_7 hT rfl (Nat.succ_ne_zero _) (fun q_20 h_20 => ?_)
                  refine e_bipush dX11_open_23 (by decide) ?_
                  refine e_iload_n dX11_open_25 rfl ?_
                  refine e_imul dX11_open_26 ?_
                  refine e_iload_n dX11_open_27 rfl ?_
                  refine e_iadd dX11_open_28 ?_
                  refine m_iaw (by decide) (rg_2 hW) dX11_open_29 h_20 (by omega) (by omega) (fun g_29 => ?_)
                  refine e_if_ne (tgt := 37) dX11_open_30 (by decide) ⟨by omega, by omega⟩ (fun c_30 => ?_) (fun c_30 => ?_)
                  · refine e_iconst dX11_open_37 ?_
                    refine m_putI (by decide) dX11_open_38 f_X11_101 rfl hT ⟨by omega, by omega⟩ ?_
                    refine e_aload_n dX11_open_41 rfl ?_
                    refine m_getI (by decide) dX11_open_42 f_X11_101 (Or.inl rfl) hT ?_
                    simp only [isWholeF_3, isWholeF_9, makesRoomF_3, makesRoomF_9, q_us_ap, editsF_3, Int.reduceEq, Int.reduceNeg, false_and, and_false, and_self, if_true, if_false, true_and, and_true, ite_self]
                    have g_42 := rs_41 hW
                    refine e_if_le (tgt := 50) dX11_open_45 (by decide) ⟨by decide, by decide⟩ (fun c_45 => ?_) (fun c_45 => ?_)
                    · refine e_bipush dX11_open_50 (by decide) ?_
                      refine e_iload_n dX11_open_52 rfl ?_
                      refine e_imul dX11_open_53 ?_
                      refine e_iload_n dX11_open_54 rfl ?_
                      refine e_iadd dX11_open_55 ?_
                      refine e_istore_n (ls2 := [_, _, _, _, _]) dX11_open_56 (Nat.le_of_ble_eq_true rfl) rfl ?_
                      refine e_aload_n dX11_open_57 rfl ?_
                      refine m_getR (kt := (20, 48, 2)) (by decide) dX11_open_58 f_X11_7 hT rfl (Nat.succ_ne_zero _) (fun q_58 h_58 => ?_)
                      refine e_iload_n dX11_open_61 rfl ?_
                      refine m_iald (by decide) dX11_open_62 h_58 (by omega) (by omega) ?_
                      simp only [isWholeF_3, isWholeF_9, makesRoomF_3, makesRoomF_9, q_us_ap, editsF_3, Int.reduceEq, Int.reduceNeg, false_and, and_false, and_self, if_true, if_false, true_and, and_true, ite_self]
                      have g_62 := rg_2 hW ((16 * m) + f) (by omega) (by omega)
                      refine e_iconst dX11_open_63 ?_
                      refine e_icmp_ne (tgt := 133) dX11_open_64 (by decide) ⟨by omega, by omega⟩ ⟨by omega, by omega⟩ (fun c_64 => ?_) (fun c_64 => ?_)
                      · exfalso; omega
                      · refine e_aload_n dX11_open_67 rfl ?_
                        refine e_aload_n dX11_open_68 rfl ?_
                        refine m_getR (kt := (20, 48, 4)) (by decide) dX11_open_69 f_X11_17 hT rfl (Nat.succ_ne_zero _) (fun q_69 h_69 => ?_)
                        refine e_iload_n dX11_open_72 rfl ?_
                        refine m_iald (by decide) dX11_open_73 h_69 (by omega) (by omega) ?_
                        simp only [isWholeF_3, isWholeF_9, makesRoomF_3, makesRoomF_9, q_us_ap, editsF_3, Int.reduceEq, Int.reduceNeg, false_and, and_false, and_self, if_true, if_false, true_and, and_true, ite_self]
                        have g_73 := rg_4 hW ((16 * m) + f) (by omega) (by omega)
                        refine e_iload_n dX11_open_74 rfl ?_
                        refine e_cV (as := [_, _]) (ci := 11) dX11_open_75 k_X11_rightOf l_X11_165 i_X11_rightOf v_X11_rightOf hT rfl (by decide) ⟨_, _, rfl⟩ rfl rfl rfl rfl (Nat.le_of_ble_eq_true rfl) ⟨by decide, by decide⟩ (Nat.le_of_ble_eq_true rfl) (by decide) (m_rightOf hT (by first | exact hW | exact WR.up hW ⟨by decide, by decide⟩) ⟨by omega, by omega⟩ ⟨by omega, by omega⟩) ?_
                        try simp only [lockF_thr, rightF_thr, latestOf_thr, asOfT_thr]
                        have g_75 := rightF_rg hW (M 4 ((16 * m) + f)) m
                        refine e_iconst dX11_open_78 ?_
                        refine e_icmp_lt (tgt := 99) dX11_open_79 (by decide) ⟨by omega, by omega⟩ ⟨by omega, by omega⟩ (fun c_79 => ?_) (fun c_79 => ?_)
                        · exfalso; omega
                        · refine e_aload_n dX11_open_82 rfl ?_
                          refine e_aload_n dX11_open_83 rfl ?_
                          refine m_getR (kt := (21, 48, 3)) (by decide) dX11_open_84 f_X11_13 hT rfl (Nat.succ_ne_zero _) (fun q_84 h_84 => ?_)
                          refine e_iload_n dX11_open_87 rfl ?_
                          refine m_lald (by decide) dX11_open_88 h_84 (by omega) (by omega) ?_
                          simp only [isWholeF_3, isWholeF_9, makesRoomF_3, makesRoomF_9, q_us_ap, editsF_3, Int.reduceEq, Int.reduceNeg, false_and, and_false, and_self, if_true, if_false, true_and, and_true, ite_self]
                          have g_88 := rg_3 hW ((16 * m) + f) (by omega) (by omega)
                          refine e_cV (as := [_]) (ci := 11) dX11_open_89 k_X11_isWhole l_X11_226 i_X11_isWhole v_X11_isWhole hT rfl (by decide) ⟨_, _, rfl⟩ rfl rfl rfl rfl (Nat.le_of_ble_eq_true rfl) ⟨by decide, by decide⟩ (Nat.le_of_ble_eq_true rfl) (by decide) (m_isWhole hT (WR.up hW ⟨by decide, by decide⟩) hg3) ?_
                          refine e_if_eq (tgt := 99) dX11_open_92 (by decide) ⟨by omega, by omega⟩ (fun c_92 => ?_) (fun c_92 => ?_)
                          · exfalso; omega
                          · refine e_iconst dX11_open_95 ?_
                            refine e_goto (tgt := 100) dX11_open_96 (by decide) ?_
                            refine e_istore (ls2 := [_, _, _, _, _]) dX11_open_100 (Nat.le_of_ble_eq_true rfl) rfl ?_
                            refine e_aload_n dX11_open_102 rfl ?_
                            refine e_iload dX11_open_103 rfl ?_
                            refine e_if_eq (tgt := 129) dX11_open_105 (by decide) ⟨by decide, by decide⟩ (fun c_105 => ?_) (fun c_105 => ?_)
                            · exact absurd c_105 (by decide)
                            · refine e_aload_n dX11_open_108 rfl ?_
                              refine e_iload_n dX11_open_109 rfl ?_
                              refine e_aload_n dX11_open_110 rfl ?_
                              refine m_getR (kt := (21, 48, 3)) (by decide) dX11_open_111 f_X11_13 hT rfl (Nat.succ_ne_zero _) (fun q_111 h_111 => ?_)
                              refine e_iload_n dX11_open_114 rfl ?_
                              refine m_lald (by decide) dX11_open_115 h_111 (by omega) (by omega) ?_
                              simp only [isWholeF_3, isWholeF_9, makesRoomF_3, makesRoomF_9, q_us_ap, editsF_3, Int.reduceEq, Int.reduceNeg, false_and, and_false, and_self, if_true, if_false, true_and, and_true, ite_self]
                              have g_115 := rg_3 hW ((16 * m) + f) (by omega) (by omega)
                              refine e_cS (as := [_]) dX11_open_116 k_X11_lengthOf l_X11_111 s_X11_lengthOf rfl rfl rfl rfl (Nat.le_of_ble_eq_true rfl) ⟨by decide, by decide⟩ (Nat.le_of_ble_eq_true rfl) (by decide) (m_lengthOf ⟨by omega, by omega⟩) ?_
                              try simp only [lockF_thr, rightF_thr, latestOf_thr, asOfT_thr]
                              have g_116 := mlen_nn (M 3 ((16 * m) + f))
                              refine e_cV (as := [_, _]) (ci := 11) dX11_open_119 k_X11_makesRoom l_X11_230 i_X11_makesRoom v_X11_makesRoom hT rfl (by decide) ⟨_, _, rfl⟩ rfl rfl rfl rfl (Nat.le_of_ble_eq_true rfl) ⟨by decide, by decide⟩ (Nat.le_of_ble_eq_true rfl) (by decide) (m_makesRoom hT (wr_isWhole (WR.up hW ⟨by decide, by decide⟩) _) ⟨by omega, by omega⟩ ⟨by omega, by omega⟩) ?_
                              refine e_if_eq (tgt := 129) dX11_open_122 (by decide) ⟨by omega, by omega⟩ (fun c_122 => ?_) (fun c_122 => ?_)
                              · exfalso; omega
                              · refine e_iconst dX11_open_125 ?_
                                refine e_goto (tgt := 130) dX11_open_126 (by decide) ?_
                                refine m_putI (by decide) dX11_open_130 f_X11_101 rfl hT ⟨by omega, by omega⟩ ?_
                                refine e_aload_n dX11_open_133 rfl ?_
                                refine m_getI (by decide) dX11_open_134 f_X11_101 (Or.inl rfl) hT ?_
                                simp only [isWholeF_3, isWholeF_9, makesRoomF_3, makesRoomF_9, q_us_ap, editsF_3, Int.reduceEq, Int.reduceNeg, false_and, and_false, and_self, if_true, if_false, true_and, and_true, ite_self]
                                have g_134 := rs_41 hW
                                refine e_if_le (tgt := 142) dX11_open_137 (by decide) ⟨by decide, by decide⟩ (fun c_137 => ?_) (fun c_137 => ?_)
                                · refine e_aload_n dX11_open_142 rfl ?_
                                  refine m_getR (kt := (20, 48, 2)) (by decide) dX11_open_143 f_X11_7 hT rfl (Nat.succ_ne_zero _) (fun q_143 h_143 => ?_)
                                  refine e_iload_n dX11_open_146 rfl ?_
                                  refine e_iconst dX11_open_147 ?_
                                  refine m_iast (by decide) dX11_open_148 h_143 (by omega) (by omega) ⟨by omega, by omega⟩ ?_
                                  refine e_aload_n dX11_open_149 rfl ?_
                                  refine e_dup dX11_open_150 rfl ?_
                                  refine m_getI (by decide) dX11_open_151 f_X11_233 (Or.inl rfl) hT ?_
                                  simp only [isWholeF_3, isWholeF_9, makesRoomF_3, makesRoomF_9, q_us_ap, editsF_3, Int.reduceEq, Int.reduceNeg, false_and, and_false, and_self, if_true, if_false, true_and, and_true, ite_self]
                                  have g_151 := rs_9 hW
                                  refine e_iconst dX11_open_154 ?_
                                  refine e_iadd dX11_open_155 ?_
                                  refine m_putI (by decide) dX11_open_156 f_X11_233 rfl hT ⟨by omega, by omega⟩ ?_
                                  refine e_aload_n dX11_open_159 rfl ?_
                                  refine m_getR (kt := (20, 48, 7)) (by decide) dX11_open_160 f_X11_26 hT rfl (Nat.succ_ne_zero _) (fun q_160 h_160 => ?_)
                                  refine e_iload_n dX11_open_163 rfl ?_
                                  refine e_aload_n dX11_open_164 rfl ?_
                                  refine m_getI (by decide) dX11_open_165 f_X11_233 (Or.inl rfl) hT ?_
                                  simp only [isWholeF_3, isWholeF_9, makesRoomF_3, makesRoomF_9, q_us_ap, editsF_3, Int.reduceEq, Int.reduceNeg, false_and, and_false, and_self, if_true, if_false, true_and, and_true, ite_self]
                                  have g_165 := rs_9 hW
                                  refine m_iast (by decide) dX11_open_168 h_160 (by omega) (by omega) ⟨by omega, by omega⟩ ?_
                                  refine e_aload_n dX11_open_169 rfl ?_
                                  refine m_getR (kt := (21, 48, 3)) (by decide) dX11_open_170 f_X11_13 hT rfl (Nat.succ_ne_zero _) (fun q_170 h_170 => ?_)
                                  refine e_iload_n dX11_open_173 rfl ?_
                                  refine m_lald (by decide) dX11_open_174 h_170 (by omega) (by omega) ?_
                                  simp only [isWholeF_3, isWholeF_9, makesRoomF_3, makesRoomF_9, q_us_ap, editsF_3, Int.reduceEq, Int.reduceNeg, false_and, and_false, and_self, if_true, if_false, true_and, and_true, ite_self]
                                  have g_174 := rg_3 hW ((16 * m) + f) (by omega) (by omega)
                                  refine e_cS (as := [_]) dX11_open_175 k_X11_lengthOf l_X11_111 s_X11_lengthOf rfl rfl rfl rfl (Nat.le_of_ble_eq_true rfl) ⟨by decide, by decide⟩ (Nat.le_of_ble_eq_true rfl) (by decide) (m_lengthOf ⟨by omega, by omega⟩) ?_
                                  try simp only [lockF_thr, rightF_thr, latestOf_thr, asOfT_thr]
                                  have g_175 := mlen_nn (M 3 ((16 * m) + f))
                                  exact e_iret dX11_open_178 (Or.inl rfl) (e_ok (by rw [eo]) (by rw [eo]) rfl)
                                · exact absurd c_137 (by decide)
                    · exact absurd c_45 (by decide)
                  · exfalso; omega
                · simp only [bi_z, Classical.not_not] at c_12
                  exfalso; omega
set_option maxRecDepth 20000 in
set_option maxHeartbeats 4000000 in
theorem m_dr4 {K : q_K} {C : q_S} {a : Nat} (hT : K a = (12, 0, 50)) {X : q_S} (hX : WR X) (hP : PMI X) : ∀ (r k : Nat) (i : Int) (S : q_S), (k + r = 20000) → (i = k) → (S = d4F X k) → q_E mX11_dropsPieces 102 [some (q_R a), some (q_I i)] [] K S C 0 0 (e_is none K (d4F X 20000) C) := by
  intro r
  induction r with
  | zero =>
    intro k i S h1 h3 h4
    refine e_iload_n dX11_dropsPieces_102 rfl ?_
    refine e_sipush dX11_dropsPieces_103 (by decide) ?_
    refine e_icmp_ge (tgt := 171) dX11_dropsPieces_106 (by decide) ⟨by omega, by omega⟩ ⟨by omega, by omega⟩ (fun c_106 => ?_) (fun c_106 => ?_)
    · exact e_ret dX11_dropsPieces_171 rfl (e_ok rfl (by rw [h4, show k = 20000 by omega]) rfl)
    · exfalso; omega
  | succ r ih =>
    intro k i S h1 h3 h4
    have hok := d4F_ok hX hP k (by omega)
    rw [← h4] at hok
    have hS := hok.1
    have hd4 := d4_ok hok.1 hok.2 (k := i) ⟨by omega, by omega⟩
    refine e_iload_n dX11_dropsPieces_102 rfl ?_
    refine e_sipush dX11_dropsPieces_103 (by decide) ?_
    refine e_icmp_ge (tgt := 171) dX11_dropsPieces_106 (by decide) ⟨by omega, by omega⟩ ⟨by omega, by omega⟩ (fun c_106 => ?_) (fun c_106 => ?_)
    · exfalso; omega
    · refine e_aload_n dX11_dropsPieces_109 rfl ?_
      refine m_getR (kt := (20, 20000, 42)) (by decide) dX11_dropsPieces_110 f_X11_98 hT rfl (Nat.succ_ne_zero _) (fun q_110 h_110 => ?_)
      refine e_iload_n dX11_dropsPieces_113 rfl ?_
      refine m_iaw (by decide) (rg_42 hS) dX11_dropsPieces_114 h_110 (by omega) (by omega) (fun g_114 => ?_)
      refine e_if_ne (tgt := 165) dX11_dropsPieces_115 (by decide) ⟨by omega, by omega⟩ (fun c_115 => ?_) (fun c_115 => ?_)
      · refine e_iinc (ls2 := [_, _]) dX11_dropsPieces_165 rfl (Nat.le_of_ble_eq_true rfl) rfl ?_
        refine e_goto (tgt := 102) dX11_dropsPieces_168 (by decide) ?_
        exact ih (k + 1) _ _ (by omega) (by omega) (by simp only [d4F, ← h4, ← h3]; unfold d4S; first | rw [if_pos (by omega)] | (rw [if_neg (by omega)]; first | rw [if_pos (by omega)] | rw [if_neg (by omega)]))
      · refine e_aload_n dX11_dropsPieces_118 rfl ?_
        refine m_getR (kt := (20, 20000, 31)) (by decide) dX11_dropsPieces_119 f_X11_83 hT rfl (Nat.succ_ne_zero _) (fun q_119 h_119 => ?_)
        refine e_iload_n dX11_dropsPieces_122 rfl ?_
        refine m_iaw (by decide) (rg_31 hS) dX11_dropsPieces_123 h_119 (by omega) (by omega) (fun g_123 => ?_)
        refine e_if_le (tgt := 144) dX11_dropsPieces_124 (by decide) ⟨by omega, by omega⟩ (fun c_124 => ?_) (fun c_124 => ?_)
        · refine e_aload_n dX11_dropsPieces_144 rfl ?_
          refine m_getR (kt := (20, 20000, 31)) (by decide) dX11_dropsPieces_145 f_X11_83 hT rfl (Nat.succ_ne_zero _) (fun q_145 h_145 => ?_)
          refine e_iload_n dX11_dropsPieces_148 rfl ?_
          refine e_iconst dX11_dropsPieces_149 ?_
          refine m_iast (by decide) dX11_dropsPieces_150 h_145 (by omega) (by omega) ⟨by omega, by omega⟩ ?_
          refine e_aload_n dX11_dropsPieces_151 rfl ?_
          refine m_getR (kt := (20, 20000, 32)) (by decide) dX11_dropsPieces_152 f_X11_86 hT rfl (Nat.succ_ne_zero _) (fun q_152 h_152 => ?_)
          refine e_iload_n dX11_dropsPieces_155 rfl ?_
          refine e_iconst dX11_dropsPieces_156 ?_
          refine m_iast (by decide) dX11_dropsPieces_157 h_152 (by omega) (by omega) ⟨by omega, by omega⟩ ?_
          refine e_aload_n dX11_dropsPieces_158 rfl ?_
          refine m_getR (kt := (20, 20000, 33)) (by decide) dX11_dropsPieces_159 f_X11_89 hT rfl (Nat.succ_ne_zero _) (fun q_159 h_159 => ?_)
          refine e_iload_n dX11_dropsPieces_162 rfl ?_
          refine e_iconst dX11_dropsPieces_163 ?_
          refine m_iast (by decide) dX11_dropsPieces_164 h_159 (by omega) (by omega) ⟨by omega, by omega⟩ ?_
          refine e_iinc (ls2 := [_, _]) dX11_dropsPieces_165 rfl (Nat.le_of_ble_eq_true rfl) rfl ?_
          refine e_goto (tgt := 102) dX11_dropsPieces_168 (by decide) ?_
          exact ih (k + 1) _ _ (by omega) (by omega) (by simp only [d4F, ← h4, ← h3]; unfold d4S; first | rw [if_pos (by omega)] | (rw [if_neg (by omega)]; first | rw [if_pos (by omega)] | rw [if_neg (by omega)]))
        · refine e_aload_n dX11_dropsPieces_127 rfl ?_
          refine m_getR (kt := (20, 1500, 35)) (by decide) dX11_dropsPieces_128 f_X11_92 hT rfl (Nat.succ_ne_zero _) (fun q_128 h_128 => ?_)
          refine e_aload_n dX11_dropsPieces_131 rfl ?_
          refine m_getR (kt := (20, 20000, 31)) (by decide) dX11_dropsPieces_132 f_X11_83 hT rfl (Nat.succ_ne_zero _) (fun q_132 h_132 => ?_)
          refine e_iload_n dX11_dropsPieces_135 rfl ?_
          refine m_iaw (by decide) (rg_31 hS) dX11_dropsPieces_136 h_132 (by omega) (by omega) (fun g_136 => ?_)
          refine e_iconst dX11_dropsPieces_137 ?_
          refine e_isub dX11_dropsPieces_138 ?_
          refine e_dup2 dX11_dropsPieces_139 rfl rfl ?_
          refine m_iaw (by decide) (rg_35 hS) dX11_dropsPieces_140 h_128 (by omega) (by omega) (fun g_140 => ?_)
          refine e_iconst dX11_dropsPieces_141 ?_
          refine e_isub dX11_dropsPieces_142 ?_
          refine m_iast (by decide) dX11_dropsPieces_143 h_128 (by omega) (by omega) ⟨by omega, by omega⟩ ?_
          refine e_aload_n dX11_dropsPieces_144 rfl ?_
          refine m_getR (kt := (20, 20000, 31)) (by decide) dX11_dropsPieces_145 f_X11_83 hT rfl (Nat.succ_ne_zero _) (fun q_145 h_145 => ?_)
          refine e_iload_n dX11_dropsPieces_148 rfl ?_
          refine e_iconst dX11_dropsPieces_149 ?_
          refine m_iast (by decide) dX11_dropsPieces_150 h_145 (by omega) (by omega) ⟨by omega, by omega⟩ ?_
          refine e_aload_n dX11_dropsPieces_151 rfl ?_
          refine m_getR (kt := (20, 20000, 32)) (by decide) dX11_dropsPieces_152 f_X11_86 hT rfl (Nat.succ_ne_zero _) (fun q_152 h_152 => ?_)
          refine e_iload_n dX11_dropsPieces_155 rfl ?_
          refine e_iconst dX11_dropsPieces_156 ?_
          refine m_iast (by decide) dX11_dropsPieces_157 h_152 (by omega) (by omega) ⟨by omega, by omega⟩ ?_
          refine e_aload_n dX11_dropsPieces_158 rfl ?_
          refine m_getR (kt := (20, 20000, 33)) (by decide) dX11_dropsPieces_159 f_X11_89 hT rfl (Nat.succ_ne_zero _) (fun q_159 h_159 => ?_)
          refine e_iload_n dX11_dropsPieces_162 rfl ?_
          refine e_iconst dX11_dropsPieces_163 ?_
          refine m_iast (by decide) dX11_dropsPieces_164 h_159 (by omega) (by omega) ⟨by omega, by omega⟩ ?_
          refine e_iinc (ls2 := [_, _]) dX11_dropsPieces_165 rfl (Nat.le_of_ble_eq_true rfl) rfl ?_
          refine e_goto (tgt := 102) dX11_dropsPieces_168 (by decide) ?_
          exact ih (k + 1) _ _ (by omega) (by omega) (by simp only [d4F, ← h4, ← h3]; unfold d4S; first | rw [if_pos (by omega)] | (rw [if_neg (by omega)]; first | rw [if_pos (by omega)] | rw [if_neg (by omega)]))
set_option maxRecDepth 20000 in
set_option maxHeartbeats 4000000 in
theorem m_dr3 {K : q_K} {C : q_S} {a : Nat} (hT : K a = (12, 0, 50)) {X : q_S} (hX : WR X) (hP : PMI (d3F X 48)) : ∀ (r k : Nat) (i : Int) (S : q_S), (k + r = 48) → (i = k) → (S = d3F X k) → q_E mX11_dropsPieces 59 [some (q_R a), some (q_I i)] [] K S C 0 0 (e_is none K (d4F (d3F X 48) 20000) C) := by
  intro r
  induction r with
  | zero =>
    intro k i S h1 h3 h4
    have hS : WR S := by rw [h4]; exact wr_d3 hX k
    refine e_iload_n dX11_dropsPieces_59 rfl ?_
    refine e_bipush dX11_dropsPieces_60 (by decide) ?_
    refine e_icmp_ge (tgt := 100) dX11_dropsPieces_62 (by decide) ⟨by omega, by omega⟩ ⟨by omega, by omega⟩ (fun c_62 => ?_) (fun c_62 => ?_)
    · refine e_iconst dX11_dropsPieces_100 ?_
      refine e_istore_n (ls2 := [_, _]) dX11_dropsPieces_101 (Nat.le_of_ble_eq_true rfl) rfl ?_
      have e9 : k = 48 := by omega
      subst e9
      exact m_dr4 hT (wr_d3 hX 48) hP 20000 0 _ _ (by omega) rfl (by rw [h4]; rfl)
    · exfalso; omega
  | succ r ih =>
    intro k i S h1 h3 h4
    have hS : WR S := by rw [h4]; exact wr_d3 hX k
    refine e_iload_n dX11_dropsPieces_59 rfl ?_
    refine e_bipush dX11_dropsPieces_60 (by decide) ?_
    refine e_icmp_ge (tgt := 100) dX11_dropsPieces_62 (by decide) ⟨by omega, by omega⟩ ⟨by omega, by omega⟩ (fun c_62 => ?_) (fun c_62 => ?_)
    · exfalso; omega
    · refine e_aload_n dX11_dropsPieces_65 rfl ?_
      refine m_getR (kt := (20, 48, 8)) (by decide) dX11_dropsPieces_66 f_X11_29 hT rfl (Nat.succ_ne_zero _) (fun q_66 h_66 => ?_)
      refine e_iload_n dX11_dropsPieces_69 rfl ?_
      refine m_iaw (by decide) (rg_8 hS) dX11_dropsPieces_70 h_66 (by omega) (by omega) (fun g_70 => ?_)
      refine e_if_le (tgt := 94) dX11_dropsPieces_71 (by decide) ⟨by omega, by omega⟩ (fun c_71 => ?_) (fun c_71 => ?_)
      · refine e_iinc (ls2 := [_, _]) dX11_dropsPieces_94 rfl (Nat.le_of_ble_eq_true rfl) rfl ?_
        refine e_goto (tgt := 59) dX11_dropsPieces_97 (by decide) ?_
        exact ih (k + 1) _ _ (by omega) (by omega) (by simp only [d3F, ← h4, ← h3]; first | rw [if_pos ⟨by omega, by omega⟩] | rw [if_neg (by omega)])
      · refine e_aload_n dX11_dropsPieces_74 rfl ?_
        refine m_getR (kt := (20, 48, 2)) (by decide) dX11_dropsPieces_75 f_X11_7 hT rfl (Nat.succ_ne_zero _) (fun q_75 h_75 => ?_)
        refine e_iload_n dX11_dropsPieces_78 rfl ?_
        refine m_iaw (by decide) (rg_2 hS) dX11_dropsPieces_79 h_75 (by omega) (by omega) (fun g_79 => ?_)
        refine e_iconst dX11_dropsPieces_80 ?_
        refine e_icmp_ne (tgt := 94) dX11_dropsPieces_81 (by decide) ⟨by omega, by omega⟩ ⟨by omega, by omega⟩ (fun c_81 => ?_) (fun c_81 => ?_)
        · refine e_iinc (ls2 := [_, _]) dX11_dropsPieces_94 rfl (Nat.le_of_ble_eq_true rfl) rfl ?_
          refine e_goto (tgt := 59) dX11_dropsPieces_97 (by decide) ?_
          exact ih (k + 1) _ _ (by omega) (by omega) (by simp only [d3F, ← h4, ← h3]; first | rw [if_pos ⟨by omega, by omega⟩] | rw [if_neg (by omega)])
        · refine e_aload_n dX11_dropsPieces_84 rfl ?_
          refine e_aload_n dX11_dropsPieces_85 rfl ?_
          refine m_getR (kt := (21, 48, 3)) (by decide) dX11_dropsPieces_86 f_X11_13 hT rfl (Nat.succ_ne_zero _) (fun q_86 h_86 => ?_)
          refine e_iload_n dX11_dropsPieces_89 rfl ?_
          refine m_law (by decide) (rg_3 hS) dX11_dropsPieces_90 h_86 (by omega) (by omega) (fun g_90 => ?_)
          refine e_cV (as := [_]) (ci := 11) dX11_dropsPieces_91 k_X11_marks l_X11_239 i_X11_marks v_X11_marks hT rfl (by decide) ⟨_, _, rfl⟩ rfl rfl rfl rfl (Nat.le_of_ble_eq_true rfl) ⟨by decide, by decide⟩ (Nat.le_of_ble_eq_true rfl) (by decide) (m_marks hT hS (hS 3 _)) ?_
          refine e_iinc (ls2 := [_, _]) dX11_dropsPieces_94 rfl (Nat.le_of_ble_eq_true rfl) rfl ?_
          refine e_goto (tgt := 59) dX11_dropsPieces_97 (by decide) ?_
          exact ih (k + 1) _ _ (by omega) (by omega) (by simp only [d3F, ← h4, ← h3]; first | rw [if_pos ⟨by omega, by omega⟩] | rw [if_neg (by omega)])
set_option maxRecDepth 20000 in
set_option maxHeartbeats 4000000 in
theorem m_dr2 {K : q_K} {C : q_S} {a : Nat} (hT : K a = (12, 0, 50)) {X : q_S} (hX : WR X) (hP : PMI (d3F (d2F X (X 50 16).toNat) 48)) : ∀ (r k : Nat) (i : Int) (S : q_S), (k + r = (X 50 16).toNat) → (i = k) → (S = d2F X k) → q_E mX11_dropsPieces 24 [some (q_R a), some (q_I i)] [] K S C 0 0 (e_is none K (d4F (d3F (d2F X (X 50 16).toNat) 48) 20000) C) := by
  intro r
  induction r with
  | zero =>
    intro k i S h1 h3 h4
    have hS : WR S := by rw [h4]; exact wr_d2 hX k
    have e16 : S 50 16 = X 50 16 := by rw [h4]; exact d2F_o (by decide) (by decide) k
    have hx16 := rs_16 hX
    refine e_iload_n dX11_dropsPieces_24 rfl ?_
    refine e_aload_n dX11_dropsPieces_25 rfl ?_
    refine m_getI (by decide) dX11_dropsPieces_26 f_X11_155 (Or.inl rfl) hT ?_
    have g_26 := rs_16 hS
    refine e_icmp_ge (tgt := 57) dX11_dropsPieces_29 (by decide) ⟨by omega, by omega⟩ ⟨by omega, by omega⟩ (fun c_29 => ?_) (fun c_29 => ?_)
    · refine e_iconst dX11_dropsPieces_57 ?_
      refine e_istore_n (ls2 := [_, _]) dX11_dropsPieces_58 (Nat.le_of_ble_eq_true rfl) rfl ?_
      have e9 : (X 50 16).toNat = k := by omega
      rw [e9] at hP ⊢
      exact m_dr3 hT (wr_d2 hX k) hP 48 0 _ _ (by omega) rfl (by rw [h4]; rfl)
    · exfalso; omega
  | succ r ih =>
    intro k i S h1 h3 h4
    have hS : WR S := by rw [h4]; exact wr_d2 hX k
    have e16 : S 50 16 = X 50 16 := by rw [h4]; exact d2F_o (by decide) (by decide) k
    have hx16 := rs_16 hX
    refine e_iload_n dX11_dropsPieces_24 rfl ?_
    refine e_aload_n dX11_dropsPieces_25 rfl ?_
    refine m_getI (by decide) dX11_dropsPieces_26 f_X11_155 (Or.inl rfl) hT ?_
    have g_26 := rs_16 hS
    refine e_icmp_ge (tgt := 57) dX11_dropsPieces_29 (by decide) ⟨by omega, by omega⟩ ⟨by omega, by omega⟩ (fun c_29 => ?_) (fun c_29 => ?_)
    · exfalso; omega
    · refine e_aload_n dX11_dropsPieces_32 rfl ?_
      refine m_getR (kt := (20, 120, 22)) (by decide) dX11_dropsPieces_33 f_X11_59 hT rfl (Nat.succ_ne_zero _) (fun q_33 h_33 => ?_)
      refine e_iload_n dX11_dropsPieces_36 rfl ?_
      refine m_iaw (by decide) (rg_22 hS) dX11_dropsPieces_37 h_33 (by omega) (by omega) (fun g_37 => ?_)
      refine e_if_ne (tgt := 51) dX11_dropsPieces_38 (by decide) ⟨by omega, by omega⟩ (fun c_38 => ?_) (fun c_38 => ?_)
      · refine e_iinc (ls2 := [_, _]) dX11_dropsPieces_51 rfl (Nat.le_of_ble_eq_true rfl) rfl ?_
        refine e_goto (tgt := 24) dX11_dropsPieces_54 (by decide) ?_
        exact ih (k + 1) _ _ (by omega) (by omega) (by simp only [d2F, ← h4, ← h3]; first | rw [if_pos (by omega)] | rw [if_neg (by omega)])
      · refine e_aload_n dX11_dropsPieces_41 rfl ?_
        refine e_aload_n dX11_dropsPieces_42 rfl ?_
        refine m_getR (kt := (21, 120, 21)) (by decide) dX11_dropsPieces_43 f_X11_56 hT rfl (Nat.succ_ne_zero _) (fun q_43 h_43 => ?_)
        refine e_iload_n dX11_dropsPieces_46 rfl ?_
        refine m_law (by decide) (rg_21 hS) dX11_dropsPieces_47 h_43 (by omega) (by omega) (fun g_47 => ?_)
        refine e_cV (as := [_]) (ci := 11) dX11_dropsPieces_48 k_X11_marks l_X11_239 i_X11_marks v_X11_marks hT rfl (by decide) ⟨_, _, rfl⟩ rfl rfl rfl rfl (Nat.le_of_ble_eq_true rfl) ⟨by decide, by decide⟩ (Nat.le_of_ble_eq_true rfl) (by decide) (m_marks hT hS (hS 21 _)) ?_
        refine e_iinc (ls2 := [_, _]) dX11_dropsPieces_51 rfl (Nat.le_of_ble_eq_true rfl) rfl ?_
        refine e_goto (tgt := 24) dX11_dropsPieces_54 (by decide) ?_
        exact ih (k + 1) _ _ (by omega) (by omega) (by simp only [d2F, ← h4, ← h3]; first | rw [if_pos (by omega)] | rw [if_neg (by omega)])
set_option maxRecDepth 20000 in
set_option maxHeartbeats 4000000 in
theorem m_dr1 {K : q_K} {M C : q_S} {a : Nat} (hT : K a = (12, 0, 50)) (hW : WR M) (hP : PMI M) : ∀ (r k : Nat) (i : Int) (S : q_S), (k + r = 20000) → (i = k) → (S = d1F M k) → q_E mX11_dropsPieces 2 [some (q_R a), some (q_I i)] [] K S C 0 0 (e_is none K (dropsF M) C) := by
  intro r
  induction r with
  | zero =>
    intro k i S h1 h3 h4
    refine e_iload_n dX11_dropsPieces_2 rfl ?_
    refine e_sipush dX11_dropsPieces_3 (by decide) ?_
    refine e_icmp_ge (tgt := 22) dX11_dropsPieces_6 (by decide) ⟨by omega, by omega⟩ ⟨by omega, by omega⟩ (fun c_6 => ?_) (fun c_6 => ?_)
    · refine e_iconst dX11_dropsPieces_22 ?_
      refine e_istore_n (ls2 := [_, _]) dX11_dropsPieces_23 (Nat.le_of_ble_eq_true rfl) rfl ?_
      have e9 : k = 20000 := by omega
      subst e9
      rw [h4]
      have e8 : (d1F M 20000) 50 16 = M 50 16 := d1F_o (by decide) _
      have := m_dr2 (C := C) hT (wr_d1 hW 20000) (hP.d3 _ _) (M 50 16).toNat 0 0 (d1F M 20000) (by rw [e8]; omega) rfl rfl
      rw [e8] at this
      exact this
    · exfalso; omega
  | succ r ih =>
    intro k i S h1 h3 h4
    refine e_iload_n dX11_dropsPieces_2 rfl ?_
    refine e_sipush dX11_dropsPieces_3 (by decide) ?_
    refine e_icmp_ge (tgt := 22) dX11_dropsPieces_6 (by decide) ⟨by omega, by omega⟩ ⟨by omega, by omega⟩ (fun c_6 => ?_) (fun c_6 => ?_)
    · exfalso; omega
    · refine e_aload_n dX11_dropsPieces_9 rfl ?_
      refine m_getR (kt := (20, 20000, 42)) (by decide) dX11_dropsPieces_10 f_X11_98 hT rfl (Nat.succ_ne_zero _) (fun q_10 h_10 => ?_)
      refine e_iload_n dX11_dropsPieces_13 rfl ?_
      refine e_iconst dX11_dropsPieces_14 ?_
      refine m_iast (by decide) dX11_dropsPieces_15 h_10 (by omega) (by omega) ⟨by omega, by omega⟩ ?_
      refine e_iinc (ls2 := [_, _]) dX11_dropsPieces_16 rfl (Nat.le_of_ble_eq_true rfl) rfl ?_
      refine e_goto (tgt := 2) dX11_dropsPieces_19 (by decide) ?_
      exact ih (k + 1) _ _ (by omega) (by omega) (by simp only [d1F, ← h4, ← h3])
set_option maxRecDepth 20000 in
set_option maxHeartbeats 4000000 in
theorem m_dropsPieces {K : q_K} {M C : q_S} {a : Nat} (hT : K a = (12, 0, 50)) (hW : WR M) (hP : PMI M) : q_E mX11_dropsPieces 0 [some (q_R a), none] [] K M C 0 0 (e_is none K (dropsF M) C) := by
  refine e_iconst dX11_dropsPieces_0 ?_
  refine e_istore_n (ls2 := [_, _]) dX11_dropsPieces_1 (Nat.le_of_ble_eq_true rfl) rfl ?_
  exact m_dr1 hT hW hP 20000 0 0 M (by omega) rfl rfl
theorem follI_01 (M : q_S) (v : Int) : ∀ n, follI M v n = 0 ∨ follI M v n = 1 := by
  intro n
  cases n with
  | zero => exact Or.inl rfl
  | succ n => simp only [follI]; split <;> simp
theorem heldI_01 (M : q_S) (v : Int) : ∀ n, heldI M v n = 0 ∨ heldI M v n = 1 := by
  intro n
  cases n with
  | zero => exact Or.inl rfl
  | succ n => simp only [heldI]; split <;> simp
set_option maxRecDepth 20000 in
set_option maxHeartbeats 4000000 in
theorem m_thin_l {K : q_K} {M C : q_S} {a : Nat} (hT : K a = (12, 0, 50)) (hW : WR M) (hP : PMI M) : ∀ (r k : Nat) (n i : Int) (S : q_S), (k + r = (M 50 16).toNat) → ((n, S) = thF (thr M 0) k) → (i = k) → (0 ≤ n ∧ n ≤ k) → (WR S) → q_E mX11_thin 9 [some (q_R a), some (q_I n), some (q_I i), none, none] [] K S C 0 0 (e_is (some (q_I (thinF M).1)) K (thinF M).2 C) := by
  intro r
  induction r with
  | zero =>
    intro k n i S h1 h2 h3 h4 hS
    have e16 : S 50 16 = M 50 16 := by have := thF_o (M := thr M 0) (t := 50) (j := 16) (by decide) k; rw [← h2] at this; exact this
    have hx16 := rs_16 hW
    have hpS : PMI S := by
      refine (hP.us (t := 50) (j := 41) (z := 0) (by decide) (by decide) (by decide)).of (fun j => ?_) (fun j => ?_) ?_
      · have := thF_o (M := thr M 0) (t := 31) (j := j) (by decide) k; rw [← h2] at this; exact this
      · have := thF_o (M := thr M 0) (t := 35) (j := j) (by decide) k; rw [← h2] at this; exact this
      · have := thF_o (M := thr M 0) (t := 50) (j := 34) (by decide) k; rw [← h2] at this; exact this
    refine e_iload_n dX11_thin_9 rfl ?_
    refine e_aload_n dX11_thin_10 rfl ?_
    refine m_getI (by decide) dX11_thin_11 f_X11_155 (Or.inl rfl) hT ?_
    have g_11 := rs_16 hS
    refine e_icmp_ge (tgt := 109) dX11_thin_14 (by decide) ⟨by omega, by omega⟩ ⟨by omega, by omega⟩ (fun c_14 => ?_) (fun c_14 => ?_)
    · refine e_aload_n dX11_thin_109 rfl ?_
      refine e_cV (as := []) (ci := 11) dX11_thin_110 k_X11_dropsPieces l_X11_249 i_X11_dropsPieces v_X11_dropsPieces hT rfl (by decide) ⟨_, _, rfl⟩ rfl rfl rfl rfl (Nat.le_of_ble_eq_true rfl) ⟨by decide, by decide⟩ (Nat.le_of_ble_eq_true rfl) (by decide) (m_dropsPieces hT hS hpS) ?_
      refine e_iload_n dX11_thin_113 rfl ?_
      exact e_iret dX11_thin_114 (Or.inl rfl) (e_ok (by unfold thinF; rw [show (M 50 16).toNat = k by omega, ← h2]) (by unfold thinF; rw [show (M 50 16).toNat = k by omega, ← h2]) rfl)
    · exfalso; omega
  | succ r ih =>
    intro k n i S h1 h2 h3 h4 hS
    have e16 : S 50 16 = M 50 16 := by have := thF_o (M := thr M 0) (t := 50) (j := 16) (by decide) k; rw [← h2] at this; exact this
    have hx16 := rs_16 hW
    have hlt := latestOf_rg hS (S 17 i)
    refine e_iload_n dX11_thin_9 rfl ?_
    refine e_aload_n dX11_thin_10 rfl ?_
    refine m_getI (by decide) dX11_thin_11 f_X11_155 (Or.inl rfl) hT ?_
    have g_11 := rs_16 hS
    refine e_icmp_ge (tgt := 109) dX11_thin_14 (by decide) ⟨by first | omega | (have := follI_01 S i (S 50 16 - i - 1).toNat; have := heldI_01 S i (S 50 27).toNat; omega), by first | omega | (have := follI_01 S i (S 50 16 - i - 1).toNat; have := heldI_01 S i (S 50 27).toNat; omega)⟩ ⟨by omega, by omega⟩ (fun c_14 => ?_) (fun c_14 => ?_)
    · exfalso; omega
    · refine e_aload_n dX11_thin_17 rfl ?_
      refine m_getI (by decide) dX11_thin_18 f_X11_132 (Or.inl rfl) hT ?_
      have g_18 := rs_1 hS
      refine e_aload_n dX11_thin_21 rfl ?_
      refine m_getR (kt := (20, 120, 18)) (by decide) dX11_thin_22 f_X11_47 hT rfl (Nat.succ_ne_zero _) (fun q_22 h_22 => ?_)
      refine e_iload_n dX11_thin_25 rfl ?_
      refine m_iaw (by decide) (rg_18 hS) dX11_thin_26 h_22 (by omega) (by omega) (fun g_26 => ?_)
      refine e_isub dX11_thin_27 ?_
      refine e_istore_n (ls2 := [_, _, _, _, _]) dX11_thin_28 (Nat.le_of_ble_eq_true rfl) rfl ?_
      refine e_iload_n dX11_thin_29 rfl ?_
      refine e_bipush dX11_thin_30 (by decide) ?_
      refine e_icmp_lt (tgt := 43) dX11_thin_32 (by decide) ⟨by first | omega | (have := follI_01 S i (S 50 16 - i - 1).toNat; have := heldI_01 S i (S 50 27).toNat; omega), by first | omega | (have := follI_01 S i (S 50 16 - i - 1).toNat; have := heldI_01 S i (S 50 27).toNat; omega)⟩ ⟨by omega, by omega⟩ (fun c_32 => ?_) (fun c_32 => ?_)
      · refine e_iload_n dX11_thin_43 rfl ?_
        refine e_sipush dX11_thin_44 (by decide) ?_
        refine e_icmp_lt (tgt := 68) dX11_thin_47 (by decide) ⟨by first | omega | (have := follI_01 S i (S 50 16 - i - 1).toNat; have := heldI_01 S i (S 50 27).toNat; omega), by first | omega | (have := follI_01 S i (S 50 16 - i - 1).toNat; have := heldI_01 S i (S 50 27).toNat; omega)⟩ ⟨by omega, by omega⟩ (fun c_47 => ?_) (fun c_47 => ?_)
        · refine e_iconst dX11_thin_68 ?_
          refine e_istore (ls2 := [_, _, _, _, _]) dX11_thin_69 (Nat.le_of_ble_eq_true rfl) rfl ?_
          refine e_aload_n dX11_thin_71 rfl ?_
          refine m_getR (kt := (20, 120, 22)) (by decide) dX11_thin_72 f_X11_59 hT rfl (Nat.succ_ne_zero _) (fun q_72 h_72 => ?_)
          refine e_iload_n dX11_thin_75 rfl ?_
          refine m_iaw (by decide) (rg_22 hS) dX11_thin_76 h_72 (by omega) (by omega) (fun g_76 => ?_)
          refine e_if_ne (tgt := 103) dX11_thin_77 (by decide) ⟨by first | omega | (have := follI_01 S i (S 50 16 - i - 1).toNat; have := heldI_01 S i (S 50 27).toNat; omega), by first | omega | (have := follI_01 S i (S 50 16 - i - 1).toNat; have := heldI_01 S i (S 50 27).toNat; omega)⟩ (fun c_77 => ?_) (fun c_77 => ?_)
          · refine e_iinc (ls2 := [_, _, _, _, _]) dX11_thin_103 rfl (Nat.le_of_ble_eq_true rfl) rfl ?_
            refine e_goto (tgt := 9) dX11_thin_106 (by decide) ?_
            refine e_drop (k := 3) (ls2 := [_, _, _, _, _]) rfl ?_
            refine e_drop (k := 4) (ls2 := [_, _, _, _, _]) rfl ?_
            exact ih (k + 1) _ _ _ (by omega) (by simp only [thF, ← h2, ← h3]; split <;> first | rfl | (exfalso; omega)) (by omega) (by omega) (by first | exact hS | exact WR.up hS ⟨(show (0 : Int) ≤ 1 by decide), (show (1 : Int) ≤ 1 by decide)⟩)
          · refine e_aload_n dX11_thin_80 rfl ?_
            refine e_iload_n dX11_thin_81 rfl ?_
            refine e_cV (as := [_]) (ci := 11) dX11_thin_82 k_X11_isHeld l_X11_246 i_X11_isHeld v_X11_isHeld hT rfl (by decide) ⟨_, _, rfl⟩ rfl rfl rfl rfl (Nat.le_of_ble_eq_true rfl) ⟨by decide, by decide⟩ (Nat.le_of_ble_eq_true rfl) (by decide) (m_isHeld hT hS ⟨by omega, by omega⟩) ?_
            refine e_if_ne (tgt := 103) dX11_thin_85 (by decide) ⟨by first | omega | (have := follI_01 S i (S 50 16 - i - 1).toNat; have := heldI_01 S i (S 50 27).toNat; omega), by first | omega | (have := follI_01 S i (S 50 16 - i - 1).toNat; have := heldI_01 S i (S 50 27).toNat; omega)⟩ (fun c_85 => ?_) (fun c_85 => ?_)
            · refine e_iinc (ls2 := [_, _, _, _, _]) dX11_thin_103 rfl (Nat.le_of_ble_eq_true rfl) rfl ?_
              refine e_goto (tgt := 9) dX11_thin_106 (by decide) ?_
              refine e_drop (k := 3) (ls2 := [_, _, _, _, _]) rfl ?_
              refine e_drop (k := 4) (ls2 := [_, _, _, _, _]) rfl ?_
              exact ih (k + 1) _ _ _ (by omega) (by simp only [thF, ← h2, ← h3]; split <;> first | rfl | (exfalso; omega)) (by omega) (by omega) (by first | exact hS | exact WR.up hS ⟨(show (0 : Int) ≤ 1 by decide), (show (1 : Int) ≤ 1 by decide)⟩)
            · refine e_iload dX11_thin_88 rfl ?_
              refine e_if_eq (tgt := 103) dX11_thin_90 (by decide) ⟨by decide, by decide⟩ (fun c_90 => ?_) (fun c_90 => ?_)
              · refine e_iinc (ls2 := [_, _, _, _, _]) dX11_thin_103 rfl (Nat.le_of_ble_eq_true rfl) rfl ?_
                refine e_goto (tgt := 9) dX11_thin_106 (by decide) ?_
                refine e_drop (k := 3) (ls2 := [_, _, _, _, _]) rfl ?_
                refine e_drop (k := 4) (ls2 := [_, _, _, _, _]) rfl ?_
                exact ih (k + 1) _ _ _ (by omega) (by simp only [thF, ← h2, ← h3]; split <;> first | rfl | (exfalso; omega)) (by omega) (by omega) (by first | exact hS | exact WR.up hS ⟨(show (0 : Int) ≤ 1 by decide), (show (1 : Int) ≤ 1 by decide)⟩)
              · exact absurd c_90 (by decide)
        · refine e_aload_n dX11_thin_50 rfl ?_
          refine e_aload_n dX11_thin_51 rfl ?_
          refine m_getR (kt := (20, 120, 17)) (by decide) dX11_thin_52 f_X11_44 hT rfl (Nat.succ_ne_zero _) (fun q_52 h_52 => ?_)
          refine e_iload_n dX11_thin_55 rfl ?_
          refine m_iaw (by decide) (rg_17 hS) dX11_thin_56 h_52 (by omega) (by omega) (fun g_56 => ?_)
          refine e_cV (as := [_]) (ci := 11) dX11_thin_57 k_X11_latestOf l_X11_184 i_X11_latestOf v_X11_latestOf hT rfl (by decide) ⟨_, _, rfl⟩ rfl rfl rfl rfl (Nat.le_of_ble_eq_true rfl) ⟨by decide, by decide⟩ (Nat.le_of_ble_eq_true rfl) (by decide) (m_latestOf hT hS ⟨by omega, by omega⟩) ?_
          have g_57 := latestOf_rg hS (S 17 i)
          refine e_iload_n dX11_thin_60 rfl ?_
          refine e_icmp_eq (tgt := 68) dX11_thin_61 (by decide) ⟨by first | omega | (have := follI_01 S i (S 50 16 - i - 1).toNat; have := heldI_01 S i (S 50 27).toNat; omega), by first | omega | (have := follI_01 S i (S 50 16 - i - 1).toNat; have := heldI_01 S i (S 50 27).toNat; omega)⟩ ⟨by omega, by omega⟩ (fun c_61 => ?_) (fun c_61 => ?_)
          · refine e_iconst dX11_thin_68 ?_
            refine e_istore (ls2 := [_, _, _, _, _]) dX11_thin_69 (Nat.le_of_ble_eq_true rfl) rfl ?_
            refine e_aload_n dX11_thin_71 rfl ?_
            refine m_getR (kt := (20, 120, 22)) (by decide) dX11_thin_72 f_X11_59 hT rfl (Nat.succ_ne_zero _) (fun q_72 h_72 => ?_)
            refine e_iload_n dX11_thin_75 rfl ?_
            refine m_iaw (by decide) (rg_22 hS) dX11_thin_76 h_72 (by omega) (by omega) (fun g_76 => ?_)
            refine e_if_ne (tgt := 103) dX11_thin_77 (by decide) ⟨by first | omega | (have := follI_01 S i (S 50 16 - i - 1).toNat; have := heldI_01 S i (S 50 27).toNat; omega), by first | omega | (have := follI_01 S i (S 50 16 - i - 1).toNat; have := heldI_01 S i (S 50 27).toNat; omega)⟩ (fun c_77 => ?_) (fun c_77 => ?_)
            · refine e_iinc (ls2 := [_, _, _, _, _]) dX11_thin_103 rfl (Nat.le_of_ble_eq_true rfl) rfl ?_
              refine e_goto (tgt := 9) dX11_thin_106 (by decide) ?_
              refine e_drop (k := 3) (ls2 := [_, _, _, _, _]) rfl ?_
              refine e_drop (k := 4) (ls2 := [_, _, _, _, _]) rfl ?_
              exact ih (k + 1) _ _ _ (by omega) (by simp only [thF, ← h2, ← h3]; split <;> first | rfl | (exfalso; omega)) (by omega) (by omega) (by first | exact hS | exact WR.up hS ⟨(show (0 : Int) ≤ 1 by decide), (show (1 : Int) ≤ 1 by decide)⟩)
            · refine e_aload_n dX11_thin_80 rfl ?_
              refine e_iload_n dX11_thin_81 rfl ?_
              refine e_cV (as := [_]) (ci := 11) dX11_thin_82 k_X11_isHeld l_X11_246 i_X11_isHeld v_X11_isHeld hT rfl (by decide) ⟨_, _, rfl⟩ rfl rfl rfl rfl (Nat.le_of_ble_eq_true rfl) ⟨by decide, by decide⟩ (Nat.le_of_ble_eq_true rfl) (by decide) (m_isHeld hT hS ⟨by omega, by omega⟩) ?_
              refine e_if_ne (tgt := 103) dX11_thin_85 (by decide) ⟨by first | omega | (have := follI_01 S i (S 50 16 - i - 1).toNat; have := heldI_01 S i (S 50 27).toNat; omega), by first | omega | (have := follI_01 S i (S 50 16 - i - 1).toNat; have := heldI_01 S i (S 50 27).toNat; omega)⟩ (fun c_85 => ?_) (fun c_85 => ?_)
              · refine e_iinc (ls2 := [_, _, _, _, _]) dX11_thin_103 rfl (Nat.le_of_ble_eq_true rfl) rfl ?_
                refine e_goto (tgt := 9) dX11_thin_106 (by decide) ?_
                refine e_drop (k := 3) (ls2 := [_, _, _, _, _]) rfl ?_
                refine e_drop (k := 4) (ls2 := [_, _, _, _, _]) rfl ?_
                exact ih (k + 1) _ _ _ (by omega) (by simp only [thF, ← h2, ← h3]; split <;> first | rfl | (exfalso; omega)) (by omega) (by omega) (by first | exact hS | exact WR.up hS ⟨(show (0 : Int) ≤ 1 by decide), (show (1 : Int) ≤ 1 by decide)⟩)
              · refine e_iload dX11_thin_88 rfl ?_
                refine e_if_eq (tgt := 103) dX11_thin_90 (by decide) ⟨by decide, by decide⟩ (fun c_90 => ?_) (fun c_90 => ?_)
                · refine e_iinc (ls2 := [_, _, _, _, _]) dX11_thin_103 rfl (Nat.le_of_ble_eq_true rfl) rfl ?_
                  refine e_goto (tgt := 9) dX11_thin_106 (by decide) ?_
                  refine e_drop (k := 3) (ls2 := [_, _, _, _, _]) rfl ?_
                  refine e_drop (k := 4) (ls2 := [_, _, _, _, _]) rfl ?_
                  exact ih (k + 1) _ _ _ (by omega) (by simp only [thF, ← h2, ← h3]; split <;> first | rfl | (exfalso; omega)) (by omega) (by omega) (by first | exact hS | exact WR.up hS ⟨(show (0 : Int) ≤ 1 by decide), (show (1 : Int) ≤ 1 by decide)⟩)
                · exact absurd c_90 (by decide)
          · refine e_iconst dX11_thin_64 ?_
            refine e_goto (tgt := 69) dX11_thin_65 (by decide) ?_
            refine e_istore (ls2 := [_, _, _, _, _]) dX11_thin_69 (Nat.le_of_ble_eq_true rfl) rfl ?_
            refine e_aload_n dX11_thin_71 rfl ?_
            refine m_getR (kt := (20, 120, 22)) (by decide) dX11_thin_72 f_X11_59 hT rfl (Nat.succ_ne_zero _) (fun q_72 h_72 => ?_)
            refine e_iload_n dX11_thin_75 rfl ?_
            refine m_iaw (by decide) (rg_22 hS) dX11_thin_76 h_72 (by omega) (by omega) (fun g_76 => ?_)
            refine e_if_ne (tgt := 103) dX11_thin_77 (by decide) ⟨by first | omega | (have := follI_01 S i (S 50 16 - i - 1).toNat; have := heldI_01 S i (S 50 27).toNat; omega), by first | omega | (have := follI_01 S i (S 50 16 - i - 1).toNat; have := heldI_01 S i (S 50 27).toNat; omega)⟩ (fun c_77 => ?_) (fun c_77 => ?_)
            · refine e_iinc (ls2 := [_, _, _, _, _]) dX11_thin_103 rfl (Nat.le_of_ble_eq_true rfl) rfl ?_
              refine e_goto (tgt := 9) dX11_thin_106 (by decide) ?_
              refine e_drop (k := 3) (ls2 := [_, _, _, _, _]) rfl ?_
              refine e_drop (k := 4) (ls2 := [_, _, _, _, _]) rfl ?_
              exact ih (k + 1) _ _ _ (by omega) (by simp only [thF, ← h2, ← h3]; split <;> first | rfl | (exfalso; omega)) (by omega) (by omega) (by first | exact hS | exact WR.up hS ⟨(show (0 : Int) ≤ 1 by decide), (show (1 : Int) ≤ 1 by decide)⟩)
            · refine e_aload_n dX11_thin_80 rfl ?_
              refine e_iload_n dX11_thin_81 rfl ?_
              refine e_cV (as := [_]) (ci := 11) dX11_thin_82 k_X11_isHeld l_X11_246 i_X11_isHeld v_X11_isHeld hT rfl (by decide) ⟨_, _, rfl⟩ rfl rfl rfl rfl (Nat.le_of_ble_eq_true rfl) ⟨by decide, by decide⟩ (Nat.le_of_ble_eq_true rfl) (by decide) (m_isHeld hT hS ⟨by omega, by omega⟩) ?_
              refine e_if_ne (tgt := 103) dX11_thin_85 (by decide) ⟨by first | omega | (have := follI_01 S i (S 50 16 - i - 1).toNat; have := heldI_01 S i (S 50 27).toNat; omega), by first | omega | (have := follI_01 S i (S 50 16 - i - 1).toNat; have := heldI_01 S i (S 50 27).toNat; omega)⟩ (fun c_85 => ?_) (fun c_85 => ?_)
              · refine e_iinc (ls2 := [_, _, _, _, _]) dX11_thin_103 rfl (Nat.le_of_ble_eq_true rfl) rfl ?_
                refine e_goto (tgt := 9) dX11_thin_106 (by decide) ?_
                refine e_drop (k := 3) (ls2 := [_, _, _, _, _]) rfl ?_
                refine e_drop (k := 4) (ls2 := [_, _, _, _, _]) rfl ?_
                exact ih (k + 1) _ _ _ (by omega) (by simp only [thF, ← h2, ← h3]; split <;> first | rfl | (exfalso; omega)) (by omega) (by omega) (by first | exact hS | exact WR.up hS ⟨(show (0 : Int) ≤ 1 by decide), (show (1 : Int) ≤ 1 by decide)⟩)
              · refine e_iload dX11_thin_88 rfl ?_
                refine e_if_eq (tgt := 103) dX11_thin_90 (by decide) ⟨by decide, by decide⟩ (fun c_90 => ?_) (fun c_90 => ?_)
                · exact absurd c_90 (by decide)
                · refine e_aload_n dX11_thin_93 rfl ?_
                  refine m_getR (kt := (20, 120, 22)) (by decide) dX11_thin_94 f_X11_59 hT rfl (Nat.succ_ne_zero _) (fun q_94 h_94 => ?_)
                  refine e_iload_n dX11_thin_97 rfl ?_
                  refine e_iconst dX11_thin_98 ?_
                  refine m_iast (by decide) dX11_thin_99 h_94 (by omega) (by omega) ⟨by first | omega | (have := follI_01 S i (S 50 16 - i - 1).toNat; have := heldI_01 S i (S 50 27).toNat; omega), by first | omega | (have := follI_01 S i (S 50 16 - i - 1).toNat; have := heldI_01 S i (S 50 27).toNat; omega)⟩ ?_
                  refine e_iinc (ls2 := [_, _, _, _, _]) dX11_thin_100 rfl (Nat.le_of_ble_eq_true rfl) rfl ?_
                  refine e_iinc (ls2 := [_, _, _, _, _]) dX11_thin_103 rfl (Nat.le_of_ble_eq_true rfl) rfl ?_
                  refine e_goto (tgt := 9) dX11_thin_106 (by decide) ?_
                  refine e_drop (k := 3) (ls2 := [_, _, _, _, _]) rfl ?_
                  refine e_drop (k := 4) (ls2 := [_, _, _, _, _]) rfl ?_
                  exact ih (k + 1) _ _ _ (by omega) (by simp only [thF, ← h2, ← h3]; split <;> first | rfl | (exfalso; omega)) (by omega) (by omega) (by first | exact hS | exact WR.up hS ⟨(show (0 : Int) ≤ 1 by decide), (show (1 : Int) ≤ 1 by decide)⟩)
      · refine e_aload_n dX11_thin_35 rfl ?_
        refine e_iload_n dX11_thin_36 rfl ?_
        refine e_cV (as := [_]) (ci := 11) dX11_thin_37 k_X11_isFollowed l_X11_243 i_X11_isFollowed v_X11_isFollowed hT rfl (by decide) ⟨_, _, rfl⟩ rfl rfl rfl rfl (Nat.le_of_ble_eq_true rfl) ⟨by decide, by decide⟩ (Nat.le_of_ble_eq_true rfl) (by decide) (m_isFollowed hT hS ⟨by omega, by omega⟩) ?_
        refine e_if_ne (tgt := 64) dX11_thin_40 (by decide) ⟨by first | omega | (have := follI_01 S i (S 50 16 - i - 1).toNat; have := heldI_01 S i (S 50 27).toNat; omega), by first | omega | (have := follI_01 S i (S 50 16 - i - 1).toNat; have := heldI_01 S i (S 50 27).toNat; omega)⟩ (fun c_40 => ?_) (fun c_40 => ?_)
        · refine e_iconst dX11_thin_64 ?_
          refine e_goto (tgt := 69) dX11_thin_65 (by decide) ?_
          refine e_istore (ls2 := [_, _, _, _, _]) dX11_thin_69 (Nat.le_of_ble_eq_true rfl) rfl ?_
          refine e_aload_n dX11_thin_71 rfl ?_
          refine m_getR (kt := (20, 120, 22)) (by decide) dX11_thin_72 f_X11_59 hT rfl (Nat.succ_ne_zero _) (fun q_72 h_72 => ?_)
          refine e_iload_n dX11_thin_75 rfl ?_
          refine m_iaw (by decide) (rg_22 hS) dX11_thin_76 h_72 (by omega) (by omega) (fun g_76 => ?_)
          refine e_if_ne (tgt := 103) dX11_thin_77 (by decide) ⟨by first | omega | (have := follI_01 S i (S 50 16 - i - 1).toNat; have := heldI_01 S i (S 50 27).toNat; omega), by first | omega | (have := follI_01 S i (S 50 16 - i - 1).toNat; have := heldI_01 S i (S 50 27).toNat; omega)⟩ (fun c_77 => ?_) (fun c_77 => ?_)
          · refine e_iinc (ls2 := [_, _, _, _, _]) dX11_thin_103 rfl (Nat.le_of_ble_eq_true rfl) rfl ?_
            refine e_goto (tgt := 9) dX11_thin_106 (by decide) ?_
            refine e_drop (k := 3) (ls2 := [_, _, _, _, _]) rfl ?_
            refine e_drop (k := 4) (ls2 := [_, _, _, _, _]) rfl ?_
            exact ih (k + 1) _ _ _ (by omega) (by simp only [thF, ← h2, ← h3]; split <;> first | rfl | (exfalso; omega)) (by omega) (by omega) (by first | exact hS | exact WR.up hS ⟨(show (0 : Int) ≤ 1 by decide), (show (1 : Int) ≤ 1 by decide)⟩)
          · refine e_aload_n dX11_thin_80 rfl ?_
            refine e_iload_n dX11_thin_81 rfl ?_
            refine e_cV (as := [_]) (ci := 11) dX11_thin_82 k_X11_isHeld l_X11_246 i_X11_isHeld v_X11_isHeld hT rfl (by decide) ⟨_, _, rfl⟩ rfl rfl rfl rfl (Nat.le_of_ble_eq_true rfl) ⟨by decide, by decide⟩ (Nat.le_of_ble_eq_true rfl) (by decide) (m_isHeld hT hS ⟨by omega, by omega⟩) ?_
            refine e_if_ne (tgt := 103) dX11_thin_85 (by decide) ⟨by first | omega | (have := follI_01 S i (S 50 16 - i - 1).toNat; have := heldI_01 S i (S 50 27).toNat; omega), by first | omega | (have := follI_01 S i (S 50 16 - i - 1).toNat; have := heldI_01 S i (S 50 27).toNat; omega)⟩ (fun c_85 => ?_) (fun c_85 => ?_)
            · refine e_iinc (ls2 := [_, _, _, _, _]) dX11_thin_103 rfl (Nat.le_of_ble_eq_true rfl) rfl ?_
              refine e_goto (tgt := 9) dX11_thin_106 (by decide) ?_
              refine e_drop (k := 3) (ls2 := [_, _, _, _, _]) rfl ?_
              refine e_drop (k := 4) (ls2 := [_, _, _, _, _]) rfl ?_
              exact ih (k + 1) _ _ _ (by omega) (by simp only [thF, ← h2, ← h3]; split <;> first | rfl | (exfalso; omega)) (by omega) (by omega) (by first | exact hS | exact WR.up hS ⟨(show (0 : Int) ≤ 1 by decide), (show (1 : Int) ≤ 1 by decide)⟩)
            · refine e_iload dX11_thin_88 rfl ?_
              refine e_if_eq (tgt := 103) dX11_thin_90 (by decide) ⟨by decide, by decide⟩ (fun c_90 => ?_) (fun c_90 => ?_)
              · exact absurd c_90 (by decide)
              · refine e_aload_n dX11_thin_93 rfl ?_
                refine m_getR (kt := (20, 120, 22)) (by decide) dX11_thin_94 f_X11_59 hT rfl (Nat.succ_ne_zero _) (fun q_94 h_94 => ?_)
                refine e_iload_n dX11_thin_97 rfl ?_
                refine e_iconst dX11_thin_98 ?_
                refine m_iast (by decide) dX11_thin_99 h_94 (by omega) (by omega) ⟨by first | omega | (have := follI_01 S i (S 50 16 - i - 1).toNat; have := heldI_01 S i (S 50 27).toNat; omega), by first | omega | (have := follI_01 S i (S 50 16 - i - 1).toNat; have := heldI_01 S i (S 50 27).toNat; omega)⟩ ?_
                refine e_iinc (ls2 := [_, _, _, _, _]) dX11_thin_100 rfl (Nat.le_of_ble_eq_true rfl) rfl ?_
                refine e_iinc (ls2 := [_, _, _, _, _]) dX11_thin_103 rfl (Nat.le_of_ble_eq_true rfl) rfl ?_
                refine e_goto (tgt := 9) dX11_thin_106 (by decide) ?_
                refine e_drop (k := 3) (ls2 := [_, _, _, _, _]) rfl ?_
                refine e_drop (k := 4) (ls2 := [_, _, _, _, _]) rfl ?_
                exact ih (k + 1) _ _ _ (by omega) (by simp only [thF, ← h2, ← h3]; split <;> first | rfl | (exfalso; omega)) (by omega) (by omega) (by first | exact hS | exact WR.up hS ⟨(show (0 : Int) ≤ 1 by decide), (show (1 : Int) ≤ 1 by decide)⟩)
        · refine e_iload_n dX11_thin_43 rfl ?_
          refine e_sipush dX11_thin_44 (by decide) ?_
          refine e_icmp_lt (tgt := 68) dX11_thin_47 (by decide) ⟨by first | omega | (have := follI_01 S i (S 50 16 - i - 1).toNat; have := heldI_01 S i (S 50 27).toNat; omega), by first | omega | (have := follI_01 S i (S 50 16 - i - 1).toNat; have := heldI_01 S i (S 50 27).toNat; omega)⟩ ⟨by omega, by omega⟩ (fun c_47 => ?_) (fun c_47 => ?_)
          · refine e_iconst dX11_thin_68 ?_
            refine e_istore (ls2 := [_, _, _, _, _]) dX11_thin_69 (Nat.le_of_ble_eq_true rfl) rfl ?_
            refine e_aload_n dX11_thin_71 rfl ?_
            refine m_getR (kt := (20, 120, 22)) (by decide) dX11_thin_72 f_X11_59 hT rfl (Nat.succ_ne_zero _) (fun q_72 h_72 => ?_)
            refine e_iload_n dX11_thin_75 rfl ?_
            refine m_iaw (by decide) (rg_22 hS) dX11_thin_76 h_72 (by omega) (by omega) (fun g_76 => ?_)
            refine e_if_ne (tgt := 103) dX11_thin_77 (by decide) ⟨by first | omega | (have := follI_01 S i (S 50 16 - i - 1).toNat; have := heldI_01 S i (S 50 27).toNat; omega), by first | omega | (have := follI_01 S i (S 50 16 - i - 1).toNat; have := heldI_01 S i (S 50 27).toNat; omega)⟩ (fun c_77 => ?_) (fun c_77 => ?_)
            · refine e_iinc (ls2 := [_, _, _, _, _]) dX11_thin_103 rfl (Nat.le_of_ble_eq_true rfl) rfl ?_
              refine e_goto (tgt := 9) dX11_thin_106 (by decide) ?_
              refine e_drop (k := 3) (ls2 := [_, _, _, _, _]) rfl ?_
              refine e_drop (k := 4) (ls2 := [_, _, _, _, _]) rfl ?_
              exact ih (k + 1) _ _ _ (by omega) (by simp only [thF, ← h2, ← h3]; split <;> first | rfl | (exfalso; omega)) (by omega) (by omega) (by first | exact hS | exact WR.up hS ⟨(show (0 : Int) ≤ 1 by decide), (show (1 : Int) ≤ 1 by decide)⟩)
            · refine e_aload_n dX11_thin_80 rfl ?_
              refine e_iload_n dX11_thin_81 rfl ?_
              refine e_cV (as := [_]) (ci := 11) dX11_thin_82 k_X11_isHeld l_X11_246 i_X11_isHeld v_X11_isHeld hT rfl (by decide) ⟨_, _, rfl⟩ rfl rfl rfl rfl (Nat.le_of_ble_eq_true rfl) ⟨by decide, by decide⟩ (Nat.le_of_ble_eq_true rfl) (by decide) (m_isHeld hT hS ⟨by omega, by omega⟩) ?_
              refine e_if_ne (tgt := 103) dX11_thin_85 (by decide) ⟨by first | omega | (have := follI_01 S i (S 50 16 - i - 1).toNat; have := heldI_01 S i (S 50 27).toNat; omega), by first | omega | (have := follI_01 S i (S 50 16 - i - 1).toNat; have := heldI_01 S i (S 50 27).toNat; omega)⟩ (fun c_85 => ?_) (fun c_85 => ?_)
              · refine e_iinc (ls2 := [_, _, _, _, _]) dX11_thin_103 rfl (Nat.le_of_ble_eq_true rfl) rfl ?_
                refine e_goto (tgt := 9) dX11_thin_106 (by decide) ?_
                refine e_drop (k := 3) (ls2 := [_, _, _, _, _]) rfl ?_
                refine e_drop (k := 4) (ls2 := [_, _, _, _, _]) rfl ?_
                exact ih (k + 1) _ _ _ (by omega) (by simp only [thF, ← h2, ← h3]; split <;> first | rfl | (exfalso; omega)) (by omega) (by omega) (by first | exact hS | exact WR.up hS ⟨(show (0 : Int) ≤ 1 by decide), (show (1 : Int) ≤ 1 by decide)⟩)
              · refine e_iload dX11_thin_88 rfl ?_
                refine e_if_eq (tgt := 103) dX11_thin_90 (by decide) ⟨by decide, by decide⟩ (fun c_90 => ?_) (fun c_90 => ?_)
                · refine e_iinc (ls2 := [_, _, _, _, _]) dX11_thin_103 rfl (Nat.le_of_ble_eq_true rfl) rfl ?_
                  refine e_goto (tgt := 9) dX11_thin_106 (by decide) ?_
                  refine e_drop (k := 3) (ls2 := [_, _, _, _, _]) rfl ?_
                  refine e_drop (k := 4) (ls2 := [_, _, _, _, _]) rfl ?_
                  exact ih (k + 1) _ _ _ (by omega) (by simp only [thF, ← h2, ← h3]; split <;> first | rfl | (exfalso; omega)) (by omega) (by omega) (by first | exact hS | exact WR.up hS ⟨(show (0 : Int) ≤ 1 by decide), (show (1 : Int) ≤ 1 by decide)⟩)
                · exact absurd c_90 (by decide)
          · refine e_aload_n dX11_thin_50 rfl ?_
            refine e_aload_n dX11_thin_51 rfl ?_
            refine m_getR (kt := (20, 120, 17)) (by decide) dX11_thin_52 f_X11_44 hT rfl (Nat.succ_ne_zero _) (fun q_52 h_52 => ?_)
            refine e_iload_n dX11_thin_55 rfl ?_
            refine m_iaw (by decide) (rg_17 hS) dX11_thin_56 h_52 (by omega) (by omega) (fun g_56 => ?_)
            refine e_cV (as := [_]) (ci := 11) dX11_thin_57 k_X11_latestOf l_X11_184 i_X11_latestOf v_X11_latestOf hT rfl (by decide) ⟨_, _, rfl⟩ rfl rfl rfl rfl (Nat.le_of_ble_eq_true rfl) ⟨by decide, by decide⟩ (Nat.le_of_ble_eq_true rfl) (by decide) (m_latestOf hT hS ⟨by omega, by omega⟩) ?_
            have g_57 := latestOf_rg hS (S 17 i)
            refine e_iload_n dX11_thin_60 rfl ?_
            refine e_icmp_eq (tgt := 68) dX11_thin_61 (by decide) ⟨by first | omega | (have := follI_01 S i (S 50 16 - i - 1).toNat; have := heldI_01 S i (S 50 27).toNat; omega), by first | omega | (have := follI_01 S i (S 50 16 - i - 1).toNat; have := heldI_01 S i (S 50 27).toNat; omega)⟩ ⟨by omega, by omega⟩ (fun c_61 => ?_) (fun c_61 => ?_)
            · refine e_iconst dX11_thin_68 ?_
              refine e_istore (ls2 := [_, _, _, _, _]) dX11_thin_69 (Nat.le_of_ble_eq_true rfl) rfl ?_
              refine e_aload_n dX11_thin_71 rfl ?_
              refine m_getR (kt := (20, 120, 22)) (by decide) dX11_thin_72 f_X11_59 hT rfl (Nat.succ_ne_zero _) (fun q_72 h_72 => ?_)
              refine e_iload_n dX11_thin_75 rfl ?_
              refine m_iaw (by decide) (rg_22 hS) dX11_thin_76 h_72 (by omega) (by omega) (fun g_76 => ?_)
              refine e_if_ne (tgt := 103) dX11_thin_77 (by decide) ⟨by first | omega | (have := follI_01 S i (S 50 16 - i - 1).toNat; have := heldI_01 S i (S 50 27).toNat; omega), by first | omega | (have := follI_01 S i (S 50 16 - i - 1).toNat; have := heldI_01 S i (S 50 27).toNat; omega)⟩ (fun c_77 => ?_) (fun c_77 => ?_)
              · refine e_iinc (ls2 := [_, _, _, _, _]) dX11_thin_103 rfl (Nat.le_of_ble_eq_true rfl) rfl ?_
                refine e_goto (tgt := 9) dX11_thin_106 (by decide) ?_
                refine e_drop (k := 3) (ls2 := [_, _, _, _, _]) rfl ?_
                refine e_drop (k := 4) (ls2 := [_, _, _, _, _]) rfl ?_
                exact ih (k + 1) _ _ _ (by omega) (by simp only [thF, ← h2, ← h3]; split <;> first | rfl | (exfalso; omega)) (by omega) (by omega) (by first | exact hS | exact WR.up hS ⟨(show (0 : Int) ≤ 1 by decide), (show (1 : Int) ≤ 1 by decide)⟩)
              · refine e_aload_n dX11_thin_80 rfl ?_
                refine e_iload_n dX11_thin_81 rfl ?_
                refine e_cV (as := [_]) (ci := 11) dX11_thin_82 k_X11_isHeld l_X11_246 i_X11_isHeld v_X11_isHeld hT rfl (by decide) ⟨_, _, rfl⟩ rfl rfl rfl rfl (Nat.le_of_ble_eq_true rfl) ⟨by decide, by decide⟩ (Nat.le_of_ble_eq_true rfl) (by decide) (m_isHeld hT hS ⟨by omega, by omega⟩) ?_
                refine e_if_ne (tgt := 103) dX11_thin_85 (by decide) ⟨by first | omega | (have := follI_01 S i (S 50 16 - i - 1).toNat; have := heldI_01 S i (S 50 27).toNat; omega), by first | omega | (have := follI_01 S i (S 50 16 - i - 1).toNat; have := heldI_01 S i (S 50 27).toNat; omega)⟩ (fun c_85 => ?_) (fun c_85 => ?_)
                · refine e_iinc (ls2 := [_, _, _, _, _]) dX11_thin_103 rfl (Nat.le_of_ble_eq_true rfl) rfl ?_
                  refine e_goto (tgt := 9) dX11_thin_106 (by decide) ?_
                  refine e_drop (k := 3) (ls2 := [_, _, _, _, _]) rfl ?_
                  refine e_drop (k := 4) (ls2 := [_, _, _, _, _]) rfl ?_
                  exact ih (k + 1) _ _ _ (by omega) (by simp only [thF, ← h2, ← h3]; split <;> first | rfl | (exfalso; omega)) (by omega) (by omega) (by first | exact hS | exact WR.up hS ⟨(show (0 : Int) ≤ 1 by decide), (show (1 : Int) ≤ 1 by decide)⟩)
                · refine e_iload dX11_thin_88 rfl ?_
                  refine e_if_eq (tgt := 103) dX11_thin_90 (by decide) ⟨by decide, by decide⟩ (fun c_90 => ?_) (fun c_90 => ?_)
                  · refine e_iinc (ls2 := [_, _, _, _, _]) dX11_thin_103 rfl (Nat.le_of_ble_eq_true rfl) rfl ?_
                    refine e_goto (tgt := 9) dX11_thin_106 (by decide) ?_
                    refine e_drop (k := 3) (ls2 := [_, _, _, _, _]) rfl ?_
                    refine e_drop (k := 4) (ls2 := [_, _, _, _, _]) rfl ?_
                    exact ih (k + 1) _ _ _ (by omega) (by simp only [thF, ← h2, ← h3]; split <;> first | rfl | (exfalso; omega)) (by omega) (by omega) (by first | exact hS | exact WR.up hS ⟨(show (0 : Int) ≤ 1 by decide), (show (1 : Int) ≤ 1 by decide)⟩)
                  · exact absurd c_90 (by decide)
            · refine e_iconst dX11_thin_64 ?_
              refine e_goto (tgt := 69) dX11_thin_65 (by decide) ?_
              refine e_istore (ls2 := [_, _, _, _, _]) dX11_thin_69 (Nat.le_of_ble_eq_true rfl) rfl ?_
              refine e_aload_n dX11_thin_71 rfl ?_
              refine m_getR (kt := (20, 120, 22)) (by decide) dX11_thin_72 f_X11_59 hT rfl (Nat.succ_ne_zero _) (fun q_72 h_72 => ?_)
              refine e_iload_n dX11_thin_75 rfl ?_
              refine m_iaw (by decide) (rg_22 hS) dX11_thin_76 h_72 (by omega) (by omega) (fun g_76 => ?_)
              refine e_if_ne (tgt := 103) dX11_thin_77 (by decide) ⟨by first | omega | (have := follI_01 S i (S 50 16 - i - 1).toNat; have := heldI_01 S i (S 50 27).toNat; omega), by first | omega | (have := follI_01 S i (S 50 16 - i - 1).toNat; have := heldI_01 S i (S 50 27).toNat; omega)⟩ (fun c_77 => ?_) (fun c_77 => ?_)
              · refine e_iinc (ls2 := [_, _, _, _, _]) dX11_thin_103 rfl (Nat.le_of_ble_eq_true rfl) rfl ?_
                refine e_goto (tgt := 9) dX11_thin_106 (by decide) ?_
                refine e_drop (k := 3) (ls2 := [_, _, _, _, _]) rfl ?_
                refine e_drop (k := 4) (ls2 := [_, _, _, _, _]) rfl ?_
                exact ih (k + 1) _ _ _ (by omega) (by simp only [thF, ← h2, ← h3]; split <;> first | rfl | (exfalso; omega)) (by omega) (by omega) (by first | exact hS | exact WR.up hS ⟨(show (0 : Int) ≤ 1 by decide), (show (1 : Int) ≤ 1 by decide)⟩)
              · refine e_aload_n dX11_thin_80 rfl ?_
                refine e_iload_n dX11_thin_81 rfl ?_
                refine e_cV (as := [_]) (ci := 11) dX11_thin_82 k_X11_isHeld l_X11_246 i_X11_isHeld v_X11_isHeld hT rfl (by decide) ⟨_, _, rfl⟩ rfl rfl rfl rfl (Nat.le_of_ble_eq_true rfl) ⟨by decide, by decide⟩ (Nat.le_of_ble_eq_true rfl) (by decide) (m_isHeld hT hS ⟨by omega, by omega⟩) ?_
                refine e_if_ne (tgt := 103) dX11_thin_85 (by decide) ⟨by first | omega | (have := follI_01 S i (S 50 16 - i - 1).toNat; have := heldI_01 S i (S 50 27).toNat; omega), by first | omega | (have := follI_01 S i (S 50 16 - i - 1).toNat; have := heldI_01 S i (S 50 27).toNat; omega)⟩ (fun c_85 => ?_) (fun c_85 => ?_)
                · refine e_iinc (ls2 := [_, _, _, _, _]) dX11_thin_103 rfl (Nat.le_of_ble_eq_true rfl) rfl ?_
                  refine e_goto (tgt := 9) dX11_thin_106 (by decide) ?_
                  refine e_drop (k := 3) (ls2 := [_, _, _, _, _]) rfl ?_
                  refine e_drop (k := 4) (ls2 := [_, _, _, _, _]) rfl ?_
                  exact ih (k + 1) _ _ _ (by omega) (by simp only [thF, ← h2, ← h3]; split <;> first | rfl | (exfalso; omega)) (by omega) (by omega) (by first | exact hS | exact WR.up hS ⟨(show (0 : Int) ≤ 1 by decide), (show (1 : Int) ≤ 1 by decide)⟩)
                · refine e_iload dX11_thin_88 rfl ?_
                  refine e_if_eq (tgt := 103) dX11_thin_90 (by decide) ⟨by decide, by decide⟩ (fun c_90 => ?_) (fun c_90 => ?_)
                  · exact absurd c_90 (by decide)
                  · refine e_aload_n dX11_thin_93 rfl ?_
                    refine m_getR (kt := (20, 120, 22)) (by decide) dX11_thin_94 f_X11_59 hT rfl (Nat.succ_ne_zero _) (fun q_94 h_94 => ?_)
                    refine e_iload_n dX11_thin_97 rfl ?_
                    refine e_iconst dX11_thin_98 ?_
                    refine m_iast (by decide) dX11_thin_99 h_94 (by omega) (by omega) ⟨by first | omega | (have := follI_01 S i (S 50 16 - i - 1).toNat; have := heldI_01 S i (S 50 27).toNat; omega), by first | omega | (have := follI_01 S i (S 50 16 - i - 1).toNat; have := heldI_01 S i (S 50 27).toNat; omega)⟩ ?_
                    refine e_iinc (ls2 := [_, _, _, _, _]) dX11_thin_100 rfl (Nat.le_of_ble_eq_true rfl) rfl ?_
                    refine e_iinc (ls2 := [_, _, _, _, _]) dX11_thin_103 rfl (Nat.le_of_ble_eq_true rfl) rfl ?_
                    refine e_goto (tgt := 9) dX11_thin_106 (by decide) ?_
                    refine e_drop (k := 3) (ls2 := [_, _, _, _, _]) rfl ?_
                    refine e_drop (k := 4) (ls2 := [_, _, _, _, _]) rfl ?_
                    exact ih (k + 1) _ _ _ (by omega) (by simp only [thF, ← h2, ← h3]; split <;> first | rfl | (exfalso; omega)) (by omega) (by omega) (by first | exact hS | exact WR.up hS ⟨(show (0 : Int) ≤ 1 by decide), (show (1 : Int) ≤ 1 by decide)⟩)
set_option maxRecDepth 20000 in
set_option maxHeartbeats 4000000 in
theorem m_thin {K : q_K} {M C : q_S} {a : Nat} (hT : K a = (12, 0, 50)) (hW : WR M) (hP : PMI M) : q_E mX11_thin 0 [some (q_R a), none, none, none, none] [] K M C 0 0 (e_is (some (q_I (thinF M).1)) K (thinF M).2 C) := by
  refine e_aload_n dX11_thin_0 rfl ?_
  refine e_iconst dX11_thin_1 ?_
  refine m_putI (by decide) dX11_thin_2 f_X11_101 rfl hT ⟨by omega, by omega⟩ ?_
  refine e_iconst dX11_thin_5 ?_
  refine e_istore_n (ls2 := [_, _, _, _, _]) dX11_thin_6 (Nat.le_of_ble_eq_true rfl) rfl ?_
  refine e_iconst dX11_thin_7 ?_
  refine e_istore_n (ls2 := [_, _, _, _, _]) dX11_thin_8 (Nat.le_of_ble_eq_true rfl) rfl ?_
  exact m_thin_l hT hW hP (M 50 16).toNat 0 0 0 (thr M 0) (by omega) rfl rfl ⟨by decide, by decide⟩ (WR.up hW ⟨by decide, by decide⟩)
