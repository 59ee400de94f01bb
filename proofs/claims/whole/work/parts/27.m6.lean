set_option maxRecDepth 20000 in
set_option maxHeartbeats 4000000 in
theorem m_noted {K : q_K} {M C : q_S} {a : Nat} (hT : K a = (12, 0, 50)) (hW : WR M) {m : Int} (hm : q_iI m) : q_E mX11_noted 0 [some (q_R a), some (q_I m), none, none] [] K M C 0 0 (e_is (some (q_I (notedF M m).1)) K (notedF M m).2 C) := by
  have lp : ∀ (r k : Nat) (s c : Int) (S : q_S), k + r = 16 → s = ntF S m k → c = 16 * m + k → S = thr M 0 → WR S → S 50 41 = 0 → 0 ≤ m ∧ m ≤ 2 → q_E mX11_noted 23 [some (q_R a), some (q_I m), some (q_I s), some (q_I c)] [] K S C 0 0 (e_is (some (q_I (notedF M m).1)) K (notedF M m).2 C) := by
    intro r
    induction r with
    | zero =>
      intro k s c S h1 h2 h3 h4 hS h6 h7
      refine e_iload_n dX11_noted_23 rfl ?_
      refine e_bipush dX11_noted_24 (by decide) ?_
      refine e_iload_n dX11_noted_26 rfl ?_
      refine e_imul dX11_noted_27 ?_
      refine e_bipush dX11_noted_28 (by decide) ?_
      refine e_iadd dX11_noted_30 ?_
      refine e_icmp_ge (tgt := 64) dX11_noted_31 (by decide) ⟨by omega, by omega⟩ ⟨by omega, by omega⟩ (fun c_31 => ?_) (fun c_31 => ?_)
      · refine e_iload_n dX11_noted_64 rfl ?_
        exact e_iret dX11_noted_65 (Or.inl rfl) (e_ok (by unfold notedF; rw [if_neg (Classical.not_not.mpr h7)]; (have e9 : k = 16 := (by omega)); subst e9; rw [h2, h4]) (by unfold notedF; rw [if_neg (Classical.not_not.mpr h7)]; exact h4) rfl)
      · exfalso; omega
    | succ r ih =>
      intro k s c S h1 h2 h3 h4 hS h6 h7
      have g_t := ntF_rg S m k
      refine e_iload_n dX11_noted_23 rfl ?_
      refine e_bipush dX11_noted_24 (by decide) ?_
      refine e_iload_n dX11_noted_26 rfl ?_
      refine e_imul dX11_noted_27 ?_
      refine e_bipush dX11_noted_28 (by decide) ?_
      refine e_iadd dX11_noted_30 ?_
      refine e_icmp_ge (tgt := 64) dX11_noted_31 (by decide) ⟨by omega, by omega⟩ ⟨by omega, by omega⟩ (fun c_31 => ?_) (fun c_31 => ?_)
      · exfalso; omega
      · refine e_aload_n dX11_noted_34 rfl ?_
        refine m_getI (by decide) dX11_noted_35 f_X11_101 (Or.inl rfl) hT ?_
        have g_35 := rs_41 hS
        refine e_if_ne (tgt := 64) dX11_noted_38 (by decide) ⟨by omega, by omega⟩ (fun c_38 => ?_) (fun c_38 => ?_)
        · exfalso; omega
        · refine e_iload_n dX11_noted_41 rfl ?_
          refine e_aload_n dX11_noted_42 rfl ?_
          refine m_getR (kt := (20, 48, 8)) (by decide) dX11_noted_43 f_X11_29 hT rfl (Nat.succ_ne_zero _) (fun q_43 h_43 => ?_)
          refine e_iload_n dX11_noted_46 rfl ?_
          refine m_iaw (by decide) (rg_8 hS) dX11_noted_47 h_43 (by omega) (by omega) (fun g_47 => ?_)
          refine e_if_le (tgt := 55) dX11_noted_48 (by decide) ⟨by omega, by omega⟩ (fun c_48 => ?_) (fun c_48 => ?_)
          · refine e_iconst dX11_noted_55 ?_
            refine e_iadd dX11_noted_56 ?_
            refine e_istore_n (ls2 := [_, _, _, _]) dX11_noted_57 (Nat.le_of_ble_eq_true rfl) rfl ?_
            refine e_iinc (ls2 := [_, _, _, _]) dX11_noted_58 rfl (Nat.le_of_ble_eq_true rfl) rfl ?_
            refine e_goto (tgt := 23) dX11_noted_61 (by decide) ?_
            exact ih (k + 1) _ _ _ (by omega) (by simp only [ntF, ← h3]; split <;> omega) (by omega) h4 hS h6 h7
          · refine e_iconst dX11_noted_51 ?_
            refine e_goto (tgt := 56) dX11_noted_52 (by decide) ?_
            refine e_iadd dX11_noted_56 ?_
            refine e_istore_n (ls2 := [_, _, _, _]) dX11_noted_57 (Nat.le_of_ble_eq_true rfl) rfl ?_
            refine e_iinc (ls2 := [_, _, _, _]) dX11_noted_58 rfl (Nat.le_of_ble_eq_true rfl) rfl ?_
            refine e_goto (tgt := 23) dX11_noted_61 (by decide) ?_
            exact ih (k + 1) _ _ _ (by omega) (by simp only [ntF, ← h3]; split <;> omega) (by omega) h4 hS h6 h7
  by_cases hin : 0 ≤ m ∧ m ≤ 2
  · refine e_aload_n dX11_noted_0 rfl ?_
    refine e_iload_n dX11_noted_1 rfl ?_
    refine e_cS (as := [_]) dX11_noted_2 k_X11_isMachine l_X11_135 s_X11_isMachine rfl rfl rfl rfl (Nat.le_of_ble_eq_true rfl) ⟨by decide, by decide⟩ (Nat.le_of_ble_eq_true rfl) (by decide) (m_isMachine (by assumption)) ?_
    refine e_if_eq (tgt := 12) dX11_noted_5 (by decide) bi_iI (fun c_5 => ?_) (fun c_5 => ?_)
    · simp only [bi_z, Classical.not_not] at c_5
      exfalso; omega
    · simp only [bi_z, Classical.not_not] at c_5
      refine e_iconst dX11_noted_8 ?_
      refine e_goto (tgt := 13) dX11_noted_9 (by decide) ?_
      refine m_putI (by decide) dX11_noted_13 f_X11_101 rfl hT ⟨by omega, by omega⟩ ?_
      refine e_iconst dX11_noted_16 ?_
      refine e_istore_n (ls2 := [_, _, _, _]) dX11_noted_17 (Nat.le_of_ble_eq_true rfl) rfl ?_
      refine e_bipush dX11_noted_18 (by decide) ?_
      refine e_iload_n dX11_noted_20 rfl ?_
      refine e_imul dX11_noted_21 ?_
      refine e_istore_n (ls2 := [_, _, _, _]) dX11_noted_22 (Nat.le_of_ble_eq_true rfl) rfl ?_
      exact lp 16 0 0 _ _ (by omega) rfl (by omega) rfl (WR.up hW ⟨by decide, by decide⟩) rfl hin
  · refine e_aload_n dX11_noted_0 rfl ?_
    refine e_iload_n dX11_noted_1 rfl ?_
    refine e_cS (as := [_]) dX11_noted_2 k_X11_isMachine l_X11_135 s_X11_isMachine rfl rfl rfl rfl (Nat.le_of_ble_eq_true rfl) ⟨by decide, by decide⟩ (Nat.le_of_ble_eq_true rfl) (by decide) (m_isMachine (by assumption)) ?_
    refine e_if_eq (tgt := 12) dX11_noted_5 (by decide) bi_iI (fun c_5 => ?_) (fun c_5 => ?_)
    · simp only [bi_z, Classical.not_not] at c_5
      refine e_iconst dX11_noted_12 ?_
      refine m_putI (by decide) dX11_noted_13 f_X11_101 rfl hT ⟨by omega, by omega⟩ ?_
      refine e_iconst dX11_noted_16 ?_
      refine e_istore_n (ls2 := [_, _, _, _]) dX11_noted_17 (Nat.le_of_ble_eq_true rfl) rfl ?_
      refine e_bipush dX11_noted_18 (by decide) ?_
      refine e_iload_n dX11_noted_20 rfl ?_
      refine e_imul dX11_noted_21 ?_
      refine e_istore_n (ls2 := [_, _, _, _]) dX11_noted_22 (Nat.le_of_ble_eq_true rfl) rfl ?_
      refine e_iload_n dX11_noted_23 rfl ?_
      refine e_bipush dX11_noted_24 (by decide) ?_
      refine e_iload_n dX11_noted_26 rfl ?_
      refine e_imul dX11_noted_27 ?_
      refine e_bipush dX11_noted_28 (by decide) ?_
      refine e_iadd dX11_noted_30 ?_
      refine e_icmp_geA (tgt := 64) dX11_noted_31 (by decide) ?_ ?_
      · refine e_iload_n dX11_noted_64 rfl ?_
        exact e_iret dX11_noted_65 (Or.inl rfl) (e_ok (by unfold notedF; rw [if_pos hin]) (by unfold notedF; rw [if_pos hin]) rfl)
      · refine e_aload_n dX11_noted_34 rfl ?_
        refine m_getI (by decide) dX11_noted_35 f_X11_101 (Or.inl rfl) hT ?_
        simp only [q_us_ap, editsF_3, Int.reduceEq, Int.reduceNeg, false_and, and_false, and_self, if_true, if_false, true_and, and_true, ite_self]
        have g_35 := rs_41 hW
        refine e_if_ne (tgt := 64) dX11_noted_38 (by decide) ⟨by decide, by decide⟩ (fun c_38 => ?_) (fun c_38 => ?_)
        · refine e_iload_n dX11_noted_64 rfl ?_
          exact e_iret dX11_noted_65 (Or.inl rfl) (e_ok (by unfold notedF; rw [if_pos hin]) (by unfold notedF; rw [if_pos hin]) rfl)
        · exact absurd c_38 (by decide)
    · simp only [bi_z, Classical.not_not] at c_5
      exfalso; omega
set_option maxRecDepth 20000 in
set_option maxHeartbeats 4000000 in
theorem m_lose {K : q_K} {M C : q_S} {a : Nat} (hT : K a = (12, 0, 50)) (hW : WR M) {m : Int} (hm : q_iI m) : q_E mX11_lose 0 [some (q_R a), some (q_I m), none, none] [] K M C 0 0 (e_is (some (q_I (loseF M m).1)) K (loseF M m).2 C) := by
  have lp : ∀ (r k : Nat) (s c : Int) (S : q_S), k + r = (M 50 13).toNat → (s, S) = loF (thr M 0) m k → c = k → 0 ≤ s ∧ s ≤ k → WR S → S 50 41 = 0 → S 50 13 = M 50 13 → 0 ≤ m ∧ m ≤ 2 → M 50 13 ≤ 1000 → 0 ≤ M 50 13 → q_E mX11_lose 20 [some (q_R a), some (q_I m), some (q_I s), some (q_I c)] [] K S C 0 0 (e_is (some (q_I (loseF M m).1)) K (loseF M m).2 C) := by
    intro r
    induction r with
    | zero =>
      intro k s c S h1 h2 h3 h4 hS h6 h7 h8 h9 h10
      refine e_iload_n dX11_lose_20 rfl ?_
      refine e_aload_n dX11_lose_21 rfl ?_
      refine m_getI (by decide) dX11_lose_22 f_X11_129 (Or.inl rfl) hT ?_
      have g_22 := rs_13 hS
      refine e_icmp_ge (tgt := 73) dX11_lose_25 (by decide) ⟨by omega, by omega⟩ ⟨by omega, by omega⟩ (fun c_25 => ?_) (fun c_25 => ?_)
      · refine e_iload_n dX11_lose_73 rfl ?_
        exact e_iret dX11_lose_74 (Or.inl rfl) (e_ok (by unfold loseF; rw [if_neg (Classical.not_not.mpr h8), show (M 50 13).toNat = k by omega, ← h2]) (by unfold loseF; rw [if_neg (Classical.not_not.mpr h8), show (M 50 13).toNat = k by omega, ← h2]) rfl)
      · exfalso; omega
    | succ r ih =>
      intro k s c S h1 h2 h3 h4 hS h6 h7 h8 h9 h10
      refine e_iload_n dX11_lose_20 rfl ?_
      refine e_aload_n dX11_lose_21 rfl ?_
      refine m_getI (by decide) dX11_lose_22 f_X11_129 (Or.inl rfl) hT ?_
      have g_22 := rs_13 hS
      refine e_icmp_ge (tgt := 73) dX11_lose_25 (by decide) ⟨by omega, by omega⟩ ⟨by omega, by omega⟩ (fun c_25 => ?_) (fun c_25 => ?_)
      · exfalso; omega
      · refine e_aload_n dX11_lose_28 rfl ?_
        refine m_getI (by decide) dX11_lose_29 f_X11_101 (Or.inl rfl) hT ?_
        have g_29 := rs_41 hS
        refine e_if_ne (tgt := 73) dX11_lose_32 (by decide) ⟨by omega, by omega⟩ (fun c_32 => ?_) (fun c_32 => ?_)
        · exfalso; omega
        · refine e_aload_n dX11_lose_35 rfl ?_
          refine m_getR (kt := (20, 4000, 14)) (by decide) dX11_lose_36 f_X11_38 hT rfl (Nat.succ_ne_zero _) (fun q_36 h_36 => ?_)
          refine e_iload_n dX11_lose_39 rfl ?_
          refine m_iaw (by decide) (rg_14 hS) dX11_lose_40 h_36 (by omega) (by omega) (fun g_40 => ?_)
          refine e_bipush dX11_lose_41 (by decide) ?_
          refine e_idiv dX11_lose_43 ⟨by omega, by omega⟩ ⟨by omega, by omega⟩ ?_
          refine e_iload_n dX11_lose_44 rfl ?_
          refine e_icmp_ne (tgt := 67) dX11_lose_45 (by decide) ⟨by omega, by omega⟩ ⟨by omega, by omega⟩ (fun c_45 => ?_) (fun c_45 => ?_)
          · refine e_iinc (ls2 := [_, _, _, _]) dX11_lose_67 rfl (Nat.le_of_ble_eq_true rfl) rfl ?_
            refine e_goto (tgt := 20) dX11_lose_70 (by decide) ?_
            exact ih (k + 1) _ _ _ (by omega) (by simp only [loF, ← h2, ← h3]; split <;> first | rfl | (exfalso; omega)) (by omega) (by omega) (by first | exact hS | exact WR.up hS ⟨(show (0 : Int) ≤ 0 by decide), (show (0 : Int) ≤ 2100 by decide)⟩) h6 h7 h8 h9 h10
          · refine e_aload_n dX11_lose_48 rfl ?_
            refine m_getR (kt := (20, 4000, 15)) (by decide) dX11_lose_49 f_X11_41 hT rfl (Nat.succ_ne_zero _) (fun q_49 h_49 => ?_)
            refine e_iload_n dX11_lose_52 rfl ?_
            refine m_iaw (by decide) (rg_15 hS) dX11_lose_53 h_49 (by omega) (by omega) (fun g_53 => ?_)
            refine e_if_le (tgt := 67) dX11_lose_54 (by decide) ⟨by omega, by omega⟩ (fun c_54 => ?_) (fun c_54 => ?_)
            · refine e_iinc (ls2 := [_, _, _, _]) dX11_lose_67 rfl (Nat.le_of_ble_eq_true rfl) rfl ?_
              refine e_goto (tgt := 20) dX11_lose_70 (by decide) ?_
              exact ih (k + 1) _ _ _ (by omega) (by simp only [loF, ← h2, ← h3]; split <;> first | rfl | (exfalso; omega)) (by omega) (by omega) (by first | exact hS | exact WR.up hS ⟨(show (0 : Int) ≤ 0 by decide), (show (0 : Int) ≤ 2100 by decide)⟩) h6 h7 h8 h9 h10
            · refine e_aload_n dX11_lose_57 rfl ?_
              refine m_getR (kt := (20, 4000, 15)) (by decide) dX11_lose_58 f_X11_41 hT rfl (Nat.succ_ne_zero _) (fun q_58 h_58 => ?_)
              refine e_iload_n dX11_lose_61 rfl ?_
              refine e_iconst dX11_lose_62 ?_
              refine m_iast (by decide) dX11_lose_63 h_58 (by omega) (by omega) ⟨by omega, by omega⟩ ?_
              refine e_iinc (ls2 := [_, _, _, _]) dX11_lose_64 rfl (Nat.le_of_ble_eq_true rfl) rfl ?_
              refine e_iinc (ls2 := [_, _, _, _]) dX11_lose_67 rfl (Nat.le_of_ble_eq_true rfl) rfl ?_
              refine e_goto (tgt := 20) dX11_lose_70 (by decide) ?_
              exact ih (k + 1) _ _ _ (by omega) (by simp only [loF, ← h2, ← h3]; split <;> first | rfl | (exfalso; omega)) (by omega) (by omega) (by first | exact hS | exact WR.up hS ⟨(show (0 : Int) ≤ 0 by decide), (show (0 : Int) ≤ 2100 by decide)⟩) h6 h7 h8 h9 h10
  have g13 := rs_13 hW
  by_cases hin : 0 ≤ m ∧ m ≤ 2
  · refine e_aload_n dX11_lose_0 rfl ?_
    refine e_iload_n dX11_lose_1 rfl ?_
    refine e_cS (as := [_]) dX11_lose_2 k_X11_isMachine l_X11_135 s_X11_isMachine rfl rfl rfl rfl (Nat.le_of_ble_eq_true rfl) ⟨by decide, by decide⟩ (Nat.le_of_ble_eq_true rfl) (by decide) (m_isMachine (by assumption)) ?_
    refine e_if_eq (tgt := 12) dX11_lose_5 (by decide) bi_iI (fun c_5 => ?_) (fun c_5 => ?_)
    · simp only [bi_z, Classical.not_not] at c_5
      exfalso; omega
    · simp only [bi_z, Classical.not_not] at c_5
      refine e_iconst dX11_lose_8 ?_
      refine e_goto (tgt := 13) dX11_lose_9 (by decide) ?_
      refine m_putI (by decide) dX11_lose_13 f_X11_101 rfl hT ⟨by omega, by omega⟩ ?_
      refine e_iconst dX11_lose_16 ?_
      refine e_istore_n (ls2 := [_, _, _, _]) dX11_lose_17 (Nat.le_of_ble_eq_true rfl) rfl ?_
      refine e_iconst dX11_lose_18 ?_
      refine e_istore_n (ls2 := [_, _, _, _]) dX11_lose_19 (Nat.le_of_ble_eq_true rfl) rfl ?_
      exact lp (M 50 13).toNat 0 0 0 _ (by omega) rfl rfl ⟨by decide, by decide⟩ (WR.up hW ⟨by decide, by decide⟩) rfl rfl hin (by omega) (by omega)
  · refine e_aload_n dX11_lose_0 rfl ?_
    refine e_iload_n dX11_lose_1 rfl ?_
    refine e_cS (as := [_]) dX11_lose_2 k_X11_isMachine l_X11_135 s_X11_isMachine rfl rfl rfl rfl (Nat.le_of_ble_eq_true rfl) ⟨by decide, by decide⟩ (Nat.le_of_ble_eq_true rfl) (by decide) (m_isMachine (by assumption)) ?_
    refine e_if_eq (tgt := 12) dX11_lose_5 (by decide) bi_iI (fun c_5 => ?_) (fun c_5 => ?_)
    · simp only [bi_z, Classical.not_not] at c_5
      refine e_iconst dX11_lose_12 ?_
      refine m_putI (by decide) dX11_lose_13 f_X11_101 rfl hT ⟨by omega, by omega⟩ ?_
      refine e_iconst dX11_lose_16 ?_
      refine e_istore_n (ls2 := [_, _, _, _]) dX11_lose_17 (Nat.le_of_ble_eq_true rfl) rfl ?_
      refine e_iconst dX11_lose_18 ?_
      refine e_istore_n (ls2 := [_, _, _, _]) dX11_lose_19 (Nat.le_of_ble_eq_true rfl) rfl ?_
      refine e_iload_n dX11_lose_20 rfl ?_
      refine e_aload_n dX11_lose_21 rfl ?_
      refine m_getI (by decide) dX11_lose_22 f_X11_129 (Or.inl rfl) hT ?_
      simp only [q_us_ap, editsF_3, Int.reduceEq, Int.reduceNeg, false_and, and_false, and_self, if_true, if_false, true_and, and_true, ite_self]
      have g_22 := rs_13 hW
      refine e_icmp_ge (tgt := 73) dX11_lose_25 (by decide) ⟨by omega, by omega⟩ ⟨by omega, by omega⟩ (fun c_25 => ?_) (fun c_25 => ?_)
      · refine e_iload_n dX11_lose_73 rfl ?_
        exact e_iret dX11_lose_74 (Or.inl rfl) (e_ok (by unfold loseF; rw [if_pos hin]) (by unfold loseF; rw [if_pos hin]) rfl)
      · refine e_aload_n dX11_lose_28 rfl ?_
        refine m_getI (by decide) dX11_lose_29 f_X11_101 (Or.inl rfl) hT ?_
        simp only [q_us_ap, editsF_3, Int.reduceEq, Int.reduceNeg, false_and, and_false, and_self, if_true, if_false, true_and, and_true, ite_self]
        have g_29 := rs_41 hW
        refine e_if_ne (tgt := 73) dX11_lose_32 (by decide) ⟨by decide, by decide⟩ (fun c_32 => ?_) (fun c_32 => ?_)
        · refine e_iload_n dX11_lose_73 rfl ?_
          exact e_iret dX11_lose_74 (Or.inl rfl) (e_ok (by unfold loseF; rw [if_pos hin]) (by unfold loseF; rw [if_pos hin]) rfl)
        · exact absurd c_32 (by decide)
    · simp only [bi_z, Classical.not_not] at c_5
      exfalso; omega
set_option maxRecDepth 20000 in
set_option maxHeartbeats 4000000 in
theorem m_scan {K : q_K} {M C : q_S} {a : Nat} (hT : K a = (12, 0, 50)) (hW : WR M) {m : Int} (hm : q_iI m) (hnt : M 50 10 ≤ 900000) : q_E mX11_scan 0 [some (q_R a), some (q_I m), none, none] [] K M C 0 0 (e_is (some (q_I (scanF M m).1)) K (scanF M m).2 C) := by
  have lp : ∀ (r k : Nat) (s c : Int) (S : q_S), k + r = 16 → (s, S) = scF (thr M 0) m k → c = 16 * m + k → 0 ≤ s ∧ s ≤ k → WR S → S 50 41 = 0 → S 50 10 ≤ 900000 + k → 0 ≤ m ∧ m ≤ 2 → q_E mX11_scan 23 [some (q_R a), some (q_I m), some (q_I s), some (q_I c)] [] K S C 0 0 (e_is (some (q_I (scanF M m).1)) K (scanF M m).2 C) := by
    intro r
    induction r with
    | zero =>
      intro k s c S h1 h2 h3 h4 hS h6 h7 h8
      refine e_iload_n dX11_scan_23 rfl ?_
      refine e_bipush dX11_scan_24 (by decide) ?_
      refine e_iload_n dX11_scan_26 rfl ?_
      refine e_imul dX11_scan_27 ?_
      refine e_bipush dX11_scan_28 (by decide) ?_
      refine e_iadd dX11_scan_30 ?_
      refine e_icmp_ge (tgt := 72) dX11_scan_31 (by decide) ⟨by omega, by omega⟩ ⟨by omega, by omega⟩ (fun c_31 => ?_) (fun c_31 => ?_)
      · refine e_iload_n dX11_scan_72 rfl ?_
        exact e_iret dX11_scan_73 (Or.inl rfl) (e_ok (by unfold scanF; (have e9 : k = 16 := (by omega)); subst e9; rw [if_neg (Classical.not_not.mpr h8), ← h2]) (by unfold scanF; (have e9 : k = 16 := (by omega)); subst e9; rw [if_neg (Classical.not_not.mpr h8), ← h2]) rfl)
      · exfalso; omega
    | succ r ih =>
      intro k s c S h1 h2 h3 h4 hS h6 h7 h8
      refine e_iload_n dX11_scan_23 rfl ?_
      refine e_bipush dX11_scan_24 (by decide) ?_
      refine e_iload_n dX11_scan_26 rfl ?_
      refine e_imul dX11_scan_27 ?_
      refine e_bipush dX11_scan_28 (by decide) ?_
      refine e_iadd dX11_scan_30 ?_
      refine e_icmp_ge (tgt := 72) dX11_scan_31 (by decide) ⟨by omega, by omega⟩ ⟨by omega, by omega⟩ (fun c_31 => ?_) (fun c_31 => ?_)
      · exfalso; omega
      · refine e_aload_n dX11_scan_34 rfl ?_
        refine m_getI (by decide) dX11_scan_35 f_X11_101 (Or.inl rfl) hT ?_
        have g_35 := rs_41 hS
        refine e_if_ne (tgt := 72) dX11_scan_38 (by decide) ⟨by omega, by omega⟩ (fun c_38 => ?_) (fun c_38 => ?_)
        · exfalso; omega
        · refine e_aload_n dX11_scan_41 rfl ?_
          refine e_iload_n dX11_scan_42 rfl ?_
          refine e_cV (as := [_]) (ci := 11) dX11_scan_43 k_X11_isOther l_X11_152 i_X11_isOther v_X11_isOther hT rfl (by decide) ⟨_, _, rfl⟩ rfl rfl rfl rfl (Nat.le_of_ble_eq_true rfl) ⟨by decide, by decide⟩ (Nat.le_of_ble_eq_true rfl) (by decide) (m_isOther hT hS ⟨by omega, by omega⟩) ?_
          refine e_if_eq (tgt := 66) dX11_scan_46 (by decide) bi_iI (fun c_46 => ?_) (fun c_46 => ?_)
          · simp only [bi_z, Classical.not_not] at c_46
            refine e_iinc (ls2 := [_, _, _, _]) dX11_scan_66 rfl (Nat.le_of_ble_eq_true rfl) rfl ?_
            refine e_goto (tgt := 23) dX11_scan_69 (by decide) ?_
            exact ih (k + 1) _ _ _ (by omega) (by simp only [scF, ← h2, ← h3]; split <;> first | rfl | (exfalso; omega) | (exfalso; rename_i g9; exact g9 ⟨by assumption, by omega⟩) | (exfalso; rename_i g9; exact absurd g9.1 (by assumption))) (by omega) (by omega) (by first | exact hS | exact WR.notes hS (by omega)) (by first | exact h6 | (rw [notesF_41]; exact h6)) (by first | omega | (have := notesF_10 S c; omega)) h8
          · simp only [bi_z, Classical.not_not] at c_46
            refine e_aload_n dX11_scan_49 rfl ?_
            refine m_getR (kt := (20, 48, 8)) (by decide) dX11_scan_50 f_X11_29 hT rfl (Nat.succ_ne_zero _) (fun q_50 h_50 => ?_)
            refine e_iload_n dX11_scan_53 rfl ?_
            refine m_iaw (by decide) (rg_8 hS) dX11_scan_54 h_50 (by omega) (by omega) (fun g_54 => ?_)
            refine e_if_ne (tgt := 66) dX11_scan_55 (by decide) ⟨by omega, by omega⟩ (fun c_55 => ?_) (fun c_55 => ?_)
            · refine e_iinc (ls2 := [_, _, _, _]) dX11_scan_66 rfl (Nat.le_of_ble_eq_true rfl) rfl ?_
              refine e_goto (tgt := 23) dX11_scan_69 (by decide) ?_
              exact ih (k + 1) _ _ _ (by omega) (by simp only [scF, ← h2, ← h3]; split <;> first | rfl | (exfalso; omega) | (exfalso; rename_i g9; exact g9 ⟨by assumption, by omega⟩) | (exfalso; rename_i g9; exact absurd g9.1 (by assumption))) (by omega) (by omega) (by first | exact hS | exact WR.notes hS (by omega)) (by first | exact h6 | (rw [notesF_41]; exact h6)) (by first | omega | (have := notesF_10 S c; omega)) h8
            · refine e_aload_n dX11_scan_58 rfl ?_
              refine e_iload_n dX11_scan_59 rfl ?_
              refine e_cV (as := [_]) (ci := 11) dX11_scan_60 k_X11_notes l_X11_126 i_X11_notes v_X11_notes hT rfl (by decide) ⟨_, _, rfl⟩ rfl rfl rfl rfl (Nat.le_of_ble_eq_true rfl) ⟨by decide, by decide⟩ (Nat.le_of_ble_eq_true rfl) (by decide) (m_notes hT hS ⟨by omega, by omega⟩) ?_
              refine e_iinc (ls2 := [_, _, _, _]) dX11_scan_63 rfl (Nat.le_of_ble_eq_true rfl) rfl ?_
              refine e_iinc (ls2 := [_, _, _, _]) dX11_scan_66 rfl (Nat.le_of_ble_eq_true rfl) rfl ?_
              refine e_goto (tgt := 23) dX11_scan_69 (by decide) ?_
              exact ih (k + 1) _ _ _ (by omega) (by simp only [scF, ← h2, ← h3]; split <;> first | rfl | (exfalso; omega) | (exfalso; rename_i g9; exact g9 ⟨by assumption, by omega⟩) | (exfalso; rename_i g9; exact absurd g9.1 (by assumption))) (by omega) (by omega) (by first | exact hS | exact WR.notes hS (by omega)) (by first | exact h6 | (rw [notesF_41]; exact h6)) (by first | omega | (have := notesF_10 S c; omega)) h8
  by_cases hin : 0 ≤ m ∧ m ≤ 2
  · refine e_aload_n dX11_scan_0 rfl ?_
    refine e_iload_n dX11_scan_1 rfl ?_
    refine e_cS (as := [_]) dX11_scan_2 k_X11_isMachine l_X11_135 s_X11_isMachine rfl rfl rfl rfl (Nat.le_of_ble_eq_true rfl) ⟨by decide, by decide⟩ (Nat.le_of_ble_eq_true rfl) (by decide) (m_isMachine (by assumption)) ?_
    refine e_if_eq (tgt := 12) dX11_scan_5 (by decide) bi_iI (fun c_5 => ?_) (fun c_5 => ?_)
    · simp only [bi_z, Classical.not_not] at c_5
      exfalso; omega
    · simp only [bi_z, Classical.not_not] at c_5
      refine e_iconst dX11_scan_8 ?_
      refine e_goto (tgt := 13) dX11_scan_9 (by decide) ?_
      refine m_putI (by decide) dX11_scan_13 f_X11_101 rfl hT ⟨by omega, by omega⟩ ?_
      refine e_iconst dX11_scan_16 ?_
      refine e_istore_n (ls2 := [_, _, _, _]) dX11_scan_17 (Nat.le_of_ble_eq_true rfl) rfl ?_
      refine e_bipush dX11_scan_18 (by decide) ?_
      refine e_iload_n dX11_scan_20 rfl ?_
      refine e_imul dX11_scan_21 ?_
      refine e_istore_n (ls2 := [_, _, _, _]) dX11_scan_22 (Nat.le_of_ble_eq_true rfl) rfl ?_
      exact lp 16 0 0 _ _ (by omega) rfl (by omega) ⟨by decide, by decide⟩ (WR.up hW ⟨by decide, by decide⟩) rfl (by show M 50 10 ≤ _; omega) hin
  · refine e_aload_n dX11_scan_0 rfl ?_
    refine e_iload_n dX11_scan_1 rfl ?_
    refine e_cS (as := [_]) dX11_scan_2 k_X11_isMachine l_X11_135 s_X11_isMachine rfl rfl rfl rfl (Nat.le_of_ble_eq_true rfl) ⟨by decide, by decide⟩ (Nat.le_of_ble_eq_true rfl) (by decide) (m_isMachine (by assumption)) ?_
    refine e_if_eq (tgt := 12) dX11_scan_5 (by decide) bi_iI (fun c_5 => ?_) (fun c_5 => ?_)
    · simp only [bi_z, Classical.not_not] at c_5
      refine e_iconst dX11_scan_12 ?_
      refine m_putI (by decide) dX11_scan_13 f_X11_101 rfl hT ⟨by omega, by omega⟩ ?_
      refine e_iconst dX11_scan_16 ?_
      refine e_istore_n (ls2 := [_, _, _, _]) dX11_scan_17 (Nat.le_of_ble_eq_true rfl) rfl ?_
      refine e_bipush dX11_scan_18 (by decide) ?_
      refine e_iload_n dX11_scan_20 rfl ?_
      refine e_imul dX11_scan_21 ?_
      refine e_istore_n (ls2 := [_, _, _, _]) dX11_scan_22 (Nat.le_of_ble_eq_true rfl) rfl ?_
      refine e_iload_n dX11_scan_23 rfl ?_
      refine e_bipush dX11_scan_24 (by decide) ?_
      refine e_iload_n dX11_scan_26 rfl ?_
      refine e_imul dX11_scan_27 ?_
      refine e_bipush dX11_scan_28 (by decide) ?_
      refine e_iadd dX11_scan_30 ?_
      refine e_icmp_geA (tgt := 72) dX11_scan_31 (by decide) ?_ ?_
      · refine e_iload_n dX11_scan_72 rfl ?_
        exact e_iret dX11_scan_73 (Or.inl rfl) (e_ok (by unfold scanF; rw [if_pos hin]) (by unfold scanF; rw [if_pos hin]) rfl)
      · refine e_aload_n dX11_scan_34 rfl ?_
        refine m_getI (by decide) dX11_scan_35 f_X11_101 (Or.inl rfl) hT ?_
        simp only [q_us_ap, editsF_3, Int.reduceEq, Int.reduceNeg, false_and, and_false, and_self, if_true, if_false, true_and, and_true, ite_self]
        have g_35 := rs_41 hW
        refine e_if_ne (tgt := 72) dX11_scan_38 (by decide) ⟨by decide, by decide⟩ (fun c_38 => ?_) (fun c_38 => ?_)
        · refine e_iload_n dX11_scan_72 rfl ?_
          exact e_iret dX11_scan_73 (Or.inl rfl) (e_ok (by unfold scanF; rw [if_pos hin]) (by unfold scanF; rw [if_pos hin]) rfl)
        · exact absurd c_38 (by decide)
    · simp only [bi_z, Classical.not_not] at c_5
      exfalso; omega
