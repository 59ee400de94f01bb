set_option maxRecDepth 20000 in
set_option maxHeartbeats 4000000 in
theorem m_asOfTime {K : q_K} {M C : q_S} {a : Nat} (hT : K a = (12, 0, 50)) (hW : WR M) {f t : Int} (hf : 0 ≤ f ∧ f ≤ 15) (ht : 0 ≤ t ∧ t ≤ 2000) : q_E mX11_asOfTime 0 [some (q_R a), some (q_I f), some (q_I t), none] [] K M C 0 0 (e_is (some (q_I (asOfT M f t))) K M C) := by
  have lp : ∀ n : Nat, (n : Int) ≤ 120 → asOfF M f t n = asOfT M f t → q_E mX11_asOfTime 7 [some (q_R a), some (q_I f), some (q_I t), some (q_I ((n : Int) - 1))] [] K M C 0 0 (e_is (some (q_I (asOfT M f t))) K M C) := by
    intro n
    induction n with
    | zero =>
      intro h1 h2
      refine e_iload_n dX11_asOfTime_7 rfl ?_
      refine e_if_lt (tgt := 48) dX11_asOfTime_8 (by decide) ⟨by omega, by omega⟩ (fun c_8 => ?_) (fun c_8 => ?_)
      · refine e_iconst dX11_asOfTime_48 ?_
        exact e_iret dX11_asOfTime_49 (Or.inl rfl) (e_ok (by rw [← h2]; rfl) rfl rfl)
      · exfalso; omega
    | succ n ih =>
      intro h1 h2
      have e9 : ((n + 1 : Nat) : Int) - 1 = n := by omega
      rw [e9]
      simp only [asOfF] at h2
      refine e_iload_n dX11_asOfTime_7 rfl ?_
      refine e_if_lt (tgt := 48) dX11_asOfTime_8 (by decide) ⟨by omega, by omega⟩ (fun c_8 => ?_) (fun c_8 => ?_)
      · exfalso; omega
      · refine e_aload_n dX11_asOfTime_11 rfl ?_
        refine m_getR (kt := (20, 120, 17)) (by decide) dX11_asOfTime_12 f_X11_44 hT rfl (Nat.succ_ne_zero _) (fun q_12 h_12 => ?_)
        refine e_iload_n dX11_asOfTime_15 rfl ?_
        refine m_iaw (by decide) (rg_17 hW) dX11_asOfTime_16 h_12 (by omega) (by omega) (fun g_16 => ?_)
        refine e_iload_n dX11_asOfTime_17 rfl ?_
        refine e_icmp_ne (tgt := 42) dX11_asOfTime_18 (by decide) ⟨by omega, by omega⟩ ⟨by omega, by omega⟩ (fun c_18 => ?_) (fun c_18 => ?_)
        · refine e_iinc (ls2 := [_, _, _, _]) dX11_asOfTime_42 rfl (Nat.le_of_ble_eq_true rfl) rfl ?_
          refine e_goto (tgt := 7) dX11_asOfTime_45 (by decide) ?_
          exact ih (by omega) (by rw [if_neg (by omega)] at h2; exact h2)
        · refine e_aload_n dX11_asOfTime_21 rfl ?_
          refine m_getR (kt := (20, 120, 22)) (by decide) dX11_asOfTime_22 f_X11_59 hT rfl (Nat.succ_ne_zero _) (fun q_22 h_22 => ?_)
          refine e_iload_n dX11_asOfTime_25 rfl ?_
          refine m_iaw (by decide) (rg_22 hW) dX11_asOfTime_26 h_22 (by omega) (by omega) (fun g_26 => ?_)
          refine e_if_ne (tgt := 42) dX11_asOfTime_27 (by decide) ⟨by omega, by omega⟩ (fun c_27 => ?_) (fun c_27 => ?_)
          · refine e_iinc (ls2 := [_, _, _, _]) dX11_asOfTime_42 rfl (Nat.le_of_ble_eq_true rfl) rfl ?_
            refine e_goto (tgt := 7) dX11_asOfTime_45 (by decide) ?_
            exact ih (by omega) (by rw [if_neg (by omega)] at h2; exact h2)
          · refine e_aload_n dX11_asOfTime_30 rfl ?_
            refine m_getR (kt := (20, 120, 18)) (by decide) dX11_asOfTime_31 f_X11_47 hT rfl (Nat.succ_ne_zero _) (fun q_31 h_31 => ?_)
            refine e_iload_n dX11_asOfTime_34 rfl ?_
            refine m_iaw (by decide) (rg_18 hW) dX11_asOfTime_35 h_31 (by omega) (by omega) (fun g_35 => ?_)
            refine e_iload_n dX11_asOfTime_36 rfl ?_
            refine e_icmp_gt (tgt := 42) dX11_asOfTime_37 (by decide) ⟨by omega, by omega⟩ ⟨by omega, by omega⟩ (fun c_37 => ?_) (fun c_37 => ?_)
            · refine e_iinc (ls2 := [_, _, _, _]) dX11_asOfTime_42 rfl (Nat.le_of_ble_eq_true rfl) rfl ?_
              refine e_goto (tgt := 7) dX11_asOfTime_45 (by decide) ?_
              exact ih (by omega) (by rw [if_neg (by omega)] at h2; exact h2)
            · refine e_iload_n dX11_asOfTime_40 rfl ?_
              exact e_iret dX11_asOfTime_41 (Or.inl rfl) (e_ok (by rw [← h2, if_pos ⟨by omega, by omega, by omega⟩]) rfl rfl)
  refine e_aload_n dX11_asOfTime_0 rfl ?_
  refine m_getI (by decide) dX11_asOfTime_1 f_X11_155 (Or.inl rfl) hT ?_
  have g_1 := rs_16 hW
  refine e_iconst dX11_asOfTime_4 ?_
  refine e_isub dX11_asOfTime_5 ?_
  refine e_istore_n (ls2 := [_, _, _, _]) dX11_asOfTime_6 (Nat.le_of_ble_eq_true rfl) rfl ?_
  have e8 : (((M 50 16).toNat : Nat) : Int) = M 50 16 := Int.toNat_of_nonneg (by omega)
  have := lp (M 50 16).toNat (by omega) rfl
  rw [e8] at this
  exact this
set_option maxRecDepth 20000 in
set_option maxHeartbeats 4000000 in
theorem m_makes {K : q_K} {M C : q_S} {a : Nat} (hT : K a = (12, 0, 50)) (hW : WR M) {f m c d : Int} (hv : M 50 16 < 120) (hf : 0 ≤ f ∧ f ≤ 15) (hm : -1 ≤ m ∧ m ≤ 2) (hc : 0 ≤ c ∧ c ≤ 9999999999999) (hd : 0 ≤ d ∧ d ≤ 3) : q_E mX11_makes 0 [some (q_R a), some (q_I f), some (q_I m), some (q_L c), none, some (q_I d)] [] K M C 0 0 (e_is (some (q_I (M 50 16))) K (makesF M f m c d) C) := by
  refine e_aload_n dX11_makes_0 rfl ?_
  refine m_getR (kt := (20, 120, 17)) (by decide) dX11_makes_1 f_X11_44 hT rfl (Nat.succ_ne_zero _) (fun q_1 h_1 => ?_)
  refine e_aload_n dX11_makes_4 rfl ?_
  refine m_getI (by decide) dX11_makes_5 f_X11_155 (Or.inl rfl) hT ?_
  have g_5 := rs_16 hW
  refine e_iload_n dX11_makes_8 rfl ?_
  refine m_iast (by decide) dX11_makes_9 h_1 (by omega) (by omega) ⟨by omega, by omega⟩ ?_
  refine e_aload_n dX11_makes_10 rfl ?_
  refine m_getR (kt := (20, 120, 18)) (by decide) dX11_makes_11 f_X11_47 hT rfl (Nat.succ_ne_zero _) (fun q_11 h_11 => ?_)
  refine e_aload_n dX11_makes_14 rfl ?_
  refine m_getI (by decide) dX11_makes_15 f_X11_155 (Or.inl rfl) hT ?_
  simp only [q_us_ap, editsF_3, Int.reduceEq, Int.reduceNeg, false_and, and_false, and_self, if_true, if_false, true_and, and_true, ite_self]
  have g_15 := rs_16 hW
  refine e_aload_n dX11_makes_18 rfl ?_
  refine m_getI (by decide) dX11_makes_19 f_X11_132 (Or.inl rfl) hT ?_
  simp only [q_us_ap, editsF_3, Int.reduceEq, Int.reduceNeg, false_and, and_false, and_self, if_true, if_false, true_and, and_true, ite_self]
  have g_19 := rs_1 hW
  refine m_iast (by decide) dX11_makes_22 h_11 (by omega) (by omega) ⟨by omega, by omega⟩ ?_
  refine e_aload_n dX11_makes_23 rfl ?_
  refine m_getR (kt := (20, 120, 19)) (by decide) dX11_makes_24 f_X11_50 hT rfl (Nat.succ_ne_zero _) (fun q_24 h_24 => ?_)
  refine e_aload_n dX11_makes_27 rfl ?_
  refine m_getI (by decide) dX11_makes_28 f_X11_155 (Or.inl rfl) hT ?_
  simp only [q_us_ap, editsF_3, Int.reduceEq, Int.reduceNeg, false_and, and_false, and_self, if_true, if_false, true_and, and_true, ite_self]
  have g_28 := rs_16 hW
  refine e_iload_n dX11_makes_31 rfl ?_
  refine m_iast (by decide) dX11_makes_32 h_24 (by omega) (by omega) ⟨by omega, by omega⟩ ?_
  refine e_aload_n dX11_makes_33 rfl ?_
  refine m_getR (kt := (21, 120, 21)) (by decide) dX11_makes_34 f_X11_56 hT rfl (Nat.succ_ne_zero _) (fun q_34 h_34 => ?_)
  refine e_aload_n dX11_makes_37 rfl ?_
  refine m_getI (by decide) dX11_makes_38 f_X11_155 (Or.inl rfl) hT ?_
  simp only [q_us_ap, editsF_3, Int.reduceEq, Int.reduceNeg, false_and, and_false, and_self, if_true, if_false, true_and, and_true, ite_self]
  have g_38 := rs_16 hW
  refine e_lload_n dX11_makes_41 rfl ?_
  refine m_last (by decide) dX11_makes_42 h_34 (by omega) (by omega) ⟨by omega, by omega⟩ ?_
  refine e_aload_n dX11_makes_43 rfl ?_
  refine m_getR (kt := (20, 120, 20)) (by decide) dX11_makes_44 f_X11_53 hT rfl (Nat.succ_ne_zero _) (fun q_44 h_44 => ?_)
  refine e_aload_n dX11_makes_47 rfl ?_
  refine m_getI (by decide) dX11_makes_48 f_X11_155 (Or.inl rfl) hT ?_
  simp only [q_us_ap, editsF_3, Int.reduceEq, Int.reduceNeg, false_and, and_false, and_self, if_true, if_false, true_and, and_true, ite_self]
  have g_48 := rs_16 hW
  refine e_iload dX11_makes_51 rfl ?_
  refine m_iast (by decide) dX11_makes_53 h_44 (by omega) (by omega) ⟨by omega, by omega⟩ ?_
  refine e_aload_n dX11_makes_54 rfl ?_
  refine m_getR (kt := (20, 120, 22)) (by decide) dX11_makes_55 f_X11_59 hT rfl (Nat.succ_ne_zero _) (fun q_55 h_55 => ?_)
  refine e_aload_n dX11_makes_58 rfl ?_
  refine m_getI (by decide) dX11_makes_59 f_X11_155 (Or.inl rfl) hT ?_
  simp only [q_us_ap, editsF_3, Int.reduceEq, Int.reduceNeg, false_and, and_false, and_self, if_true, if_false, true_and, and_true, ite_self]
  have g_59 := rs_16 hW
  refine e_iconst dX11_makes_62 ?_
  refine m_iast (by decide) dX11_makes_63 h_55 (by omega) (by omega) ⟨by omega, by omega⟩ ?_
  refine e_aload_n dX11_makes_64 rfl ?_
  refine e_dup dX11_makes_65 rfl ?_
  refine m_getI (by decide) dX11_makes_66 f_X11_155 (Or.inl rfl) hT ?_
  simp only [q_us_ap, editsF_3, Int.reduceEq, Int.reduceNeg, false_and, and_false, and_self, if_true, if_false, true_and, and_true, ite_self]
  have g_66 := rs_16 hW
  refine e_iconst dX11_makes_69 ?_
  refine e_iadd dX11_makes_70 ?_
  refine m_putI (by decide) dX11_makes_71 f_X11_155 rfl hT ⟨by omega, by omega⟩ ?_
  refine e_aload_n dX11_makes_74 rfl ?_
  refine m_getI (by decide) dX11_makes_75 f_X11_155 (Or.inl rfl) hT ?_
  simp only [q_us_ap, editsF_3, Int.reduceEq, Int.reduceNeg, false_and, and_false, and_self, if_true, if_false, true_and, and_true, ite_self]
  have g_75 := rs_16 hW
  refine e_iconst dX11_makes_78 ?_
  refine e_isub dX11_makes_79 ?_
  exact e_iret dX11_makes_80 (Or.inl rfl) (e_ok (by congr 2; omega) rfl rfl)
set_option maxRecDepth 20000 in
set_option maxHeartbeats 4000000 in
theorem m_becomes {K : q_K} {M C : q_S} {a : Nat} (hT : K a = (12, 0, 50)) (hW : WR M) {p v : Int} (hp : 0 ≤ p ∧ p < 48) (hv : -1 ≤ v ∧ v < 120) : q_E mX11_becomes 0 [some (q_R a), some (q_I p), some (q_I v)] [] K M C 0 0 (e_is none K (becomesF M p v) C) := by
  refine e_aload_n dX11_becomes_0 rfl ?_
  refine m_getR (kt := (20, 48, 5)) (by decide) dX11_becomes_1 f_X11_20 hT rfl (Nat.succ_ne_zero _) (fun q_1 h_1 => ?_)
  refine e_iload_n dX11_becomes_4 rfl ?_
  refine e_iload_n dX11_becomes_5 rfl ?_
  refine e_iconst dX11_becomes_6 ?_
  refine e_iadd dX11_becomes_7 ?_
  refine m_iast (by decide) dX11_becomes_8 h_1 (by omega) (by omega) ⟨by omega, by omega⟩ ?_
  refine e_aload_n dX11_becomes_9 rfl ?_
  refine e_iload_n dX11_becomes_10 rfl ?_
  refine e_cV (as := [_]) (ci := 11) dX11_becomes_11 k_X11_isIn l_X11_158 i_X11_isIn v_X11_isIn hT rfl (by decide) ⟨_, _, rfl⟩ rfl rfl rfl rfl (Nat.le_of_ble_eq_true rfl) ⟨by decide, by decide⟩ (Nat.le_of_ble_eq_true rfl) (by decide) (m_isIn hT (WR.up hW ⟨by show 0 ≤ v + 1; omega, by show v + 1 ≤ 120; omega⟩) ⟨by omega, by omega⟩) ?_
  refine e_if_eq (tgt := 51) dX11_becomes_14 (by decide) bi_iI (fun c_14 => ?_) (fun c_14 => ?_)
  · simp only [bi_z, Classical.not_not, q_us_ap, editsF_3, Int.reduceEq, Int.reduceNeg, false_and, and_false, and_self, if_true, if_false, true_and, and_true, ite_self, lockF_thr, rightF_thr, latestOf_thr, asOfT_thr] at c_14
    refine e_aload_n dX11_becomes_51 rfl ?_
    refine e_iload_n dX11_becomes_52 rfl ?_
    refine e_cV (as := [_]) (ci := 11) dX11_becomes_53 k_X11_leaves l_X11_145 i_X11_leaves v_X11_leaves hT rfl (by decide) ⟨_, _, rfl⟩ rfl rfl rfl rfl (Nat.le_of_ble_eq_true rfl) ⟨by decide, by decide⟩ (Nat.le_of_ble_eq_true rfl) (by decide) (m_leaves hT ⟨by omega, by omega⟩) ?_
    exact e_ret dX11_becomes_56 rfl (e_ok rfl (by unfold becomesF; split <;> first | rfl | (exfalso; contradiction)) rfl)
  · simp only [bi_z, Classical.not_not, q_us_ap, editsF_3, Int.reduceEq, Int.reduceNeg, false_and, and_false, and_self, if_true, if_false, true_and, and_true, ite_self, lockF_thr, rightF_thr, latestOf_thr, asOfT_thr] at c_14
    refine e_aload_n dX11_becomes_17 rfl ?_
    refine m_getR (kt := (20, 48, 2)) (by decide) dX11_becomes_18 f_X11_7 hT rfl (Nat.succ_ne_zero _) (fun q_18 h_18 => ?_)
    refine e_iload_n dX11_becomes_21 rfl ?_
    refine e_iconst dX11_becomes_22 ?_
    refine m_iast (by decide) dX11_becomes_23 h_18 (by omega) (by omega) ⟨by omega, by omega⟩ ?_
    refine e_aload_n dX11_becomes_24 rfl ?_
    refine m_getR (kt := (21, 48, 3)) (by decide) dX11_becomes_25 f_X11_13 hT rfl (Nat.succ_ne_zero _) (fun q_25 h_25 => ?_)
    refine e_iload_n dX11_becomes_28 rfl ?_
    refine e_aload_n dX11_becomes_29 rfl ?_
    refine m_getR (kt := (21, 120, 21)) (by decide) dX11_becomes_30 f_X11_56 hT rfl (Nat.succ_ne_zero _) (fun q_30 h_30 => ?_)
    refine e_iload_n dX11_becomes_33 rfl ?_
    refine m_lald (by decide) dX11_becomes_34 h_30 (by omega) (by omega) ?_
    simp only [q_us_ap, editsF_3, Int.reduceEq, Int.reduceNeg, false_and, and_false, and_self, if_true, if_false, true_and, and_true, ite_self]
    have g_34 := rg_21 hW v (by omega) (by omega)
    refine m_last (by decide) dX11_becomes_35 h_25 (by omega) (by omega) ⟨by omega, by omega⟩ ?_
    refine e_aload_n dX11_becomes_36 rfl ?_
    refine m_getR (kt := (20, 48, 4)) (by decide) dX11_becomes_37 f_X11_17 hT rfl (Nat.succ_ne_zero _) (fun q_37 h_37 => ?_)
    refine e_iload_n dX11_becomes_40 rfl ?_
    refine e_aload_n dX11_becomes_41 rfl ?_
    refine m_getR (kt := (20, 120, 20)) (by decide) dX11_becomes_42 f_X11_53 hT rfl (Nat.succ_ne_zero _) (fun q_42 h_42 => ?_)
    refine e_iload_n dX11_becomes_45 rfl ?_
    refine m_iald (by decide) dX11_becomes_46 h_42 (by omega) (by omega) ?_
    simp only [q_us_ap, editsF_3, Int.reduceEq, Int.reduceNeg, false_and, and_false, and_self, if_true, if_false, true_and, and_true, ite_self]
    have g_46 := rg_20 hW v (by omega) (by omega)
    refine m_iast (by decide) dX11_becomes_47 h_37 (by omega) (by omega) ⟨by omega, by omega⟩ ?_
    refine e_goto (tgt := 56) dX11_becomes_48 (by decide) ?_
    exact e_ret dX11_becomes_56 rfl (e_ok rfl (by unfold becomesF; split <;> first | rfl | (exfalso; contradiction)) rfl)
set_option maxRecDepth 20000 in
set_option maxHeartbeats 4000000 in
theorem m_may {K : q_K} {M C : q_S} {a : Nat} (hT : K a = (12, 0, 50)) (hW : WR M) {p v : Int} (hp : 0 ≤ p ∧ p < 48) (hv : -1 ≤ v ∧ v < 120) : q_E mX11_may 0 [some (q_R a), some (q_I p), some (q_I v), none, none, none] [] K M C 0 0 (e_is (some (q_I (bi (mayP M p v)))) K M C) := by
  refine e_iload_n dX11_may_0 rfl ?_
  refine e_bipush dX11_may_1 (by decide) ?_
  refine e_idiv dX11_may_3 ⟨by omega, by omega⟩ ⟨by omega, by omega⟩ ?_
  refine e_istore_n (ls2 := [_, _, _, _, _, _]) dX11_may_4 (Nat.le_of_ble_eq_true rfl) rfl ?_
  refine e_aload_n dX11_may_5 rfl ?_
  refine e_iload_n dX11_may_6 rfl ?_
  refine e_bipush dX11_may_7 (by decide) ?_
  refine e_irem dX11_may_9 ⟨by omega, by omega⟩ ⟨by omega, by omega⟩ ?_
  refine e_cV (as := [_]) (ci := 11) dX11_may_10 k_X11_locker l_X11_161 i_X11_locker v_X11_locker hT rfl (by decide) ⟨_, _, rfl⟩ rfl rfl rfl rfl (Nat.le_of_ble_eq_true rfl) ⟨by decide, by decide⟩ (Nat.le_of_ble_eq_true rfl) (by decide) (m_locker hT (by first | exact hW | exact WR.up hW ⟨by decide, by decide⟩) ⟨by omega, by omega⟩) ?_
  have g_10 := lockF_rg hW (p % 16)
  refine e_istore (ls2 := [_, _, _, _, _, _]) dX11_may_13 (Nat.le_of_ble_eq_true rfl) rfl ?_
  refine e_iload dX11_may_15 rfl ?_
  refine e_iconst dX11_may_17 ?_
  refine e_icmp_eq (tgt := 27) dX11_may_18 (by decide) ⟨by omega, by omega⟩ ⟨by omega, by omega⟩ (fun c_18 => ?_) (fun c_18 => ?_)
  · refine e_iconst dX11_may_27 ?_
    refine e_goto (tgt := 32) dX11_may_28 (by decide) ?_
    refine e_istore (ls2 := [_, _, _, _, _, _]) dX11_may_32 (Nat.le_of_ble_eq_true rfl) rfl ?_
    refine e_aload_n dX11_may_34 rfl ?_
    refine e_iload_n dX11_may_35 rfl ?_
    refine e_cV (as := [_]) (ci := 11) dX11_may_36 k_X11_isIn l_X11_158 i_X11_isIn v_X11_isIn hT rfl (by decide) ⟨_, _, rfl⟩ rfl rfl rfl rfl (Nat.le_of_ble_eq_true rfl) ⟨by decide, by decide⟩ (Nat.le_of_ble_eq_true rfl) (by decide) (m_isIn hT (by first | exact hW | exact WR.up hW ⟨by decide, by decide⟩) ⟨by omega, by omega⟩) ?_
    refine e_if_eq (tgt := 69) dX11_may_39 (by decide) bi_iI (fun c_39 => ?_) (fun c_39 => ?_)
    · simp only [bi_z, Classical.not_not] at c_39
      refine e_iload dX11_may_69 rfl ?_
      refine e_if_eq (tgt := 102) dX11_may_71 (by decide) ⟨by decide, by decide⟩ (fun c_71 => ?_) (fun c_71 => ?_)
      · exact absurd c_71 (by decide)
      · refine e_aload_n dX11_may_74 rfl ?_
        refine m_getR (kt := (20, 48, 2)) (by decide) dX11_may_75 f_X11_7 hT rfl (Nat.succ_ne_zero _) (fun q_75 h_75 => ?_)
        refine e_iload_n dX11_may_78 rfl ?_
        refine m_iaw (by decide) (rg_2 hW) dX11_may_79 h_75 (by omega) (by omega) (fun g_79 => ?_)
        refine e_if_eq (tgt := 98) dX11_may_80 (by decide) ⟨by omega, by omega⟩ (fun c_80 => ?_) (fun c_80 => ?_)
        · refine e_iconst dX11_may_98 ?_
          refine e_goto (tgt := 103) dX11_may_99 (by decide) ?_
          exact e_iret dX11_may_103 (Or.inr ⟨rfl, by omega⟩) (e_ok (by unfold bi; split <;> first | rfl | (exfalso; omega)) rfl rfl)
        · refine e_aload_n dX11_may_83 rfl ?_
          refine e_aload_n dX11_may_84 rfl ?_
          refine m_getR (kt := (20, 48, 4)) (by decide) dX11_may_85 f_X11_17 hT rfl (Nat.succ_ne_zero _) (fun q_85 h_85 => ?_)
          refine e_iload_n dX11_may_88 rfl ?_
          refine m_iaw (by decide) (rg_4 hW) dX11_may_89 h_85 (by omega) (by omega) (fun g_89 => ?_)
          refine e_iload_n dX11_may_90 rfl ?_
          refine e_cV (as := [_, _]) (ci := 11) dX11_may_91 k_X11_rightOf l_X11_165 i_X11_rightOf v_X11_rightOf hT rfl (by decide) ⟨_, _, rfl⟩ rfl rfl rfl rfl (Nat.le_of_ble_eq_true rfl) ⟨by decide, by decide⟩ (Nat.le_of_ble_eq_true rfl) (by decide) (m_rightOf hT (by first | exact hW | exact WR.up hW ⟨by decide, by decide⟩) ⟨by omega, by omega⟩ ⟨by omega, by omega⟩) ?_
          have g_91 := rightF_rg hW (M 4 p) (p / 16)
          refine e_iconst dX11_may_94 ?_
          refine e_icmp_ne (tgt := 102) dX11_may_95 (by decide) ⟨by omega, by omega⟩ ⟨by omega, by omega⟩ (fun c_95 => ?_) (fun c_95 => ?_)
          · refine e_iconst dX11_may_102 ?_
            exact e_iret dX11_may_103 (Or.inr ⟨rfl, by omega⟩) (e_ok (by unfold bi; split <;> first | rfl | (exfalso; omega)) rfl rfl)
          · refine e_iconst dX11_may_98 ?_
            refine e_goto (tgt := 103) dX11_may_99 (by decide) ?_
            exact e_iret dX11_may_103 (Or.inr ⟨rfl, by omega⟩) (e_ok (by unfold bi; split <;> first | rfl | (exfalso; omega)) rfl rfl)
    · simp only [bi_z, Classical.not_not] at c_39
      refine e_iload dX11_may_42 rfl ?_
      refine e_if_eq (tgt := 66) dX11_may_44 (by decide) ⟨by decide, by decide⟩ (fun c_44 => ?_) (fun c_44 => ?_)
      · exact absurd c_44 (by decide)
      · refine e_aload_n dX11_may_47 rfl ?_
        refine e_aload_n dX11_may_48 rfl ?_
        refine m_getR (kt := (20, 120, 20)) (by decide) dX11_may_49 f_X11_53 hT rfl (Nat.succ_ne_zero _) (fun q_49 h_49 => ?_)
        refine e_iload_n dX11_may_52 rfl ?_
        refine m_iaw (by decide) (rg_20 hW) dX11_may_53 h_49 (by omega) (by omega) (fun g_53 => ?_)
        refine e_iload_n dX11_may_54 rfl ?_
        refine e_cV (as := [_, _]) (ci := 11) dX11_may_55 k_X11_rightOf l_X11_165 i_X11_rightOf v_X11_rightOf hT rfl (by decide) ⟨_, _, rfl⟩ rfl rfl rfl rfl (Nat.le_of_ble_eq_true rfl) ⟨by decide, by decide⟩ (Nat.le_of_ble_eq_true rfl) (by decide) (m_rightOf hT (by first | exact hW | exact WR.up hW ⟨by decide, by decide⟩) ⟨by omega, by omega⟩ ⟨by omega, by omega⟩) ?_
        have g_55 := rightF_rg hW (M 20 v) (p / 16)
        refine e_iconst dX11_may_58 ?_
        refine e_icmp_ne (tgt := 66) dX11_may_59 (by decide) ⟨by omega, by omega⟩ ⟨by omega, by omega⟩ (fun c_59 => ?_) (fun c_59 => ?_)
        · refine e_iconst dX11_may_66 ?_
          refine e_istore (ls2 := [_, _, _, _, _, _]) dX11_may_67 (Nat.le_of_ble_eq_true rfl) rfl ?_
          refine e_iload dX11_may_69 rfl ?_
          refine e_if_eq (tgt := 102) dX11_may_71 (by decide) ⟨by decide, by decide⟩ (fun c_71 => ?_) (fun c_71 => ?_)
          · refine e_iconst dX11_may_102 ?_
            exact e_iret dX11_may_103 (Or.inr ⟨rfl, by omega⟩) (e_ok (by unfold bi; split <;> first | rfl | (exfalso; omega)) rfl rfl)
          · exact absurd c_71 (by decide)
        · refine e_iconst dX11_may_62 ?_
          refine e_goto (tgt := 67) dX11_may_63 (by decide) ?_
          refine e_istore (ls2 := [_, _, _, _, _, _]) dX11_may_67 (Nat.le_of_ble_eq_true rfl) rfl ?_
          refine e_iload dX11_may_69 rfl ?_
          refine e_if_eq (tgt := 102) dX11_may_71 (by decide) ⟨by decide, by decide⟩ (fun c_71 => ?_) (fun c_71 => ?_)
          · exact absurd c_71 (by decide)
          · refine e_aload_n dX11_may_74 rfl ?_
            refine m_getR (kt := (20, 48, 2)) (by decide) dX11_may_75 f_X11_7 hT rfl (Nat.succ_ne_zero _) (fun q_75 h_75 => ?_)
            refine e_iload_n dX11_may_78 rfl ?_
            refine m_iaw (by decide) (rg_2 hW) dX11_may_79 h_75 (by omega) (by omega) (fun g_79 => ?_)
            refine e_if_eq (tgt := 98) dX11_may_80 (by decide) ⟨by omega, by omega⟩ (fun c_80 => ?_) (fun c_80 => ?_)
            · refine e_iconst dX11_may_98 ?_
              refine e_goto (tgt := 103) dX11_may_99 (by decide) ?_
              exact e_iret dX11_may_103 (Or.inr ⟨rfl, by omega⟩) (e_ok (by unfold bi; split <;> first | rfl | (exfalso; omega)) rfl rfl)
            · refine e_aload_n dX11_may_83 rfl ?_
              refine e_aload_n dX11_may_84 rfl ?_
              refine m_getR (kt := (20, 48, 4)) (by decide) dX11_may_85 f_X11_17 hT rfl (Nat.succ_ne_zero _) (fun q_85 h_85 => ?_)
              refine e_iload_n dX11_may_88 rfl ?_
              refine m_iaw (by decide) (rg_4 hW) dX11_may_89 h_85 (by omega) (by omega) (fun g_89 => ?_)
              refine e_iload_n dX11_may_90 rfl ?_
              refine e_cV (as := [_, _]) (ci := 11) dX11_may_91 k_X11_rightOf l_X11_165 i_X11_rightOf v_X11_rightOf hT rfl (by decide) ⟨_, _, rfl⟩ rfl rfl rfl rfl (Nat.le_of_ble_eq_true rfl) ⟨by decide, by decide⟩ (Nat.le_of_ble_eq_true rfl) (by decide) (m_rightOf hT (by first | exact hW | exact WR.up hW ⟨by decide, by decide⟩) ⟨by omega, by omega⟩ ⟨by omega, by omega⟩) ?_
              have g_91 := rightF_rg hW (M 4 p) (p / 16)
              refine e_iconst dX11_may_94 ?_
              refine e_icmp_ne (tgt := 102) dX11_may_95 (by decide) ⟨by omega, by omega⟩ ⟨by omega, by omega⟩ (fun c_95 => ?_) (fun c_95 => ?_)
              · refine e_iconst dX11_may_102 ?_
                exact e_iret dX11_may_103 (Or.inr ⟨rfl, by omega⟩) (e_ok (by unfold bi; split <;> first | rfl | (exfalso; omega)) rfl rfl)
              · refine e_iconst dX11_may_98 ?_
                refine e_goto (tgt := 103) dX11_may_99 (by decide) ?_
                exact e_iret dX11_may_103 (Or.inr ⟨rfl, by omega⟩) (e_ok (by unfold bi; split <;> first | rfl | (exfalso; omega)) rfl rfl)
  · refine e_iload dX11_may_21 rfl ?_
    refine e_iload_n dX11_may_23 rfl ?_
    refine e_icmp_ne (tgt := 31) dX11_may_24 (by decide) ⟨by omega, by omega⟩ ⟨by omega, by omega⟩ (fun c_24 => ?_) (fun c_24 => ?_)
    · refine e_iconst dX11_may_31 ?_
      refine e_istore (ls2 := [_, _, _, _, _, _]) dX11_may_32 (Nat.le_of_ble_eq_true rfl) rfl ?_
      refine e_aload_n dX11_may_34 rfl ?_
      refine e_iload_n dX11_may_35 rfl ?_
      refine e_cV (as := [_]) (ci := 11) dX11_may_36 k_X11_isIn l_X11_158 i_X11_isIn v_X11_isIn hT rfl (by decide) ⟨_, _, rfl⟩ rfl rfl rfl rfl (Nat.le_of_ble_eq_true rfl) ⟨by decide, by decide⟩ (Nat.le_of_ble_eq_true rfl) (by decide) (m_isIn hT (by first | exact hW | exact WR.up hW ⟨by decide, by decide⟩) ⟨by omega, by omega⟩) ?_
      refine e_if_eq (tgt := 69) dX11_may_39 (by decide) bi_iI (fun c_39 => ?_) (fun c_39 => ?_)
      · simp only [bi_z, Classical.not_not] at c_39
        refine e_iload dX11_may_69 rfl ?_
        refine e_if_eq (tgt := 102) dX11_may_71 (by decide) ⟨by decide, by decide⟩ (fun c_71 => ?_) (fun c_71 => ?_)
        · refine e_iconst dX11_may_102 ?_
          exact e_iret dX11_may_103 (Or.inr ⟨rfl, by omega⟩) (e_ok (by unfold bi; split <;> first | rfl | (exfalso; omega)) rfl rfl)
        · exact absurd c_71 (by decide)
      · simp only [bi_z, Classical.not_not] at c_39
        refine e_iload dX11_may_42 rfl ?_
        refine e_if_eq (tgt := 66) dX11_may_44 (by decide) ⟨by decide, by decide⟩ (fun c_44 => ?_) (fun c_44 => ?_)
        · refine e_iconst dX11_may_66 ?_
          refine e_istore (ls2 := [_, _, _, _, _, _]) dX11_may_67 (Nat.le_of_ble_eq_true rfl) rfl ?_
          refine e_iload dX11_may_69 rfl ?_
          refine e_if_eq (tgt := 102) dX11_may_71 (by decide) ⟨by decide, by decide⟩ (fun c_71 => ?_) (fun c_71 => ?_)
          · refine e_iconst dX11_may_102 ?_
            exact e_iret dX11_may_103 (Or.inr ⟨rfl, by omega⟩) (e_ok (by unfold bi; split <;> first | rfl | (exfalso; omega)) rfl rfl)
          · exact absurd c_71 (by decide)
        · exact absurd c_44 (by decide)
    · refine e_iconst dX11_may_27 ?_
      refine e_goto (tgt := 32) dX11_may_28 (by decide) ?_
      refine e_istore (ls2 := [_, _, _, _, _, _]) dX11_may_32 (Nat.le_of_ble_eq_true rfl) rfl ?_
      refine e_aload_n dX11_may_34 rfl ?_
      refine e_iload_n dX11_may_35 rfl ?_
      refine e_cV (as := [_]) (ci := 11) dX11_may_36 k_X11_isIn l_X11_158 i_X11_isIn v_X11_isIn hT rfl (by decide) ⟨_, _, rfl⟩ rfl rfl rfl rfl (Nat.le_of_ble_eq_true rfl) ⟨by decide, by decide⟩ (Nat.le_of_ble_eq_true rfl) (by decide) (m_isIn hT (by first | exact hW | exact WR.up hW ⟨by decide, by decide⟩) ⟨by omega, by omega⟩) ?_
      refine e_if_eq (tgt := 69) dX11_may_39 (by decide) bi_iI (fun c_39 => ?_) (fun c_39 => ?_)
      · simp only [bi_z, Classical.not_not] at c_39
        refine e_iload dX11_may_69 rfl ?_
        refine e_if_eq (tgt := 102) dX11_may_71 (by decide) ⟨by decide, by decide⟩ (fun c_71 => ?_) (fun c_71 => ?_)
        · exact absurd c_71 (by decide)
        · refine e_aload_n dX11_may_74 rfl ?_
          refine m_getR (kt := (20, 48, 2)) (by decide) dX11_may_75 f_X11_7 hT rfl (Nat.succ_ne_zero _) (fun q_75 h_75 => ?_)
          refine e_iload_n dX11_may_78 rfl ?_
          refine m_iaw (by decide) (rg_2 hW) dX11_may_79 h_75 (by omega) (by omega) (fun g_79 => ?_)
          refine e_if_eq (tgt := 98) dX11_may_80 (by decide) ⟨by omega, by omega⟩ (fun c_80 => ?_) (fun c_80 => ?_)
          · refine e_iconst dX11_may_98 ?_
            refine e_goto (tgt := 103) dX11_may_99 (by decide) ?_
            exact e_iret dX11_may_103 (Or.inr ⟨rfl, by omega⟩) (e_ok (by unfold bi; split <;> first | rfl | (exfalso; omega)) rfl rfl)
          · refine e_aload_n dX11_may_83 rfl ?_
            refine e_aload_n dX11_may_84 rfl ?_
            refine m_getR (kt := (20, 48, 4)) (by decide) dX11_may_85 f_X11_17 hT rfl (Nat.succ_ne_zero _) (fun q_85 h_85 => ?_)
            refine e_iload_n dX11_may_88 rfl ?_
            refine m_iaw (by decide) (rg_4 hW) dX11_may_89 h_85 (by omega) (by omega) (fun g_89 => ?_)
            refine e_iload_n dX11_may_90 rfl ?_
            refine e_cV (as := [_, _]) (ci := 11) dX11_may_91 k_X11_rightOf l_X11_165 i_X11_rightOf v_X11_rightOf hT rfl (by decide) ⟨_, _, rfl⟩ rfl rfl rfl rfl (Nat.le_of_ble_eq_true rfl) ⟨by decide, by decide⟩ (Nat.le_of_ble_eq_true rfl) (by decide) (m_rightOf hT (by first | exact hW | exact WR.up hW ⟨by decide, by decide⟩) ⟨by omega, by omega⟩ ⟨by omega, by omega⟩) ?_
            have g_91 := rightF_rg hW (M 4 p) (p / 16)
            refine e_iconst dX11_may_94 ?_
            refine e_icmp_ne (tgt := 102) dX11_may_95 (by decide) ⟨by omega, by omega⟩ ⟨by omega, by omega⟩ (fun c_95 => ?_) (fun c_95 => ?_)
            · refine e_iconst dX11_may_102 ?_
              exact e_iret dX11_may_103 (Or.inr ⟨rfl, by omega⟩) (e_ok (by unfold bi; split <;> first | rfl | (exfalso; omega)) rfl rfl)
            · refine e_iconst dX11_may_98 ?_
              refine e_goto (tgt := 103) dX11_may_99 (by decide) ?_
              exact e_iret dX11_may_103 (Or.inr ⟨rfl, by omega⟩) (e_ok (by unfold bi; split <;> first | rfl | (exfalso; omega)) rfl rfl)
      · simp only [bi_z, Classical.not_not] at c_39
        refine e_iload dX11_may_42 rfl ?_
        refine e_if_eq (tgt := 66) dX11_may_44 (by decide) ⟨by decide, by decide⟩ (fun c_44 => ?_) (fun c_44 => ?_)
        · exact absurd c_44 (by decide)
        · refine e_aload_n dX11_may_47 rfl ?_
          refine e_aload_n dX11_may_48 rfl ?_
          refine m_getR (kt := (20, 120, 20)) (by decide) dX11_may_49 f_X11_53 hT rfl (Nat.succ_ne_zero _) (fun q_49 h_49 => ?_)
          refine e_iload_n dX11_may_52 rfl ?_
          refine m_iaw (by decide) (rg_20 hW) dX11_may_53 h_49 (by omega) (by omega) (fun g_53 => ?_)
          refine e_iload_n dX11_may_54 rfl ?_
          refine e_cV (as := [_, _]) (ci := 11) dX11_may_55 k_X11_rightOf l_X11_165 i_X11_rightOf v_X11_rightOf hT rfl (by decide) ⟨_, _, rfl⟩ rfl rfl rfl rfl (Nat.le_of_ble_eq_true rfl) ⟨by decide, by decide⟩ (Nat.le_of_ble_eq_true rfl) (by decide) (m_rightOf hT (by first | exact hW | exact WR.up hW ⟨by decide, by decide⟩) ⟨by omega, by omega⟩ ⟨by omega, by omega⟩) ?_
          have g_55 := rightF_rg hW (M 20 v) (p / 16)
          refine e_iconst dX11_may_58 ?_
          refine e_icmp_ne (tgt := 66) dX11_may_59 (by decide) ⟨by omega, by omega⟩ ⟨by omega, by omega⟩ (fun c_59 => ?_) (fun c_59 => ?_)
          · refine e_iconst dX11_may_66 ?_
            refine e_istore (ls2 := [_, _, _, _, _, _]) dX11_may_67 (Nat.le_of_ble_eq_true rfl) rfl ?_
            refine e_iload dX11_may_69 rfl ?_
            refine e_if_eq (tgt := 102) dX11_may_71 (by decide) ⟨by decide, by decide⟩ (fun c_71 => ?_) (fun c_71 => ?_)
            · refine e_iconst dX11_may_102 ?_
              exact e_iret dX11_may_103 (Or.inr ⟨rfl, by omega⟩) (e_ok (by unfold bi; split <;> first | rfl | (exfalso; omega)) rfl rfl)
            · exact absurd c_71 (by decide)
          · refine e_iconst dX11_may_62 ?_
            refine e_goto (tgt := 67) dX11_may_63 (by decide) ?_
            refine e_istore (ls2 := [_, _, _, _, _, _]) dX11_may_67 (Nat.le_of_ble_eq_true rfl) rfl ?_
            refine e_iload dX11_may_69 rfl ?_
            refine e_if_eq (tgt := 102) dX11_may_71 (by decide) ⟨by decide, by decide⟩ (fun c_71 => ?_) (fun c_71 => ?_)
            · exact absurd c_71 (by decide)
            · refine e_aload_n dX11_may_74 rfl ?_
              refine m_getR (kt := (20, 48, 2)) (by decide) dX11_may_75 f_X11_7 hT rfl (Nat.succ_ne_zero _) (fun q_75 h_75 => ?_)
              refine e_iload_n dX11_may_78 rfl ?_
              refine m_iaw (by decide) (rg_2 hW) dX11_may_79 h_75 (by omega) (by omega) (fun g_79 => ?_)
              refine e_if_eq (tgt := 98) dX11_may_80 (by decide) ⟨by omega, by omega⟩ (fun c_80 => ?_) (fun c_80 => ?_)
              · refine e_iconst dX11_may_98 ?_
                refine e_goto (tgt := 103) dX11_may_99 (by decide) ?_
                exact e_iret dX11_may_103 (Or.inr ⟨rfl, by omega⟩) (e_ok (by unfold bi; split <;> first | rfl | (exfalso; omega)) rfl rfl)
              · refine e_aload_n dX11_may_83 rfl ?_
                refine e_aload_n dX11_may_84 rfl ?_
                refine m_getR (kt := (20, 48, 4)) (by decide) dX11_may_85 f_X11_17 hT rfl (Nat.succ_ne_zero _) (fun q_85 h_85 => ?_)
                refine e_iload_n dX11_may_88 rfl ?_
                refine m_iaw (by decide) (rg_4 hW) dX11_may_89 h_85 (by omega) (by omega) (fun g_89 => ?_)
                refine e_iload_n dX11_may_90 rfl ?_
                refine e_cV (as := [_, _]) (ci := 11) dX11_may_91 k_X11_rightOf l_X11_165 i_X11_rightOf v_X11_rightOf hT rfl (by decide) ⟨_, _, rfl⟩ rfl rfl rfl rfl (Nat.le_of_ble_eq_true rfl) ⟨by decide, by decide⟩ (Nat.le_of_ble_eq_true rfl) (by decide) (m_rightOf hT (by first | exact hW | exact WR.up hW ⟨by decide, by decide⟩) ⟨by omega, by omega⟩ ⟨by omega, by omega⟩) ?_
                have g_91 := rightF_rg hW (M 4 p) (p / 16)
                refine e_iconst dX11_may_94 ?_
                refine e_icmp_ne (tgt := 102) dX11_may_95 (by decide) ⟨by omega, by omega⟩ ⟨by omega, by omega⟩ (fun c_95 => ?_) (fun c_95 => ?_)
                · refine e_iconst dX11_may_102 ?_
                  exact e_iret dX11_may_103 (Or.inr ⟨rfl, by omega⟩) (e_ok (by unfold bi; split <;> first | rfl | (exfalso; omega)) rfl rfl)
                · refine e_iconst dX11_may_98 ?_
                  refine e_goto (tgt := 103) dX11_may_99 (by decide) ?_
                  exact e_iret dX11_may_103 (Or.inr ⟨rfl, by omega⟩) (e_ok (by unfold bi; split <;> first | rfl | (exfalso; omega)) rfl rfl)
set_option maxRecDepth 20000 in
set_option maxHeartbeats 4000000 in
theorem m_mayRead {K : q_K} {M C : q_S} {a : Nat} (hT : K a = (12, 0, 50)) (hW : WR M) {p v : Int} (hp : 0 ≤ p ∧ p < 48) (hv : -1 ≤ v ∧ v < 120) : q_E mX11_mayRead 0 [some (q_R a), some (q_I p), some (q_I v), none] [] K M C 0 0 (e_is (some (q_I (bi (mayReadP M p v)))) K M C) := by
  refine e_aload_n dX11_mayRead_0 rfl ?_
  refine e_iload_n dX11_mayRead_1 rfl ?_
  refine e_cV (as := [_]) (ci := 11) dX11_mayRead_2 k_X11_isIn l_X11_158 i_X11_isIn v_X11_isIn hT rfl (by decide) ⟨_, _, rfl⟩ rfl rfl rfl rfl (Nat.le_of_ble_eq_true rfl) ⟨by decide, by decide⟩ (Nat.le_of_ble_eq_true rfl) (by decide) (m_isIn hT (by first | exact hW | exact WR.up hW ⟨by decide, by decide⟩) ⟨by omega, by omega⟩) ?_
  refine e_if_eq (tgt := 17) dX11_mayRead_5 (by decide) bi_iI (fun c_5 => ?_) (fun c_5 => ?_)
  · simp only [bi_z, Classical.not_not] at c_5
    refine e_aload_n dX11_mayRead_17 rfl ?_
    refine m_getR (kt := (20, 48, 2)) (by decide) dX11_mayRead_18 f_X11_7 hT rfl (Nat.succ_ne_zero _) (fun q_18 h_18 => ?_)
    refine e_iload_n dX11_mayRead_21 rfl ?_
    refine m_iaw (by decide) (rg_2 hW) dX11_mayRead_22 h_18 (by omega) (by omega) (fun g_22 => ?_)
    refine e_if_eq (tgt := 35) dX11_mayRead_23 (by decide) ⟨by omega, by omega⟩ (fun c_23 => ?_) (fun c_23 => ?_)
    · refine e_iconst dX11_mayRead_35 ?_
      refine e_istore_n (ls2 := [_, _, _, _]) dX11_mayRead_36 (Nat.le_of_ble_eq_true rfl) rfl ?_
      refine e_iload_n dX11_mayRead_37 rfl ?_
      refine e_iconst dX11_mayRead_38 ?_
      refine e_icmp_eq (tgt := 55) dX11_mayRead_39 (by decide) ⟨by decide, by decide⟩ ⟨by decide, by decide⟩ (fun c_39 => ?_) (fun c_39 => ?_)
      · refine e_iconst dX11_mayRead_55 ?_
        refine e_goto (tgt := 60) dX11_mayRead_56 (by decide) ?_
        exact e_iret dX11_mayRead_60 (Or.inr ⟨rfl, by omega⟩) (e_ok (by unfold bi mayReadP mrdF; (first | rw [if_pos c_5] | rw [if_neg c_5, if_pos c_23] | rw [if_neg c_5, if_neg (Classical.not_not.mpr c_23)]); split <;> first | rfl | (exfalso; omega)) rfl rfl)
      · exact absurd c_39 (by decide)
    · refine e_aload_n dX11_mayRead_26 rfl ?_
      refine m_getR (kt := (20, 48, 4)) (by decide) dX11_mayRead_27 f_X11_17 hT rfl (Nat.succ_ne_zero _) (fun q_27 h_27 => ?_)
      refine e_iload_n dX11_mayRead_30 rfl ?_
      refine m_iaw (by decide) (rg_4 hW) dX11_mayRead_31 h_27 (by omega) (by omega) (fun g_31 => ?_)
      refine e_goto (tgt := 36) dX11_mayRead_32 (by decide) ?_
      refine e_istore_n (ls2 := [_, _, _, _]) dX11_mayRead_36 (Nat.le_of_ble_eq_true rfl) rfl ?_
      refine e_iload_n dX11_mayRead_37 rfl ?_
      refine e_iconst dX11_mayRead_38 ?_
      refine e_icmp_eq (tgt := 55) dX11_mayRead_39 (by decide) ⟨by omega, by omega⟩ ⟨by omega, by omega⟩ (fun c_39 => ?_) (fun c_39 => ?_)
      · refine e_iconst dX11_mayRead_55 ?_
        refine e_goto (tgt := 60) dX11_mayRead_56 (by decide) ?_
        exact e_iret dX11_mayRead_60 (Or.inr ⟨rfl, by omega⟩) (e_ok (by unfold bi mayReadP mrdF; (first | rw [if_pos c_5] | rw [if_neg c_5, if_pos c_23] | rw [if_neg c_5, if_neg (Classical.not_not.mpr c_23)]); split <;> first | rfl | (exfalso; omega)) rfl rfl)
      · refine e_aload_n dX11_mayRead_42 rfl ?_
        refine e_iload_n dX11_mayRead_43 rfl ?_
        refine e_iload_n dX11_mayRead_44 rfl ?_
        refine e_bipush dX11_mayRead_45 (by decide) ?_
        refine e_idiv dX11_mayRead_47 ⟨by omega, by omega⟩ ⟨by omega, by omega⟩ ?_
        refine e_cV (as := [_, _]) (ci := 11) dX11_mayRead_48 k_X11_rightOf l_X11_165 i_X11_rightOf v_X11_rightOf hT rfl (by decide) ⟨_, _, rfl⟩ rfl rfl rfl rfl (Nat.le_of_ble_eq_true rfl) ⟨by decide, by decide⟩ (Nat.le_of_ble_eq_true rfl) (by decide) (m_rightOf hT (by first | exact hW | exact WR.up hW ⟨by decide, by decide⟩) ⟨by omega, by omega⟩ ⟨by omega, by omega⟩) ?_
        have g_48 := rightF_rg hW (M 4 p) (p / 16)
        refine e_iconst dX11_mayRead_51 ?_
        refine e_icmp_lt (tgt := 59) dX11_mayRead_52 (by decide) ⟨by omega, by omega⟩ ⟨by omega, by omega⟩ (fun c_52 => ?_) (fun c_52 => ?_)
        · refine e_iconst dX11_mayRead_59 ?_
          exact e_iret dX11_mayRead_60 (Or.inr ⟨rfl, by omega⟩) (e_ok (by unfold bi mayReadP mrdF; (first | rw [if_pos c_5] | rw [if_neg c_5, if_pos c_23] | rw [if_neg c_5, if_neg (Classical.not_not.mpr c_23)]); split <;> first | rfl | (exfalso; omega)) rfl rfl)
        · refine e_iconst dX11_mayRead_55 ?_
          refine e_goto (tgt := 60) dX11_mayRead_56 (by decide) ?_
          exact e_iret dX11_mayRead_60 (Or.inr ⟨rfl, by omega⟩) (e_ok (by unfold bi mayReadP mrdF; (first | rw [if_pos c_5] | rw [if_neg c_5, if_pos c_23] | rw [if_neg c_5, if_neg (Classical.not_not.mpr c_23)]); split <;> first | rfl | (exfalso; omega)) rfl rfl)
  · simp only [bi_z, Classical.not_not] at c_5
    refine e_aload_n dX11_mayRead_8 rfl ?_
    refine m_getR (kt := (20, 120, 20)) (by decide) dX11_mayRead_9 f_X11_53 hT rfl (Nat.succ_ne_zero _) (fun q_9 h_9 => ?_)
    refine e_iload_n dX11_mayRead_12 rfl ?_
    refine m_iaw (by decide) (rg_20 hW) dX11_mayRead_13 h_9 (by omega) (by omega) (fun g_13 => ?_)
    refine e_goto (tgt := 36) dX11_mayRead_14 (by decide) ?_
    refine e_istore_n (ls2 := [_, _, _, _]) dX11_mayRead_36 (Nat.le_of_ble_eq_true rfl) rfl ?_
    refine e_iload_n dX11_mayRead_37 rfl ?_
    refine e_iconst dX11_mayRead_38 ?_
    refine e_icmp_eq (tgt := 55) dX11_mayRead_39 (by decide) ⟨by omega, by omega⟩ ⟨by omega, by omega⟩ (fun c_39 => ?_) (fun c_39 => ?_)
    · refine e_iconst dX11_mayRead_55 ?_
      refine e_goto (tgt := 60) dX11_mayRead_56 (by decide) ?_
      exact e_iret dX11_mayRead_60 (Or.inr ⟨rfl, by omega⟩) (e_ok (by unfold bi mayReadP mrdF; (first | rw [if_pos c_5] | rw [if_neg c_5, if_pos c_23] | rw [if_neg c_5, if_neg (Classical.not_not.mpr c_23)]); split <;> first | rfl | (exfalso; omega)) rfl rfl)
    · refine e_aload_n dX11_mayRead_42 rfl ?_
      refine e_iload_n dX11_mayRead_43 rfl ?_
      refine e_iload_n dX11_mayRead_44 rfl ?_
      refine e_bipush dX11_mayRead_45 (by decide) ?_
      refine e_idiv dX11_mayRead_47 ⟨by omega, by omega⟩ ⟨by omega, by omega⟩ ?_
      refine e_cV (as := [_, _]) (ci := 11) dX11_mayRead_48 k_X11_rightOf l_X11_165 i_X11_rightOf v_X11_rightOf hT rfl (by decide) ⟨_, _, rfl⟩ rfl rfl rfl rfl (Nat.le_of_ble_eq_true rfl) ⟨by decide, by decide⟩ (Nat.le_of_ble_eq_true rfl) (by decide) (m_rightOf hT (by first | exact hW | exact WR.up hW ⟨by decide, by decide⟩) ⟨by omega, by omega⟩ ⟨by omega, by omega⟩) ?_
      have g_48 := rightF_rg hW (M 20 v) (p / 16)
      refine e_iconst dX11_mayRead_51 ?_
      refine e_icmp_lt (tgt := 59) dX11_mayRead_52 (by decide) ⟨by omega, by omega⟩ ⟨by omega, by omega⟩ (fun c_52 => ?_) (fun c_52 => ?_)
      · refine e_iconst dX11_mayRead_59 ?_
        exact e_iret dX11_mayRead_60 (Or.inr ⟨rfl, by omega⟩) (e_ok (by unfold bi mayReadP mrdF; (first | rw [if_pos c_5] | rw [if_neg c_5, if_pos c_23] | rw [if_neg c_5, if_neg (Classical.not_not.mpr c_23)]); split <;> first | rfl | (exfalso; omega)) rfl rfl)
      · refine e_iconst dX11_mayRead_55 ?_
        refine e_goto (tgt := 60) dX11_mayRead_56 (by decide) ?_
        exact e_iret dX11_mayRead_60 (Or.inr ⟨rfl, by omega⟩) (e_ok (by unfold bi mayReadP mrdF; (first | rw [if_pos c_5] | rw [if_neg c_5, if_pos c_23] | rw [if_neg c_5, if_neg (Classical.not_not.mpr c_23)]); split <;> first | rfl | (exfalso; omega)) rfl rfl)
set_option maxRecDepth 20000 in
set_option maxHeartbeats 4000000 in
theorem m_canGo {K : q_K} {M C : q_S} {a : Nat} (hT : K a = (12, 0, 50)) (hW : WR M) {p : Int} (hp : 0 ≤ p ∧ p < 48) : q_E mX11_canGo 0 [some (q_R a), some (q_I p)] [] K M C 0 0 (e_is (some (q_I (bi (canGoP M p)))) K M C) := by
  refine e_aload_n dX11_canGo_0 rfl ?_
  refine m_getR (kt := (20, 48, 2)) (by decide) dX11_canGo_1 f_X11_7 hT rfl (Nat.succ_ne_zero _) (fun q_1 h_1 => ?_)
  refine e_iload_n dX11_canGo_4 rfl ?_
  refine m_iaw (by decide) (rg_2 hW) dX11_canGo_5 h_1 (by omega) (by omega) (fun g_5 => ?_)
  refine e_iconst dX11_canGo_6 ?_
  refine e_icmp_ne (tgt := 31) dX11_canGo_7 (by decide) ⟨by omega, by omega⟩ ⟨by omega, by omega⟩ (fun c_7 => ?_) (fun c_7 => ?_)
  · refine e_iconst dX11_canGo_31 ?_
    exact e_iret dX11_canGo_32 (Or.inr ⟨rfl, by omega⟩) (e_ok (by unfold bi; split <;> first | rfl | (exfalso; omega)) rfl rfl)
  · refine e_aload_n dX11_canGo_10 rfl ?_
    refine e_iload_n dX11_canGo_11 rfl ?_
    refine e_cV (as := [_]) (ci := 11) dX11_canGo_12 k_X11_isOther l_X11_152 i_X11_isOther v_X11_isOther hT rfl (by decide) ⟨_, _, rfl⟩ rfl rfl rfl rfl (Nat.le_of_ble_eq_true rfl) ⟨by decide, by decide⟩ (Nat.le_of_ble_eq_true rfl) (by decide) (m_isOther hT (by first | exact hW | exact WR.up hW ⟨by decide, by decide⟩) ⟨by omega, by omega⟩) ?_
    refine e_if_ne (tgt := 31) dX11_canGo_15 (by decide) bi_iI (fun c_15 => ?_) (fun c_15 => ?_)
    · simp only [bi_z, Classical.not_not] at c_15
      refine e_iconst dX11_canGo_31 ?_
      exact e_iret dX11_canGo_32 (Or.inr ⟨rfl, by omega⟩) (e_ok (by unfold bi; split <;> first | rfl | (exfalso; omega)) rfl rfl)
    · simp only [bi_z, Classical.not_not] at c_15
      refine e_aload_n dX11_canGo_18 rfl ?_
      refine m_getR (kt := (20, 48, 6)) (by decide) dX11_canGo_19 f_X11_23 hT rfl (Nat.succ_ne_zero _) (fun q_19 h_19 => ?_)
      refine e_iload_n dX11_canGo_22 rfl ?_
      refine m_iaw (by decide) (rg_6 hW) dX11_canGo_23 h_19 (by omega) (by omega) (fun g_23 => ?_)
      refine e_if_ne (tgt := 31) dX11_canGo_24 (by decide) ⟨by omega, by omega⟩ (fun c_24 => ?_) (fun c_24 => ?_)
      · refine e_iconst dX11_canGo_31 ?_
        exact e_iret dX11_canGo_32 (Or.inr ⟨rfl, by omega⟩) (e_ok (by unfold bi; split <;> first | rfl | (exfalso; omega)) rfl rfl)
      · refine e_iconst dX11_canGo_27 ?_
        refine e_goto (tgt := 32) dX11_canGo_28 (by decide) ?_
        exact e_iret dX11_canGo_32 (Or.inr ⟨rfl, by omega⟩) (e_ok (by unfold bi; split <;> first | rfl | (exfalso; omega)) rfl rfl)
set_option maxRecDepth 20000 in
set_option maxHeartbeats 4000000 in
theorem m_comesToHouse {K : q_K} {M C : q_S} {a : Nat} (hT : K a = (12, 0, 50)) (hW : WR M) {x : Int} (hx : 0 ≤ x ∧ x < 20000) (hpk : pkF M ≤ 1500) : q_E mX11_comesToHouse 0 [some (q_R a), some (q_I x)] [] K M C 0 0 (e_is none K (comesF M x) C) := by
  have hp5 : (M 50 34 = 0 ∨ 5 ≤ M 35 (M 50 34 - 1)) → M 50 34 + 1 ≤ 1500 := by
    intro h; unfold pkF at hpk; rw [if_pos h] at hpk; exact hpk
  refine e_aload_n dX11_comesToHouse_0 rfl ?_
  refine m_getI (by decide) dX11_comesToHouse_1 f_X11_196 (Or.inl rfl) hT ?_
  have g_1 := rs_34 hW
  refine e_if_eq (tgt := 22) dX11_comesToHouse_4 (by decide) ⟨by omega, by omega⟩ (fun c_4 => ?_) (fun c_4 => ?_)
  · refine e_aload_n dX11_comesToHouse_22 rfl ?_
    refine e_dup dX11_comesToHouse_23 rfl ?_
    refine m_getI (by decide) dX11_comesToHouse_24 f_X11_196 (Or.inl rfl) hT ?_
    have g_24 := rs_34 hW
    refine e_iconst dX11_comesToHouse_27 ?_
    refine e_iadd dX11_comesToHouse_28 ?_
    refine m_putI (by decide) dX11_comesToHouse_29 f_X11_196 rfl hT ⟨by omega, by omega⟩ ?_
    refine e_aload_n dX11_comesToHouse_32 rfl ?_
    refine m_getR (kt := (20, 20000, 31)) (by decide) dX11_comesToHouse_33 f_X11_83 hT rfl (Nat.succ_ne_zero _) (fun q_33 h_33 => ?_)
    refine e_iload_n dX11_comesToHouse_36 rfl ?_
    refine e_aload_n dX11_comesToHouse_37 rfl ?_
    refine m_getI (by decide) dX11_comesToHouse_38 f_X11_196 (Or.inl rfl) hT ?_
    simp only [q_us_ap, editsF_3, Int.reduceEq, Int.reduceNeg, false_and, and_false, and_self, if_true, if_false, true_and, and_true, ite_self]
    have g_38 := rs_34 hW
    refine m_iast (by decide) dX11_comesToHouse_41 h_33 (by omega) (by omega) ⟨by omega, by omega⟩ ?_
    refine e_aload_n dX11_comesToHouse_42 rfl ?_
    refine m_getR (kt := (20, 1500, 35)) (by decide) dX11_comesToHouse_43 f_X11_92 hT rfl (Nat.succ_ne_zero _) (fun q_43 h_43 => ?_)
    refine e_aload_n dX11_comesToHouse_46 rfl ?_
    refine m_getI (by decide) dX11_comesToHouse_47 f_X11_196 (Or.inl rfl) hT ?_
    simp only [q_us_ap, editsF_3, Int.reduceEq, Int.reduceNeg, false_and, and_false, and_self, if_true, if_false, true_and, and_true, ite_self]
    have g_47 := rs_34 hW
    refine e_iconst dX11_comesToHouse_50 ?_
    refine e_isub dX11_comesToHouse_51 ?_
    refine e_dup2 dX11_comesToHouse_52 rfl rfl ?_
    refine m_iald (by decide) dX11_comesToHouse_53 h_43 (by omega) (by omega) ?_
    simp only [q_us_ap, editsF_3, Int.reduceEq, Int.reduceNeg, false_and, and_false, and_self, if_true, if_false, true_and, and_true, ite_self]
    have g_53 := rg_35 hW (((M 50 34) + 1) - 1) (by omega) (by omega)
    refine e_iconst dX11_comesToHouse_54 ?_
    refine e_iadd dX11_comesToHouse_55 ?_
    refine m_iast (by decide) dX11_comesToHouse_56 h_43 (by omega) (by omega) ⟨by omega, by omega⟩ ?_
    refine e_aload_n dX11_comesToHouse_57 rfl ?_
    refine m_getR (kt := (20, 20000, 32)) (by decide) dX11_comesToHouse_58 f_X11_86 hT rfl (Nat.succ_ne_zero _) (fun q_58 h_58 => ?_)
    refine e_iload_n dX11_comesToHouse_61 rfl ?_
    refine e_iconst dX11_comesToHouse_62 ?_
    refine m_iast (by decide) dX11_comesToHouse_63 h_58 (by omega) (by omega) ⟨by omega, by omega⟩ ?_
    refine e_aload_n dX11_comesToHouse_64 rfl ?_
    refine e_dup dX11_comesToHouse_65 rfl ?_
    refine m_getI (by decide) dX11_comesToHouse_66 f_X11_199 (Or.inl rfl) hT ?_
    simp only [q_us_ap, editsF_3, Int.reduceEq, Int.reduceNeg, false_and, and_false, and_self, if_true, if_false, true_and, and_true, ite_self]
    have g_66 := rs_39 hW
    refine e_iconst dX11_comesToHouse_69 ?_
    refine e_iadd dX11_comesToHouse_70 ?_
    refine m_putI (by decide) dX11_comesToHouse_71 f_X11_199 rfl hT ⟨by omega, by omega⟩ ?_
    exact e_ret dX11_comesToHouse_74 rfl (e_ok rfl (by unfold comesF; split <;> first | rfl | (exfalso; omega)) rfl)
  · refine e_aload_n dX11_comesToHouse_7 rfl ?_
    refine m_getR (kt := (20, 1500, 35)) (by decide) dX11_comesToHouse_8 f_X11_92 hT rfl (Nat.succ_ne_zero _) (fun q_8 h_8 => ?_)
    refine e_aload_n dX11_comesToHouse_11 rfl ?_
    refine m_getI (by decide) dX11_comesToHouse_12 f_X11_196 (Or.inl rfl) hT ?_
    have g_12 := rs_34 hW
    refine e_iconst dX11_comesToHouse_15 ?_
    refine e_isub dX11_comesToHouse_16 ?_
    refine m_iaw (by decide) (rg_35 hW) dX11_comesToHouse_17 h_8 (by omega) (by omega) (fun g_17 => ?_)
    refine e_iconst dX11_comesToHouse_18 ?_
    refine e_icmp_lt (tgt := 32) dX11_comesToHouse_19 (by decide) ⟨by omega, by omega⟩ ⟨by omega, by omega⟩ (fun c_19 => ?_) (fun c_19 => ?_)
    · refine e_aload_n dX11_comesToHouse_32 rfl ?_
      refine m_getR (kt := (20, 20000, 31)) (by decide) dX11_comesToHouse_33 f_X11_83 hT rfl (Nat.succ_ne_zero _) (fun q_33 h_33 => ?_)
      refine e_iload_n dX11_comesToHouse_36 rfl ?_
      refine e_aload_n dX11_comesToHouse_37 rfl ?_
      refine m_getI (by decide) dX11_comesToHouse_38 f_X11_196 (Or.inl rfl) hT ?_
      have g_38 := rs_34 hW
      refine m_iast (by decide) dX11_comesToHouse_41 h_33 (by omega) (by omega) ⟨by omega, by omega⟩ ?_
      refine e_aload_n dX11_comesToHouse_42 rfl ?_
      refine m_getR (kt := (20, 1500, 35)) (by decide) dX11_comesToHouse_43 f_X11_92 hT rfl (Nat.succ_ne_zero _) (fun q_43 h_43 => ?_)
      refine e_aload_n dX11_comesToHouse_46 rfl ?_
      refine m_getI (by decide) dX11_comesToHouse_47 f_X11_196 (Or.inl rfl) hT ?_
      simp only [q_us_ap, editsF_3, Int.reduceEq, Int.reduceNeg, false_and, and_false, and_self, if_true, if_false, true_and, and_true, ite_self]
      have g_47 := rs_34 hW
      refine e_iconst dX11_comesToHouse_50 ?_
      refine e_isub dX11_comesToHouse_51 ?_
      refine e_dup2 dX11_comesToHouse_52 rfl rfl ?_
      refine m_iald (by decide) dX11_comesToHouse_53 h_43 (by omega) (by omega) ?_
      simp only [q_us_ap, editsF_3, Int.reduceEq, Int.reduceNeg, false_and, and_false, and_self, if_true, if_false, true_and, and_true, ite_self]
      have g_53 := rg_35 hW ((M 50 34) - 1) (by omega) (by omega)
      refine e_iconst dX11_comesToHouse_54 ?_
      refine e_iadd dX11_comesToHouse_55 ?_
      refine m_iast (by decide) dX11_comesToHouse_56 h_43 (by omega) (by omega) ⟨by omega, by omega⟩ ?_
      refine e_aload_n dX11_comesToHouse_57 rfl ?_
      refine m_getR (kt := (20, 20000, 32)) (by decide) dX11_comesToHouse_58 f_X11_86 hT rfl (Nat.succ_ne_zero _) (fun q_58 h_58 => ?_)
      refine e_iload_n dX11_comesToHouse_61 rfl ?_
      refine e_iconst dX11_comesToHouse_62 ?_
      refine m_iast (by decide) dX11_comesToHouse_63 h_58 (by omega) (by omega) ⟨by omega, by omega⟩ ?_
      refine e_aload_n dX11_comesToHouse_64 rfl ?_
      refine e_dup dX11_comesToHouse_65 rfl ?_
      refine m_getI (by decide) dX11_comesToHouse_66 f_X11_199 (Or.inl rfl) hT ?_
      simp only [q_us_ap, editsF_3, Int.reduceEq, Int.reduceNeg, false_and, and_false, and_self, if_true, if_false, true_and, and_true, ite_self]
      have g_66 := rs_39 hW
      refine e_iconst dX11_comesToHouse_69 ?_
      refine e_iadd dX11_comesToHouse_70 ?_
      refine m_putI (by decide) dX11_comesToHouse_71 f_X11_199 rfl hT ⟨by omega, by omega⟩ ?_
      exact e_ret dX11_comesToHouse_74 rfl (e_ok rfl (by unfold comesF; split <;> first | rfl | (exfalso; omega)) rfl)
    · refine e_aload_n dX11_comesToHouse_22 rfl ?_
      refine e_dup dX11_comesToHouse_23 rfl ?_
      refine m_getI (by decide) dX11_comesToHouse_24 f_X11_196 (Or.inl rfl) hT ?_
      have g_24 := rs_34 hW
      refine e_iconst dX11_comesToHouse_27 ?_
      refine e_iadd dX11_comesToHouse_28 ?_
      refine m_putI (by decide) dX11_comesToHouse_29 f_X11_196 rfl hT ⟨by omega, by omega⟩ ?_
      refine e_aload_n dX11_comesToHouse_32 rfl ?_
      refine m_getR (kt := (20, 20000, 31)) (by decide) dX11_comesToHouse_33 f_X11_83 hT rfl (Nat.succ_ne_zero _) (fun q_33 h_33 => ?_)
      refine e_iload_n dX11_comesToHouse_36 rfl ?_
      refine e_aload_n dX11_comesToHouse_37 rfl ?_
      refine m_getI (by decide) dX11_comesToHouse_38 f_X11_196 (Or.inl rfl) hT ?_
      simp only [q_us_ap, editsF_3, Int.reduceEq, Int.reduceNeg, false_and, and_false, and_self, if_true, if_false, true_and, and_true, ite_self]
      have g_38 := rs_34 hW
      refine m_iast (by decide) dX11_comesToHouse_41 h_33 (by omega) (by omega) ⟨by omega, by omega⟩ ?_
      refine e_aload_n dX11_comesToHouse_42 rfl ?_
      refine m_getR (kt := (20, 1500, 35)) (by decide) dX11_comesToHouse_43 f_X11_92 hT rfl (Nat.succ_ne_zero _) (fun q_43 h_43 => ?_)
      refine e_aload_n dX11_comesToHouse_46 rfl ?_
      refine m_getI (by decide) dX11_comesToHouse_47 f_X11_196 (Or.inl rfl) hT ?_
      simp only [q_us_ap, editsF_3, Int.reduceEq, Int.reduceNeg, false_and, and_false, and_self, if_true, if_false, true_and, and_true, ite_self]
      have g_47 := rs_34 hW
      refine e_iconst dX11_comesToHouse_50 ?_
      refine e_isub dX11_comesToHouse_51 ?_
      refine e_dup2 dX11_comesToHouse_52 rfl rfl ?_
      refine m_iald (by decide) dX11_comesToHouse_53 h_43 (by omega) (by omega) ?_
      simp only [q_us_ap, editsF_3, Int.reduceEq, Int.reduceNeg, false_and, and_false, and_self, if_true, if_false, true_and, and_true, ite_self]
      have g_53 := rg_35 hW (((M 50 34) + 1) - 1) (by omega) (by omega)
      refine e_iconst dX11_comesToHouse_54 ?_
      refine e_iadd dX11_comesToHouse_55 ?_
      refine m_iast (by decide) dX11_comesToHouse_56 h_43 (by omega) (by omega) ⟨by omega, by omega⟩ ?_
      refine e_aload_n dX11_comesToHouse_57 rfl ?_
      refine m_getR (kt := (20, 20000, 32)) (by decide) dX11_comesToHouse_58 f_X11_86 hT rfl (Nat.succ_ne_zero _) (fun q_58 h_58 => ?_)
      refine e_iload_n dX11_comesToHouse_61 rfl ?_
      refine e_iconst dX11_comesToHouse_62 ?_
      refine m_iast (by decide) dX11_comesToHouse_63 h_58 (by omega) (by omega) ⟨by omega, by omega⟩ ?_
      refine e_aload_n dX11_comesToHouse_64 rfl ?_
      refine e_dup dX11_comesToHouse_65 rfl ?_
      refine m_getI (by decide) dX11_comesToHouse_66 f_X11_199 (Or.inl rfl) hT ?_
      simp only [q_us_ap, editsF_3, Int.reduceEq, Int.reduceNeg, false_and, and_false, and_self, if_true, if_false, true_and, and_true, ite_self]
      have g_66 := rs_39 hW
      refine e_iconst dX11_comesToHouse_69 ?_
      refine e_iadd dX11_comesToHouse_70 ?_
      refine m_putI (by decide) dX11_comesToHouse_71 f_X11_199 rfl hT ⟨by omega, by omega⟩ ?_
      exact e_ret dX11_comesToHouse_74 rfl (e_ok rfl (by unfold comesF; split <;> first | rfl | (exfalso; omega)) rfl)
set_option maxRecDepth 20000 in
set_option maxHeartbeats 4000000 in
theorem m_asOf {K : q_K} {M C : q_S} {a : Nat} (hT : K a = (12, 0, 50)) (hW : WR M) {f t : Int} (hf : q_iI f) (ht : q_iI t)  : q_E mX11_asOf 0 [some (q_R a), some (q_I f), some (q_I t)] [] K M C 0 0 (e_is (some (q_I (asOfMF M f t).1)) K (asOfMF M f t).2 C) := by
  refine e_aload_n dX11_asOf_0 rfl ?_
  refine e_iload_n dX11_asOf_1 rfl ?_
  refine e_cS (as := [_]) dX11_asOf_2 k_X11_isFile l_X11_139 s_X11_isFile rfl rfl rfl rfl (Nat.le_of_ble_eq_true rfl) ⟨by decide, by decide⟩ (Nat.le_of_ble_eq_true rfl) (by decide) (m_isFile (by assumption)) ?_
  refine e_if_ne (tgt := 12) dX11_asOf_5 (by decide) bi_iI (fun c_5 => ?_) (fun c_5 => ?_)
  · simp only [bi_z, Classical.not_not] at c_5
    refine e_iload_n dX11_asOf_12 rfl ?_
    refine e_iconst dX11_asOf_13 ?_
    refine e_aload_n dX11_asOf_14 rfl ?_
    refine m_getI (by decide) dX11_asOf_15 f_X11_132 (Or.inl rfl) hT ?_
    have g_15 := rs_1 hW
    refine e_cS (as := [_, _, _]) dX11_asOf_18 k_X11_in l_X11_105 s_X11_in rfl rfl rfl rfl (Nat.le_of_ble_eq_true rfl) ⟨by decide, by decide⟩ (Nat.le_of_ble_eq_true rfl) (by decide) (m_in (by first | assumption | exact ⟨by decide, by decide⟩ | exact ⟨by omega, by omega⟩) (by first | assumption | exact ⟨by decide, by decide⟩ | exact ⟨by omega, by omega⟩) (by first | assumption | exact ⟨by decide, by decide⟩ | exact ⟨by omega, by omega⟩)) ?_
    refine e_if_ne (tgt := 28) dX11_asOf_21 (by decide) bi_iI (fun c_21 => ?_) (fun c_21 => ?_)
    · simp only [bi_z, Classical.not_not] at c_21
      refine e_iconst dX11_asOf_28 ?_
      refine m_putI (by decide) dX11_asOf_29 f_X11_101 rfl hT ⟨by omega, by omega⟩ ?_
      refine e_aload_n dX11_asOf_32 rfl ?_
      refine m_getI (by decide) dX11_asOf_33 f_X11_101 (Or.inl rfl) hT ?_
      simp only [q_us_ap, editsF_3, Int.reduceEq, Int.reduceNeg, false_and, and_false, and_self, if_true, if_false, true_and, and_true, ite_self]
      have g_33 := rs_41 hW
      refine e_if_ne (tgt := 48) dX11_asOf_36 (by decide) ⟨by decide, by decide⟩ (fun c_36 => ?_) (fun c_36 => ?_)
      · exact absurd c_36 (by decide)
      · refine e_aload_n dX11_asOf_39 rfl ?_
        refine e_iload_n dX11_asOf_40 rfl ?_
        refine e_iload_n dX11_asOf_41 rfl ?_
        refine e_cV (as := [_, _]) (ci := 11) dX11_asOf_42 k_X11_asOfTime l_X11_252 i_X11_asOfTime v_X11_asOfTime hT rfl (by decide) ⟨_, _, rfl⟩ rfl rfl rfl rfl (Nat.le_of_ble_eq_true rfl) ⟨by decide, by decide⟩ (Nat.le_of_ble_eq_true rfl) (by decide) (m_asOfTime hT (by first | exact hW | exact WR.up hW ⟨by decide, by decide⟩) ⟨by omega, by omega⟩ ⟨by omega, by omega⟩) ?_
        try simp only [lockF_thr, rightF_thr, latestOf_thr, asOfT_thr]
        have g_42 := asOfT_rg hW f t
        refine e_goto (tgt := 49) dX11_asOf_45 (by decide) ?_
        refine e_iret dX11_asOf_49 (Or.inl rfl) ?_
        first
        | exact e_ok rfl rfl rfl
        | (unfold asOfMF; repeat' split
           all_goals first | exact e_ok rfl rfl rfl | (exfalso; omega) | (refine e_ok ?_ rfl rfl; unfold bi; repeat' split; all_goals first | rfl | (exfalso; omega)))
    · simp only [bi_z, Classical.not_not] at c_21
      refine e_iconst dX11_asOf_24 ?_
      refine e_goto (tgt := 29) dX11_asOf_25 (by decide) ?_
      refine m_putI (by decide) dX11_asOf_29 f_X11_101 rfl hT ⟨by omega, by omega⟩ ?_
      refine e_aload_n dX11_asOf_32 rfl ?_
      refine m_getI (by decide) dX11_asOf_33 f_X11_101 (Or.inl rfl) hT ?_
      simp only [q_us_ap, editsF_3, Int.reduceEq, Int.reduceNeg, false_and, and_false, and_self, if_true, if_false, true_and, and_true, ite_self]
      have g_33 := rs_41 hW
      refine e_if_ne (tgt := 48) dX11_asOf_36 (by decide) ⟨by decide, by decide⟩ (fun c_36 => ?_) (fun c_36 => ?_)
      · refine e_iconst dX11_asOf_48 ?_
        refine e_iret dX11_asOf_49 (Or.inl rfl) ?_
        first
        | exact e_ok rfl rfl rfl
        | (unfold asOfMF; repeat' split
           all_goals first | exact e_ok rfl rfl rfl | (exfalso; omega) | (refine e_ok ?_ rfl rfl; unfold bi; repeat' split; all_goals first | rfl | (exfalso; omega)))
      · exact absurd c_36 (by decide)
  · simp only [bi_z, Classical.not_not] at c_5
    refine e_iconst dX11_asOf_8 ?_
    refine e_goto (tgt := 29) dX11_asOf_9 (by decide) ?_
    refine m_putI (by decide) dX11_asOf_29 f_X11_101 rfl hT ⟨by omega, by omega⟩ ?_
    refine e_aload_n dX11_asOf_32 rfl ?_
    refine m_getI (by decide) dX11_asOf_33 f_X11_101 (Or.inl rfl) hT ?_
    simp only [q_us_ap, editsF_3, Int.reduceEq, Int.reduceNeg, false_and, and_false, and_self, if_true, if_false, true_and, and_true, ite_self]
    have g_33 := rs_41 hW
    refine e_if_ne (tgt := 48) dX11_asOf_36 (by decide) ⟨by decide, by decide⟩ (fun c_36 => ?_) (fun c_36 => ?_)
    · refine e_iconst dX11_asOf_48 ?_
      refine e_iret dX11_asOf_49 (Or.inl rfl) ?_
      first
      | exact e_ok rfl rfl rfl
      | (unfold asOfMF; repeat' split
         all_goals first | exact e_ok rfl rfl rfl | (exfalso; omega) | (refine e_ok ?_ rfl rfl; unfold bi; repeat' split; all_goals first | rfl | (exfalso; omega)))
    · exact absurd c_36 (by decide)
set_option maxRecDepth 20000 in
set_option maxHeartbeats 4000000 in
theorem m_restores {K : q_K} {M C : q_S} {a : Nat} (hT : K a = (12, 0, 50)) (hW : WR M) {f t : Int} (hf : 0 ≤ f ∧ f ≤ 15) (ht : 0 ≤ t ∧ t ≤ 2000) (hv : M 50 16 < 120) : q_E mX11_restores 0 [some (q_R a), some (q_I f), some (q_I t), none, none, none] [] K M C 0 0 (e_is (some (q_I (restoresF M f t).1)) K (restoresF M f t).2 C) := by
  refine e_aload_n dX11_restores_0 rfl ?_
  refine e_iload_n dX11_restores_1 rfl ?_
  refine e_iload_n dX11_restores_2 rfl ?_
  refine e_cV (as := [_, _]) (ci := 11) dX11_restores_3 k_X11_asOfTime l_X11_252 i_X11_asOfTime v_X11_asOfTime hT rfl (by decide) ⟨_, _, rfl⟩ rfl rfl rfl rfl (Nat.le_of_ble_eq_true rfl) ⟨by decide, by decide⟩ (Nat.le_of_ble_eq_true rfl) (by decide) (m_asOfTime hT (by first | exact hW | exact WR.up hW ⟨by decide, by decide⟩) ⟨by omega, by omega⟩ ⟨by omega, by omega⟩) ?_
  have g_3 := asOfT_rg hW f t
  refine e_istore_n (ls2 := [_, _, _, _, _, _]) dX11_restores_6 (Nat.le_of_ble_eq_true rfl) rfl ?_
  refine e_aload_n dX11_restores_7 rfl ?_
  refine e_iload_n dX11_restores_8 rfl ?_
  refine e_cV (as := [_]) (ci := 11) dX11_restores_9 k_X11_latestOf l_X11_184 i_X11_latestOf v_X11_latestOf hT rfl (by decide) ⟨_, _, rfl⟩ rfl rfl rfl rfl (Nat.le_of_ble_eq_true rfl) ⟨by decide, by decide⟩ (Nat.le_of_ble_eq_true rfl) (by decide) (m_latestOf hT (by first | exact hW | exact WR.up hW ⟨by decide, by decide⟩) ⟨by omega, by omega⟩) ?_
  have g_9 := latestOf_rg hW f
  refine e_istore (ls2 := [_, _, _, _, _, _]) dX11_restores_12 (Nat.le_of_ble_eq_true rfl) rfl ?_
  refine e_iload_n dX11_restores_14 rfl ?_
  refine e_iconst dX11_restores_15 ?_
  refine e_icmp_eq (tgt := 63) dX11_restores_16 (by decide) ⟨by omega, by omega⟩ ⟨by omega, by omega⟩ (fun c_16 => ?_) (fun c_16 => ?_)
  · refine e_iconst dX11_restores_63 ?_
    refine e_goto (tgt := 68) dX11_restores_64 (by decide) ?_
    refine e_istore (ls2 := [_, _, _, _, _, _]) dX11_restores_68 (Nat.le_of_ble_eq_true rfl) rfl ?_
    refine e_iload dX11_restores_70 rfl ?_
    refine e_if_eq (tgt := 79) dX11_restores_72 (by decide) ⟨by decide, by decide⟩ (fun c_72 => ?_) (fun c_72 => ?_)
    · exact absurd c_72 (by decide)
    · refine e_iconst dX11_restores_75 ?_
      refine e_goto (tgt := 97) dX11_restores_76 (by decide) ?_
      refine e_iret dX11_restores_97 (Or.inl rfl) ?_
      unfold restoresF
      split <;> first | exact e_ok rfl rfl rfl | (exfalso; omega)
  · refine e_aload_n dX11_restores_19 rfl ?_
    refine m_getR (kt := (21, 120, 21)) (by decide) dX11_restores_20 f_X11_56 hT rfl (Nat.succ_ne_zero _) (fun q_20 h_20 => ?_)
    refine e_iload_n dX11_restores_23 rfl ?_
    refine m_law (by decide) (rg_21 hW) dX11_restores_24 h_20 (by omega) (by omega) (fun g_24 => ?_)
    refine e_aload_n dX11_restores_25 rfl ?_
    refine m_getR (kt := (21, 120, 21)) (by decide) dX11_restores_26 f_X11_56 hT rfl (Nat.succ_ne_zero _) (fun q_26 h_26 => ?_)
    refine e_iload dX11_restores_29 rfl ?_
    refine m_law (by decide) (rg_21 hW) dX11_restores_31 h_26 (by omega) (by omega) (fun g_31 => ?_)
    refine e_lcmp dX11_restores_32 ⟨by omega, by omega⟩ ⟨by omega, by omega⟩ ?_
    refine e_if_ne (tgt := 67) dX11_restores_33 (by decide) (q_cmp_iI _ _) (fun c_33 => ?_) (fun c_33 => ?_)
    · rw [q_cmp_eq] at c_33
      refine e_iconst dX11_restores_67 ?_
      refine e_istore (ls2 := [_, _, _, _, _, _]) dX11_restores_68 (Nat.le_of_ble_eq_true rfl) rfl ?_
      refine e_iload dX11_restores_70 rfl ?_
      refine e_if_eq (tgt := 79) dX11_restores_72 (by decide) ⟨by decide, by decide⟩ (fun c_72 => ?_) (fun c_72 => ?_)
      · refine e_aload_n dX11_restores_79 rfl ?_
        refine e_iload_n dX11_restores_80 rfl ?_
        refine e_iconst dX11_restores_81 ?_
        refine e_aload_n dX11_restores_82 rfl ?_
        refine m_getR (kt := (21, 120, 21)) (by decide) dX11_restores_83 f_X11_56 hT rfl (Nat.succ_ne_zero _) (fun q_83 h_83 => ?_)
        refine e_iload_n dX11_restores_86 rfl ?_
        refine m_law (by decide) (rg_21 hW) dX11_restores_87 h_83 (by omega) (by omega) (fun g_87 => ?_)
        refine e_aload_n dX11_restores_88 rfl ?_
        refine m_getR (kt := (20, 120, 20)) (by decide) dX11_restores_89 f_X11_53 hT rfl (Nat.succ_ne_zero _) (fun q_89 h_89 => ?_)
        refine e_iload_n dX11_restores_92 rfl ?_
        refine m_iaw (by decide) (rg_20 hW) dX11_restores_93 h_89 (by omega) (by omega) (fun g_93 => ?_)
        refine e_cV (as := [_, _, _, _]) (ci := 11) dX11_restores_94 k_X11_makes l_X11_176 i_X11_makes v_X11_makes hT rfl (by decide) ⟨_, _, rfl⟩ rfl rfl rfl rfl (Nat.le_of_ble_eq_true rfl) ⟨by decide, by decide⟩ (Nat.le_of_ble_eq_true rfl) (by decide) (m_makes hT hW hv hf ⟨by omega, by omega⟩ ⟨by omega, by omega⟩ ⟨by omega, by omega⟩) ?_
        refine e_iret dX11_restores_97 (Or.inl rfl) ?_
        unfold restoresF
        split <;> first | exact e_ok rfl rfl rfl | (exfalso; omega)
      · exact absurd c_72 (by decide)
    · rw [q_cmp_eq] at c_33
      refine e_aload_n dX11_restores_36 rfl ?_
      refine m_getR (kt := (21, 120, 21)) (by decide) dX11_restores_37 f_X11_56 hT rfl (Nat.succ_ne_zero _) (fun q_37 h_37 => ?_)
      refine e_iload_n dX11_restores_40 rfl ?_
      refine m_law (by decide) (rg_21 hW) dX11_restores_41 h_37 (by omega) (by omega) (fun g_41 => ?_)
      refine e_lconst (z := 0) dX11_restores_42 rfl ?_
      refine e_lcmp dX11_restores_43 ⟨by omega, by omega⟩ ⟨by omega, by omega⟩ ?_
      refine e_if_eq (tgt := 63) dX11_restores_44 (by decide) (q_cmp_iI _ _) (fun c_44 => ?_) (fun c_44 => ?_)
      · rw [q_cmp_eq] at c_44
        refine e_iconst dX11_restores_63 ?_
        refine e_goto (tgt := 68) dX11_restores_64 (by decide) ?_
        refine e_istore (ls2 := [_, _, _, _, _, _]) dX11_restores_68 (Nat.le_of_ble_eq_true rfl) rfl ?_
        refine e_iload dX11_restores_70 rfl ?_
        refine e_if_eq (tgt := 79) dX11_restores_72 (by decide) ⟨by decide, by decide⟩ (fun c_72 => ?_) (fun c_72 => ?_)
        · exact absurd c_72 (by decide)
        · refine e_iconst dX11_restores_75 ?_
          refine e_goto (tgt := 97) dX11_restores_76 (by decide) ?_
          refine e_iret dX11_restores_97 (Or.inl rfl) ?_
          unfold restoresF
          split <;> first | exact e_ok rfl rfl rfl | (exfalso; omega)
      · rw [q_cmp_eq] at c_44
        refine e_aload_n dX11_restores_47 rfl ?_
        refine m_getR (kt := (20, 120, 20)) (by decide) dX11_restores_48 f_X11_53 hT rfl (Nat.succ_ne_zero _) (fun q_48 h_48 => ?_)
        refine e_iload_n dX11_restores_51 rfl ?_
        refine m_iaw (by decide) (rg_20 hW) dX11_restores_52 h_48 (by omega) (by omega) (fun g_52 => ?_)
        refine e_aload_n dX11_restores_53 rfl ?_
        refine m_getR (kt := (20, 120, 20)) (by decide) dX11_restores_54 f_X11_53 hT rfl (Nat.succ_ne_zero _) (fun q_54 h_54 => ?_)
        refine e_iload dX11_restores_57 rfl ?_
        refine m_iaw (by decide) (rg_20 hW) dX11_restores_59 h_54 (by omega) (by omega) (fun g_59 => ?_)
        refine e_icmp_ne (tgt := 67) dX11_restores_60 (by decide) ⟨by omega, by omega⟩ ⟨by omega, by omega⟩ (fun c_60 => ?_) (fun c_60 => ?_)
        · refine e_iconst dX11_restores_67 ?_
          refine e_istore (ls2 := [_, _, _, _, _, _]) dX11_restores_68 (Nat.le_of_ble_eq_true rfl) rfl ?_
          refine e_iload dX11_restores_70 rfl ?_
          refine e_if_eq (tgt := 79) dX11_restores_72 (by decide) ⟨by decide, by decide⟩ (fun c_72 => ?_) (fun c_72 => ?_)
          · refine e_aload_n dX11_restores_79 rfl ?_
            refine e_iload_n dX11_restores_80 rfl ?_
            refine e_iconst dX11_restores_81 ?_
            refine e_aload_n dX11_restores_82 rfl ?_
            refine m_getR (kt := (21, 120, 21)) (by decide) dX11_restores_83 f_X11_56 hT rfl (Nat.succ_ne_zero _) (fun q_83 h_83 => ?_)
            refine e_iload_n dX11_restores_86 rfl ?_
            refine m_law (by decide) (rg_21 hW) dX11_restores_87 h_83 (by omega) (by omega) (fun g_87 => ?_)
            refine e_aload_n dX11_restores_88 rfl ?_
            refine m_getR (kt := (20, 120, 20)) (by decide) dX11_restores_89 f_X11_53 hT rfl (Nat.succ_ne_zero _) (fun q_89 h_89 => ?_)
            refine e_iload_n dX11_restores_92 rfl ?_
            refine m_iaw (by decide) (rg_20 hW) dX11_restores_93 h_89 (by omega) (by omega) (fun g_93 => ?_)
            refine e_cV (as := [_, _, _, _]) (ci := 11) dX11_restores_94 k_X11_makes l_X11_176 i_X11_makes v_X11_makes hT rfl (by decide) ⟨_, _, rfl⟩ rfl rfl rfl rfl (Nat.le_of_ble_eq_true rfl) ⟨by decide, by decide⟩ (Nat.le_of_ble_eq_true rfl) (by decide) (m_makes hT hW hv hf ⟨by omega, by omega⟩ ⟨by omega, by omega⟩ ⟨by omega, by omega⟩) ?_
            refine e_iret dX11_restores_97 (Or.inl rfl) ?_
            unfold restoresF
            split <;> first | exact e_ok rfl rfl rfl | (exfalso; omega)
          · exact absurd c_72 (by decide)
        · refine e_iconst dX11_restores_63 ?_
          refine e_goto (tgt := 68) dX11_restores_64 (by decide) ?_
          refine e_istore (ls2 := [_, _, _, _, _, _]) dX11_restores_68 (Nat.le_of_ble_eq_true rfl) rfl ?_
          refine e_iload dX11_restores_70 rfl ?_
          refine e_if_eq (tgt := 79) dX11_restores_72 (by decide) ⟨by decide, by decide⟩ (fun c_72 => ?_) (fun c_72 => ?_)
          · exact absurd c_72 (by decide)
          · refine e_iconst dX11_restores_75 ?_
            refine e_goto (tgt := 97) dX11_restores_76 (by decide) ?_
            refine e_iret dX11_restores_97 (Or.inl rfl) ?_
            unfold restoresF
            split <;> first | exact e_ok rfl rfl rfl | (exfalso; omega)
set_option maxRecDepth 20000 in
set_option maxHeartbeats 4000000 in
theorem m_version {K : q_K} {M C : q_S} {a : Nat} (hT : K a = (12, 0, 50)) (hW : WR M) {v w : Int} (hv : q_iI v) (hw : q_iI w)  : q_E mX11_version 0 [some (q_R a), some (q_I v), some (q_I w), none] [] K M C 0 0 (e_is (some (q_I (versionF M v w).1)) K (versionF M v w).2 C) := by
  refine e_aload_n dX11_version_0 rfl ?_
  refine e_iload_n dX11_version_1 rfl ?_
  refine e_iconst dX11_version_2 ?_
  refine e_aload_n dX11_version_3 rfl ?_
  refine m_getI (by decide) dX11_version_4 f_X11_155 (Or.inl rfl) hT ?_
  have g_4 := rs_16 hW
  refine e_iconst dX11_version_7 ?_
  refine e_isub dX11_version_8 ?_
  refine e_cS (as := [_, _, _]) dX11_version_9 k_X11_in l_X11_105 s_X11_in rfl rfl rfl rfl (Nat.le_of_ble_eq_true rfl) ⟨by decide, by decide⟩ (Nat.le_of_ble_eq_true rfl) (by decide) (m_in (by first | assumption | exact ⟨by decide, by decide⟩ | exact ⟨by omega, by omega⟩) (by first | assumption | exact ⟨by decide, by decide⟩ | exact ⟨by omega, by omega⟩) (by first | assumption | exact ⟨by decide, by decide⟩ | exact ⟨by omega, by omega⟩)) ?_
  refine e_if_ne (tgt := 19) dX11_version_12 (by decide) bi_iI (fun c_12 => ?_) (fun c_12 => ?_)
  · simp only [bi_z, Classical.not_not] at c_12
    refine e_iload_n dX11_version_19 rfl ?_
    refine e_iconst dX11_version_20 ?_
    refine e_iconst dX11_version_21 ?_
    refine e_cS (as := [_, _, _]) dX11_version_22 k_X11_in l_X11_105 s_X11_in rfl rfl rfl rfl (Nat.le_of_ble_eq_true rfl) ⟨by decide, by decide⟩ (Nat.le_of_ble_eq_true rfl) (by decide) (m_in (by first | assumption | exact ⟨by decide, by decide⟩ | exact ⟨by omega, by omega⟩) (by first | assumption | exact ⟨by decide, by decide⟩ | exact ⟨by omega, by omega⟩) (by first | assumption | exact ⟨by decide, by decide⟩ | exact ⟨by omega, by omega⟩)) ?_
    refine e_if_ne (tgt := 32) dX11_version_25 (by decide) bi_iI (fun c_25 => ?_) (fun c_25 => ?_)
    · simp only [bi_z, Classical.not_not] at c_25
      refine e_iconst dX11_version_32 ?_
      refine m_putI (by decide) dX11_version_33 f_X11_101 rfl hT ⟨by omega, by omega⟩ ?_
      refine e_aload_n dX11_version_36 rfl ?_
      refine m_getI (by decide) dX11_version_37 f_X11_101 (Or.inl rfl) hT ?_
      simp only [q_us_ap, editsF_3, Int.reduceEq, Int.reduceNeg, false_and, and_false, and_self, if_true, if_false, true_and, and_true, ite_self]
      have g_37 := rs_41 hW
      refine e_if_le (tgt := 45) dX11_version_40 (by decide) ⟨by decide, by decide⟩ (fun c_40 => ?_) (fun c_40 => ?_)
      · refine e_aload_n dX11_version_45 rfl ?_
        refine m_getR (kt := (21, 120, 21)) (by decide) dX11_version_46 f_X11_56 hT rfl (Nat.succ_ne_zero _) (fun q_46 h_46 => ?_)
        refine e_iload_n dX11_version_49 rfl ?_
        refine m_lald (by decide) dX11_version_50 h_46 (by omega) (by omega) ?_
        simp only [q_us_ap, editsF_3, Int.reduceEq, Int.reduceNeg, false_and, and_false, and_self, if_true, if_false, true_and, and_true, ite_self]
        have g_50 := rg_21 hW v (by omega) (by omega)
        refine e_lconst (z := 0) dX11_version_51 rfl ?_
        refine e_lcmp dX11_version_52 ⟨by omega, by omega⟩ ⟨by omega, by omega⟩ ?_
        refine e_if_ne (tgt := 60) dX11_version_53 (by decide) (q_cmp_iI _ _) (fun c_53 => ?_) (fun c_53 => ?_)
        · rw [q_cmp_eq] at c_53
          refine e_iconst dX11_version_60 ?_
          refine e_istore_n (ls2 := [_, _, _, _]) dX11_version_61 (Nat.le_of_ble_eq_true rfl) rfl ?_
          refine e_iload_n dX11_version_62 rfl ?_
          refine e_if_ne (tgt := 75) dX11_version_63 (by decide) ⟨by omega, by omega⟩ (fun c_63 => ?_) (fun c_63 => ?_)
          · refine e_iload_n dX11_version_75 rfl ?_
            refine e_iconst dX11_version_76 ?_
            refine e_icmp_ne (tgt := 89) dX11_version_77 (by decide) ⟨by omega, by omega⟩ ⟨by omega, by omega⟩ (fun c_77 => ?_) (fun c_77 => ?_)
            · refine e_iload_n dX11_version_89 rfl ?_
              refine e_iconst dX11_version_90 ?_
              refine e_icmp_ne (tgt := 103) dX11_version_91 (by decide) ⟨by omega, by omega⟩ ⟨by omega, by omega⟩ (fun c_91 => ?_) (fun c_91 => ?_)
              · refine e_iload_n dX11_version_103 rfl ?_
                refine e_iconst dX11_version_104 ?_
                refine e_icmp_ne (tgt := 125) dX11_version_105 (by decide) ⟨by omega, by omega⟩ ⟨by omega, by omega⟩ (fun c_105 => ?_) (fun c_105 => ?_)
                · refine e_iload_n dX11_version_125 rfl ?_
                  refine e_iconst dX11_version_126 ?_
                  refine e_icmp_ne (tgt := 142) dX11_version_127 (by decide) ⟨by omega, by omega⟩ ⟨by omega, by omega⟩ (fun c_127 => ?_) (fun c_127 => ?_)
                  · refine e_iconst dX11_version_142 ?_
                    refine e_aload_n dX11_version_143 rfl ?_
                    refine m_getR (kt := (20, 120, 22)) (by decide) dX11_version_144 f_X11_59 hT rfl (Nat.succ_ne_zero _) (fun q_144 h_144 => ?_)
                    refine e_iload_n dX11_version_147 rfl ?_
                    refine m_iald (by decide) dX11_version_148 h_144 (by omega) (by omega) ?_
                    simp only [q_us_ap, editsF_3, Int.reduceEq, Int.reduceNeg, false_and, and_false, and_self, if_true, if_false, true_and, and_true, ite_self]
                    have g_148 := rg_22 hW v (by omega) (by omega)
                    refine e_isub dX11_version_149 ?_
                    refine e_iret dX11_version_150 (Or.inl rfl) ?_
                    first
                    | exact e_ok rfl rfl rfl
                    | (unfold versionF; repeat' split
                       all_goals first | exact e_ok rfl rfl rfl | (exfalso; omega) | (refine e_ok ?_ rfl rfl; unfold bi; repeat' split; all_goals first | rfl | (exfalso; omega)))
                  · refine e_aload_n dX11_version_130 rfl ?_
                    refine m_getR (kt := (21, 120, 21)) (by decide) dX11_version_131 f_X11_56 hT rfl (Nat.succ_ne_zero _) (fun q_131 h_131 => ?_)
                    refine e_iload_n dX11_version_134 rfl ?_
                    refine m_lald (by decide) dX11_version_135 h_131 (by omega) (by omega) ?_
                    simp only [q_us_ap, editsF_3, Int.reduceEq, Int.reduceNeg, false_and, and_false, and_self, if_true, if_false, true_and, and_true, ite_self]
                    have g_135 := rg_21 hW v (by omega) (by omega)
                    refine e_cS (as := [_]) dX11_version_136 k_X11_lengthOf l_X11_111 s_X11_lengthOf rfl rfl rfl rfl (Nat.le_of_ble_eq_true rfl) ⟨by decide, by decide⟩ (Nat.le_of_ble_eq_true rfl) (by decide) (m_lengthOf ⟨by omega, by omega⟩) ?_
                    try simp only [lockF_thr, rightF_thr, latestOf_thr, asOfT_thr]
                    refine e_goto (tgt := 150) dX11_version_139 (by decide) ?_
                    refine e_iret dX11_version_150 (Or.inl rfl) ?_
                    first
                    | exact e_ok rfl rfl rfl
                    | (unfold versionF; repeat' split
                       all_goals first | exact e_ok rfl rfl rfl | (exfalso; omega) | (refine e_ok ?_ rfl rfl; unfold bi; repeat' split; all_goals first | rfl | (exfalso; omega)))
                · refine e_iload_n dX11_version_108 rfl ?_
                  refine e_if_eq (tgt := 116) dX11_version_109 (by decide) ⟨by decide, by decide⟩ (fun c_109 => ?_) (fun c_109 => ?_)
                  · refine e_aload_n dX11_version_116 rfl ?_
                    refine m_getR (kt := (20, 120, 20)) (by decide) dX11_version_117 f_X11_53 hT rfl (Nat.succ_ne_zero _) (fun q_117 h_117 => ?_)
                    refine e_iload_n dX11_version_120 rfl ?_
                    refine m_iald (by decide) dX11_version_121 h_117 (by omega) (by omega) ?_
                    simp only [q_us_ap, editsF_3, Int.reduceEq, Int.reduceNeg, false_and, and_false, and_self, if_true, if_false, true_and, and_true, ite_self]
                    have g_121 := rg_20 hW v (by omega) (by omega)
                    refine e_goto (tgt := 150) dX11_version_122 (by decide) ?_
                    refine e_iret dX11_version_150 (Or.inl rfl) ?_
                    first
                    | exact e_ok rfl rfl rfl
                    | (unfold versionF; repeat' split
                       all_goals first | exact e_ok rfl rfl rfl | (exfalso; omega) | (refine e_ok ?_ rfl rfl; unfold bi; repeat' split; all_goals first | rfl | (exfalso; omega)))
                  · exact absurd c_109 (by decide)
              · refine e_aload_n dX11_version_94 rfl ?_
                refine m_getR (kt := (20, 120, 19)) (by decide) dX11_version_95 f_X11_50 hT rfl (Nat.succ_ne_zero _) (fun q_95 h_95 => ?_)
                refine e_iload_n dX11_version_98 rfl ?_
                refine m_iald (by decide) dX11_version_99 h_95 (by omega) (by omega) ?_
                simp only [q_us_ap, editsF_3, Int.reduceEq, Int.reduceNeg, false_and, and_false, and_self, if_true, if_false, true_and, and_true, ite_self]
                have g_99 := rg_19 hW v (by omega) (by omega)
                refine e_goto (tgt := 150) dX11_version_100 (by decide) ?_
                refine e_iret dX11_version_150 (Or.inl rfl) ?_
                first
                | exact e_ok rfl rfl rfl
                | (unfold versionF; repeat' split
                   all_goals first | exact e_ok rfl rfl rfl | (exfalso; omega) | (refine e_ok ?_ rfl rfl; unfold bi; repeat' split; all_goals first | rfl | (exfalso; omega)))
            · refine e_aload_n dX11_version_80 rfl ?_
              refine m_getR (kt := (20, 120, 18)) (by decide) dX11_version_81 f_X11_47 hT rfl (Nat.succ_ne_zero _) (fun q_81 h_81 => ?_)
              refine e_iload_n dX11_version_84 rfl ?_
              refine m_iald (by decide) dX11_version_85 h_81 (by omega) (by omega) ?_
              simp only [q_us_ap, editsF_3, Int.reduceEq, Int.reduceNeg, false_and, and_false, and_self, if_true, if_false, true_and, and_true, ite_self]
              have g_85 := rg_18 hW v (by omega) (by omega)
              refine e_goto (tgt := 150) dX11_version_86 (by decide) ?_
              refine e_iret dX11_version_150 (Or.inl rfl) ?_
              first
              | exact e_ok rfl rfl rfl
              | (unfold versionF; repeat' split
                 all_goals first | exact e_ok rfl rfl rfl | (exfalso; omega) | (refine e_ok ?_ rfl rfl; unfold bi; repeat' split; all_goals first | rfl | (exfalso; omega)))
          · refine e_aload_n dX11_version_66 rfl ?_
            refine m_getR (kt := (20, 120, 17)) (by decide) dX11_version_67 f_X11_44 hT rfl (Nat.succ_ne_zero _) (fun q_67 h_67 => ?_)
            refine e_iload_n dX11_version_70 rfl ?_
            refine m_iald (by decide) dX11_version_71 h_67 (by omega) (by omega) ?_
            simp only [q_us_ap, editsF_3, Int.reduceEq, Int.reduceNeg, false_and, and_false, and_self, if_true, if_false, true_and, and_true, ite_self]
            have g_71 := rg_17 hW v (by omega) (by omega)
            refine e_goto (tgt := 150) dX11_version_72 (by decide) ?_
            refine e_iret dX11_version_150 (Or.inl rfl) ?_
            first
            | exact e_ok rfl rfl rfl
            | (unfold versionF; repeat' split
               all_goals first | exact e_ok rfl rfl rfl | (exfalso; omega) | (refine e_ok ?_ rfl rfl; unfold bi; repeat' split; all_goals first | rfl | (exfalso; omega)))
        · rw [q_cmp_eq] at c_53
          refine e_iconst dX11_version_56 ?_
          refine e_goto (tgt := 61) dX11_version_57 (by decide) ?_
          refine e_istore_n (ls2 := [_, _, _, _]) dX11_version_61 (Nat.le_of_ble_eq_true rfl) rfl ?_
          refine e_iload_n dX11_version_62 rfl ?_
          refine e_if_ne (tgt := 75) dX11_version_63 (by decide) ⟨by omega, by omega⟩ (fun c_63 => ?_) (fun c_63 => ?_)
          · refine e_iload_n dX11_version_75 rfl ?_
            refine e_iconst dX11_version_76 ?_
            refine e_icmp_ne (tgt := 89) dX11_version_77 (by decide) ⟨by omega, by omega⟩ ⟨by omega, by omega⟩ (fun c_77 => ?_) (fun c_77 => ?_)
            · refine e_iload_n dX11_version_89 rfl ?_
              refine e_iconst dX11_version_90 ?_
              refine e_icmp_ne (tgt := 103) dX11_version_91 (by decide) ⟨by omega, by omega⟩ ⟨by omega, by omega⟩ (fun c_91 => ?_) (fun c_91 => ?_)
              · refine e_iload_n dX11_version_103 rfl ?_
                refine e_iconst dX11_version_104 ?_
                refine e_icmp_ne (tgt := 125) dX11_version_105 (by decide) ⟨by omega, by omega⟩ ⟨by omega, by omega⟩ (fun c_105 => ?_) (fun c_105 => ?_)
                · refine e_iload_n dX11_version_125 rfl ?_
                  refine e_iconst dX11_version_126 ?_
                  refine e_icmp_ne (tgt := 142) dX11_version_127 (by decide) ⟨by omega, by omega⟩ ⟨by omega, by omega⟩ (fun c_127 => ?_) (fun c_127 => ?_)
                  · refine e_iconst dX11_version_142 ?_
                    refine e_aload_n dX11_version_143 rfl ?_
                    refine m_getR (kt := (20, 120, 22)) (by decide) dX11_version_144 f_X11_59 hT rfl (Nat.succ_ne_zero _) (fun q_144 h_144 => ?_)
                    refine e_iload_n dX11_version_147 rfl ?_
                    refine m_iald (by decide) dX11_version_148 h_144 (by omega) (by omega) ?_
                    simp only [q_us_ap, editsF_3, Int.reduceEq, Int.reduceNeg, false_and, and_false, and_self, if_true, if_false, true_and, and_true, ite_self]
                    have g_148 := rg_22 hW v (by omega) (by omega)
                    refine e_isub dX11_version_149 ?_
                    refine e_iret dX11_version_150 (Or.inl rfl) ?_
                    first
                    | exact e_ok rfl rfl rfl
                    | (unfold versionF; repeat' split
                       all_goals first | exact e_ok rfl rfl rfl | (exfalso; omega) | (refine e_ok ?_ rfl rfl; unfold bi; repeat' split; all_goals first | rfl | (exfalso; omega)))
                  · refine e_aload_n dX11_version_130 rfl ?_
                    refine m_getR (kt := (21, 120, 21)) (by decide) dX11_version_131 f_X11_56 hT rfl (Nat.succ_ne_zero _) (fun q_131 h_131 => ?_)
                    refine e_iload_n dX11_version_134 rfl ?_
                    refine m_lald (by decide) dX11_version_135 h_131 (by omega) (by omega) ?_
                    simp only [q_us_ap, editsF_3, Int.reduceEq, Int.reduceNeg, false_and, and_false, and_self, if_true, if_false, true_and, and_true, ite_self]
                    have g_135 := rg_21 hW v (by omega) (by omega)
                    refine e_cS (as := [_]) dX11_version_136 k_X11_lengthOf l_X11_111 s_X11_lengthOf rfl rfl rfl rfl (Nat.le_of_ble_eq_true rfl) ⟨by decide, by decide⟩ (Nat.le_of_ble_eq_true rfl) (by decide) (m_lengthOf ⟨by omega, by omega⟩) ?_
                    try simp only [lockF_thr, rightF_thr, latestOf_thr, asOfT_thr]
                    refine e_goto (tgt := 150) dX11_version_139 (by decide) ?_
                    refine e_iret dX11_version_150 (Or.inl rfl) ?_
                    first
                    | exact e_ok rfl rfl rfl
                    | (unfold versionF; repeat' split
                       all_goals first | exact e_ok rfl rfl rfl | (exfalso; omega) | (refine e_ok ?_ rfl rfl; unfold bi; repeat' split; all_goals first | rfl | (exfalso; omega)))
                · refine e_iload_n dX11_version_108 rfl ?_
                  refine e_if_eq (tgt := 116) dX11_version_109 (by decide) ⟨by decide, by decide⟩ (fun c_109 => ?_) (fun c_109 => ?_)
                  · exact absurd c_109 (by decide)
                  · refine e_iconst dX11_version_112 ?_
                    refine e_goto (tgt := 150) dX11_version_113 (by decide) ?_
                    refine e_iret dX11_version_150 (Or.inl rfl) ?_
                    first
                    | exact e_ok rfl rfl rfl
                    | (unfold versionF; repeat' split
                       all_goals first | exact e_ok rfl rfl rfl | (exfalso; omega) | (refine e_ok ?_ rfl rfl; unfold bi; repeat' split; all_goals first | rfl | (exfalso; omega)))
              · refine e_aload_n dX11_version_94 rfl ?_
                refine m_getR (kt := (20, 120, 19)) (by decide) dX11_version_95 f_X11_50 hT rfl (Nat.succ_ne_zero _) (fun q_95 h_95 => ?_)
                refine e_iload_n dX11_version_98 rfl ?_
                refine m_iald (by decide) dX11_version_99 h_95 (by omega) (by omega) ?_
                simp only [q_us_ap, editsF_3, Int.reduceEq, Int.reduceNeg, false_and, and_false, and_self, if_true, if_false, true_and, and_true, ite_self]
                have g_99 := rg_19 hW v (by omega) (by omega)
                refine e_goto (tgt := 150) dX11_version_100 (by decide) ?_
                refine e_iret dX11_version_150 (Or.inl rfl) ?_
                first
                | exact e_ok rfl rfl rfl
                | (unfold versionF; repeat' split
                   all_goals first | exact e_ok rfl rfl rfl | (exfalso; omega) | (refine e_ok ?_ rfl rfl; unfold bi; repeat' split; all_goals first | rfl | (exfalso; omega)))
            · refine e_aload_n dX11_version_80 rfl ?_
              refine m_getR (kt := (20, 120, 18)) (by decide) dX11_version_81 f_X11_47 hT rfl (Nat.succ_ne_zero _) (fun q_81 h_81 => ?_)
              refine e_iload_n dX11_version_84 rfl ?_
              refine m_iald (by decide) dX11_version_85 h_81 (by omega) (by omega) ?_
              simp only [q_us_ap, editsF_3, Int.reduceEq, Int.reduceNeg, false_and, and_false, and_self, if_true, if_false, true_and, and_true, ite_self]
              have g_85 := rg_18 hW v (by omega) (by omega)
              refine e_goto (tgt := 150) dX11_version_86 (by decide) ?_
              refine e_iret dX11_version_150 (Or.inl rfl) ?_
              first
              | exact e_ok rfl rfl rfl
              | (unfold versionF; repeat' split
                 all_goals first | exact e_ok rfl rfl rfl | (exfalso; omega) | (refine e_ok ?_ rfl rfl; unfold bi; repeat' split; all_goals first | rfl | (exfalso; omega)))
          · refine e_aload_n dX11_version_66 rfl ?_
            refine m_getR (kt := (20, 120, 17)) (by decide) dX11_version_67 f_X11_44 hT rfl (Nat.succ_ne_zero _) (fun q_67 h_67 => ?_)
            refine e_iload_n dX11_version_70 rfl ?_
            refine m_iald (by decide) dX11_version_71 h_67 (by omega) (by omega) ?_
            simp only [q_us_ap, editsF_3, Int.reduceEq, Int.reduceNeg, false_and, and_false, and_self, if_true, if_false, true_and, and_true, ite_self]
            have g_71 := rg_17 hW v (by omega) (by omega)
            refine e_goto (tgt := 150) dX11_version_72 (by decide) ?_
            refine e_iret dX11_version_150 (Or.inl rfl) ?_
            first
            | exact e_ok rfl rfl rfl
            | (unfold versionF; repeat' split
               all_goals first | exact e_ok rfl rfl rfl | (exfalso; omega) | (refine e_ok ?_ rfl rfl; unfold bi; repeat' split; all_goals first | rfl | (exfalso; omega)))
      · exact absurd c_40 (by decide)
    · simp only [bi_z, Classical.not_not] at c_25
      refine e_iconst dX11_version_28 ?_
      refine e_goto (tgt := 33) dX11_version_29 (by decide) ?_
      refine m_putI (by decide) dX11_version_33 f_X11_101 rfl hT ⟨by omega, by omega⟩ ?_
      refine e_aload_n dX11_version_36 rfl ?_
      refine m_getI (by decide) dX11_version_37 f_X11_101 (Or.inl rfl) hT ?_
      simp only [q_us_ap, editsF_3, Int.reduceEq, Int.reduceNeg, false_and, and_false, and_self, if_true, if_false, true_and, and_true, ite_self]
      have g_37 := rs_41 hW
      refine e_if_le (tgt := 45) dX11_version_40 (by decide) ⟨by decide, by decide⟩ (fun c_40 => ?_) (fun c_40 => ?_)
      · exact absurd c_40 (by decide)
      · refine e_iconst dX11_version_43 ?_
        refine e_iret dX11_version_44 (Or.inl rfl) ?_
        first
        | exact e_ok rfl rfl rfl
        | (unfold versionF; repeat' split
           all_goals first | exact e_ok rfl rfl rfl | (exfalso; omega) | (refine e_ok ?_ rfl rfl; unfold bi; repeat' split; all_goals first | rfl | (exfalso; omega)))
  · simp only [bi_z, Classical.not_not] at c_12
    refine e_iconst dX11_version_15 ?_
    refine e_goto (tgt := 33) dX11_version_16 (by decide) ?_
    refine m_putI (by decide) dX11_version_33 f_X11_101 rfl hT ⟨by omega, by omega⟩ ?_
    refine e_aload_n dX11_version_36 rfl ?_
    refine m_getI (by decide) dX11_version_37 f_X11_101 (Or.inl rfl) hT ?_
    simp only [q_us_ap, editsF_3, Int.reduceEq, Int.reduceNeg, false_and, and_false, and_self, if_true, if_false, true_and, and_true, ite_self]
    have g_37 := rs_41 hW
    refine e_if_le (tgt := 45) dX11_version_40 (by decide) ⟨by decide, by decide⟩ (fun c_40 => ?_) (fun c_40 => ?_)
    · exact absurd c_40 (by decide)
    · refine e_iconst dX11_version_43 ?_
      refine e_iret dX11_version_44 (Or.inl rfl) ?_
      first
      | exact e_ok rfl rfl rfl
      | (unfold versionF; repeat' split
         all_goals first | exact e_ok rfl rfl rfl | (exfalso; omega) | (refine e_ok ?_ rfl rfl; unfold bi; repeat' split; all_goals first | rfl | (exfalso; omega)))
theorem m_asks1 {K : q_K} {M C : q_S} {a : Nat} {m f : Int} (hT : K a = (12, 0, 50)) (hW : WR M) (hm : q_iI m) (hf : q_iI f) (hin : inMF m f) : q_E mX11_asks 0 (q_ent (q_n mX11_asks) (q_R a :: [q_I m, q_I f])) [] K M C 0 0 (e_is (some (q_I (16 * m + f))) K (thr M 0) C) := by
  have := m_asks (C := C) hT hW hm hf
  unfold asksF at this
  rw [if_pos hin] at this
  exact this
theorem m_asks0 {K : q_K} {M C : q_S} {a : Nat} {m f : Int} (hT : K a = (12, 0, 50)) (hW : WR M) (hm : q_iI m) (hf : q_iI f) (hin : ¬ inMF m f) : q_E mX11_asks 0 (q_ent (q_n mX11_asks) (q_R a :: [q_I m, q_I f])) [] K M C 0 0 (e_is (some (q_I (-1))) K (thr M 1) C) := by
  have := m_asks (C := C) hT hW hm hf
  unfold asksF at this
  rw [if_neg hin] at this
  exact this
set_option maxRecDepth 20000 in
set_option maxHeartbeats 4000000 in
theorem m_stateOf {K : q_K} {M C : q_S} {a : Nat} (hT : K a = (12, 0, 50)) (hW : WR M) {m f : Int} (hm : q_iI m) (hf : q_iI f)  : q_E mX11_stateOf 0 [some (q_R a), some (q_I m), some (q_I f), none] [] K M C 0 0 (e_is (some (q_I (stateOfF M m f).1)) K (stateOfF M m f).2 C) := by
  by_cases hin : inMF m f
  · refine e_aload_n dX11_stateOf_0 rfl ?_
    refine e_iload_n dX11_stateOf_1 rfl ?_
    refine e_iload_n dX11_stateOf_2 rfl ?_
    refine e_cV (as := [_, _]) (ci := 11) dX11_stateOf_3 k_X11_asks l_X11_261 i_X11_asks v_X11_asks hT rfl (by decide) ⟨_, _, rfl⟩ rfl rfl rfl rfl (Nat.le_of_ble_eq_true rfl) ⟨by decide, by decide⟩ (Nat.le_of_ble_eq_true rfl) (by decide) (m_asks1 hT hW hm hf hin) ?_
    refine e_istore_n (ls2 := [_, _, _, _]) dX11_stateOf_6 (Nat.le_of_ble_eq_true rfl) rfl ?_
    refine e_iload_n dX11_stateOf_7 rfl ?_
    refine e_iconst dX11_stateOf_8 ?_
    refine e_icmp_ne (tgt := 16) dX11_stateOf_9 (by decide) ⟨by omega, by omega⟩ ⟨by omega, by omega⟩ (fun c_9 => ?_) (fun c_9 => ?_)
    · refine e_aload_n dX11_stateOf_16 rfl ?_
      refine m_getR (kt := (20, 48, 2)) (by decide) dX11_stateOf_17 f_X11_7 hT rfl (Nat.succ_ne_zero _) (fun q_17 h_17 => ?_)
      refine e_iload_n dX11_stateOf_20 rfl ?_
      refine m_iald (by decide) dX11_stateOf_21 h_17 (by omega) (by omega) ?_
      simp only [q_us_ap, editsF_3, Int.reduceEq, Int.reduceNeg, false_and, and_false, and_self, if_true, if_false, true_and, and_true, ite_self]
      have g_21 := rg_2 hW (16 * m + f) (by omega) (by omega)
      refine e_iret dX11_stateOf_22 (Or.inl rfl) ?_
      first
      | exact e_ok rfl rfl rfl
      | (unfold stateOfF; repeat' split
         all_goals first | exact e_ok rfl rfl rfl | (exfalso; omega) | (refine e_ok ?_ rfl rfl; unfold bi; repeat' split; all_goals first | rfl | (exfalso; omega)))
    · refine e_iconst dX11_stateOf_12 ?_
      refine e_goto (tgt := 22) dX11_stateOf_13 (by decide) ?_
      refine e_iret dX11_stateOf_22 (Or.inl rfl) ?_
      first
      | exact e_ok rfl rfl rfl
      | (unfold stateOfF; repeat' split
         all_goals first | exact e_ok rfl rfl rfl | (exfalso; omega) | (refine e_ok ?_ rfl rfl; unfold bi; repeat' split; all_goals first | rfl | (exfalso; omega)))
  · refine e_aload_n dX11_stateOf_0 rfl ?_
    refine e_iload_n dX11_stateOf_1 rfl ?_
    refine e_iload_n dX11_stateOf_2 rfl ?_
    refine e_cV (as := [_, _]) (ci := 11) dX11_stateOf_3 k_X11_asks l_X11_261 i_X11_asks v_X11_asks hT rfl (by decide) ⟨_, _, rfl⟩ rfl rfl rfl rfl (Nat.le_of_ble_eq_true rfl) ⟨by decide, by decide⟩ (Nat.le_of_ble_eq_true rfl) (by decide) (m_asks0 hT hW hm hf hin) ?_
    refine e_istore_n (ls2 := [_, _, _, _]) dX11_stateOf_6 (Nat.le_of_ble_eq_true rfl) rfl ?_
    refine e_iload_n dX11_stateOf_7 rfl ?_
    refine e_iconst dX11_stateOf_8 ?_
    refine e_icmp_ne (tgt := 16) dX11_stateOf_9 (by decide) ⟨by decide, by decide⟩ ⟨by decide, by decide⟩ (fun c_9 => ?_) (fun c_9 => ?_)
    · exact absurd c_9 (by decide)
    · refine e_iconst dX11_stateOf_12 ?_
      refine e_goto (tgt := 22) dX11_stateOf_13 (by decide) ?_
      refine e_iret dX11_stateOf_22 (Or.inl rfl) ?_
      first
      | exact e_ok rfl rfl rfl
      | (unfold stateOfF; repeat' split
         all_goals first | exact e_ok rfl rfl rfl | (exfalso; omega) | (refine e_ok ?_ rfl rfl; unfold bi; repeat' split; all_goals first | rfl | (exfalso; omega)))
set_option maxRecDepth 20000 in
set_option maxHeartbeats 4000000 in
theorem m_folderOf {K : q_K} {M C : q_S} {a : Nat} (hT : K a = (12, 0, 50)) (hW : WR M) {m f : Int} (hm : q_iI m) (hf : q_iI f)  : q_E mX11_folderOf 0 [some (q_R a), some (q_I m), some (q_I f), none] [] K M C 0 0 (e_is (some (q_I (folderOfF M m f).1)) K (folderOfF M m f).2 C) := by
  by_cases hin : inMF m f
  · refine e_aload_n dX11_folderOf_0 rfl ?_
    refine e_iload_n dX11_folderOf_1 rfl ?_
    refine e_iload_n dX11_folderOf_2 rfl ?_
    refine e_cV (as := [_, _]) (ci := 11) dX11_folderOf_3 k_X11_asks l_X11_261 i_X11_asks v_X11_asks hT rfl (by decide) ⟨_, _, rfl⟩ rfl rfl rfl rfl (Nat.le_of_ble_eq_true rfl) ⟨by decide, by decide⟩ (Nat.le_of_ble_eq_true rfl) (by decide) (m_asks1 hT hW hm hf hin) ?_
    refine e_istore_n (ls2 := [_, _, _, _]) dX11_folderOf_6 (Nat.le_of_ble_eq_true rfl) rfl ?_
    refine e_iload_n dX11_folderOf_7 rfl ?_
    refine e_iconst dX11_folderOf_8 ?_
    refine e_icmp_ne (tgt := 16) dX11_folderOf_9 (by decide) ⟨by omega, by omega⟩ ⟨by omega, by omega⟩ (fun c_9 => ?_) (fun c_9 => ?_)
    · refine e_aload_n dX11_folderOf_16 rfl ?_
      refine m_getR (kt := (20, 48, 2)) (by decide) dX11_folderOf_17 f_X11_7 hT rfl (Nat.succ_ne_zero _) (fun q_17 h_17 => ?_)
      refine e_iload_n dX11_folderOf_20 rfl ?_
      refine m_iald (by decide) dX11_folderOf_21 h_17 (by omega) (by omega) ?_
      simp only [q_us_ap, editsF_3, Int.reduceEq, Int.reduceNeg, false_and, and_false, and_self, if_true, if_false, true_and, and_true, ite_self]
      have g_21 := rg_2 hW (16 * m + f) (by omega) (by omega)
      refine e_if_ne (tgt := 29) dX11_folderOf_22 (by decide) ⟨by omega, by omega⟩ (fun c_22 => ?_) (fun c_22 => ?_)
      · refine e_aload_n dX11_folderOf_29 rfl ?_
        refine m_getR (kt := (20, 48, 4)) (by decide) dX11_folderOf_30 f_X11_17 hT rfl (Nat.succ_ne_zero _) (fun q_30 h_30 => ?_)
        refine e_iload_n dX11_folderOf_33 rfl ?_
        refine m_iald (by decide) dX11_folderOf_34 h_30 (by omega) (by omega) ?_
        simp only [q_us_ap, editsF_3, Int.reduceEq, Int.reduceNeg, false_and, and_false, and_self, if_true, if_false, true_and, and_true, ite_self]
        have g_34 := rg_4 hW (16 * m + f) (by omega) (by omega)
        refine e_iret dX11_folderOf_35 (Or.inl rfl) ?_
        first
        | exact e_ok rfl rfl rfl
        | (unfold folderOfF; repeat' split
           all_goals first | exact e_ok rfl rfl rfl | (exfalso; omega) | (refine e_ok ?_ rfl rfl; unfold bi; repeat' split; all_goals first | rfl | (exfalso; omega)))
      · refine e_iconst dX11_folderOf_25 ?_
        refine e_goto (tgt := 35) dX11_folderOf_26 (by decide) ?_
        refine e_iret dX11_folderOf_35 (Or.inl rfl) ?_
        first
        | exact e_ok rfl rfl rfl
        | (unfold folderOfF; repeat' split
           all_goals first | exact e_ok rfl rfl rfl | (exfalso; omega) | (refine e_ok ?_ rfl rfl; unfold bi; repeat' split; all_goals first | rfl | (exfalso; omega)))
    · refine e_iconst dX11_folderOf_12 ?_
      refine e_goto (tgt := 35) dX11_folderOf_13 (by decide) ?_
      refine e_iret dX11_folderOf_35 (Or.inl rfl) ?_
      first
      | exact e_ok rfl rfl rfl
      | (unfold folderOfF; repeat' split
         all_goals first | exact e_ok rfl rfl rfl | (exfalso; omega) | (refine e_ok ?_ rfl rfl; unfold bi; repeat' split; all_goals first | rfl | (exfalso; omega)))
  · refine e_aload_n dX11_folderOf_0 rfl ?_
    refine e_iload_n dX11_folderOf_1 rfl ?_
    refine e_iload_n dX11_folderOf_2 rfl ?_
    refine e_cV (as := [_, _]) (ci := 11) dX11_folderOf_3 k_X11_asks l_X11_261 i_X11_asks v_X11_asks hT rfl (by decide) ⟨_, _, rfl⟩ rfl rfl rfl rfl (Nat.le_of_ble_eq_true rfl) ⟨by decide, by decide⟩ (Nat.le_of_ble_eq_true rfl) (by decide) (m_asks0 hT hW hm hf hin) ?_
    refine e_istore_n (ls2 := [_, _, _, _]) dX11_folderOf_6 (Nat.le_of_ble_eq_true rfl) rfl ?_
    refine e_iload_n dX11_folderOf_7 rfl ?_
    refine e_iconst dX11_folderOf_8 ?_
    refine e_icmp_ne (tgt := 16) dX11_folderOf_9 (by decide) ⟨by decide, by decide⟩ ⟨by decide, by decide⟩ (fun c_9 => ?_) (fun c_9 => ?_)
    · exact absurd c_9 (by decide)
    · refine e_iconst dX11_folderOf_12 ?_
      refine e_goto (tgt := 35) dX11_folderOf_13 (by decide) ?_
      refine e_iret dX11_folderOf_35 (Or.inl rfl) ?_
      first
      | exact e_ok rfl rfl rfl
      | (unfold folderOfF; repeat' split
         all_goals first | exact e_ok rfl rfl rfl | (exfalso; omega) | (refine e_ok ?_ rfl rfl; unfold bi; repeat' split; all_goals first | rfl | (exfalso; omega)))
set_option maxRecDepth 20000 in
set_option maxHeartbeats 4000000 in
theorem m_seen {K : q_K} {M C : q_S} {a : Nat} (hT : K a = (12, 0, 50)) (hW : WR M) {m f : Int} (hm : q_iI m) (hf : q_iI f)  : q_E mX11_seen 0 [some (q_R a), some (q_I m), some (q_I f), none] [] K M C 0 0 (e_is (some (q_I (seenF M m f).1)) K (seenF M m f).2 C) := by
  by_cases hin : inMF m f
  · refine e_aload_n dX11_seen_0 rfl ?_
    refine e_iload_n dX11_seen_1 rfl ?_
    refine e_iload_n dX11_seen_2 rfl ?_
    refine e_cV (as := [_, _]) (ci := 11) dX11_seen_3 k_X11_asks l_X11_261 i_X11_asks v_X11_asks hT rfl (by decide) ⟨_, _, rfl⟩ rfl rfl rfl rfl (Nat.le_of_ble_eq_true rfl) ⟨by decide, by decide⟩ (Nat.le_of_ble_eq_true rfl) (by decide) (m_asks1 hT hW hm hf hin) ?_
    refine e_istore_n (ls2 := [_, _, _, _]) dX11_seen_6 (Nat.le_of_ble_eq_true rfl) rfl ?_
    refine e_iload_n dX11_seen_7 rfl ?_
    refine e_iconst dX11_seen_8 ?_
    refine e_icmp_ne (tgt := 16) dX11_seen_9 (by decide) ⟨by omega, by omega⟩ ⟨by omega, by omega⟩ (fun c_9 => ?_) (fun c_9 => ?_)
    · refine e_aload_n dX11_seen_16 rfl ?_
      refine m_getR (kt := (20, 48, 5)) (by decide) dX11_seen_17 f_X11_20 hT rfl (Nat.succ_ne_zero _) (fun q_17 h_17 => ?_)
      refine e_iload_n dX11_seen_20 rfl ?_
      refine m_iald (by decide) dX11_seen_21 h_17 (by omega) (by omega) ?_
      simp only [q_us_ap, editsF_3, Int.reduceEq, Int.reduceNeg, false_and, and_false, and_self, if_true, if_false, true_and, and_true, ite_self]
      have g_21 := rg_5 hW (16 * m + f) (by omega) (by omega)
      refine e_iconst dX11_seen_22 ?_
      refine e_isub dX11_seen_23 ?_
      refine e_iret dX11_seen_24 (Or.inl rfl) ?_
      first
      | exact e_ok rfl rfl rfl
      | (unfold seenF; repeat' split
         all_goals first | exact e_ok rfl rfl rfl | (exfalso; omega) | (refine e_ok ?_ rfl rfl; unfold bi; repeat' split; all_goals first | rfl | (exfalso; omega)))
    · refine e_iconst dX11_seen_12 ?_
      refine e_goto (tgt := 24) dX11_seen_13 (by decide) ?_
      refine e_iret dX11_seen_24 (Or.inl rfl) ?_
      first
      | exact e_ok rfl rfl rfl
      | (unfold seenF; repeat' split
         all_goals first | exact e_ok rfl rfl rfl | (exfalso; omega) | (refine e_ok ?_ rfl rfl; unfold bi; repeat' split; all_goals first | rfl | (exfalso; omega)))
  · refine e_aload_n dX11_seen_0 rfl ?_
    refine e_iload_n dX11_seen_1 rfl ?_
    refine e_iload_n dX11_seen_2 rfl ?_
    refine e_cV (as := [_, _]) (ci := 11) dX11_seen_3 k_X11_asks l_X11_261 i_X11_asks v_X11_asks hT rfl (by decide) ⟨_, _, rfl⟩ rfl rfl rfl rfl (Nat.le_of_ble_eq_true rfl) ⟨by decide, by decide⟩ (Nat.le_of_ble_eq_true rfl) (by decide) (m_asks0 hT hW hm hf hin) ?_
    refine e_istore_n (ls2 := [_, _, _, _]) dX11_seen_6 (Nat.le_of_ble_eq_true rfl) rfl ?_
    refine e_iload_n dX11_seen_7 rfl ?_
    refine e_iconst dX11_seen_8 ?_
    refine e_icmp_ne (tgt := 16) dX11_seen_9 (by decide) ⟨by decide, by decide⟩ ⟨by decide, by decide⟩ (fun c_9 => ?_) (fun c_9 => ?_)
    · exact absurd c_9 (by decide)
    · refine e_iconst dX11_seen_12 ?_
      refine e_goto (tgt := 24) dX11_seen_13 (by decide) ?_
      refine e_iret dX11_seen_24 (Or.inl rfl) ?_
      first
      | exact e_ok rfl rfl rfl
      | (unfold seenF; repeat' split
         all_goals first | exact e_ok rfl rfl rfl | (exfalso; omega) | (refine e_ok ?_ rfl rfl; unfold bi; repeat' split; all_goals first | rfl | (exfalso; omega)))
set_option maxRecDepth 20000 in
set_option maxHeartbeats 4000000 in
theorem m_isChanged {K : q_K} {M C : q_S} {a : Nat} (hT : K a = (12, 0, 50)) (hW : WR M) {m f : Int} (hm : q_iI m) (hf : q_iI f)  : q_E mX11_isChanged 0 [some (q_R a), some (q_I m), some (q_I f), none] [] K M C 0 0 (e_is (some (q_I (isChangedF M m f).1)) K (isChangedF M m f).2 C) := by
  by_cases hin : inMF m f
  · refine e_aload_n dX11_isChanged_0 rfl ?_
    refine e_iload_n dX11_isChanged_1 rfl ?_
    refine e_iload_n dX11_isChanged_2 rfl ?_
    refine e_cV (as := [_, _]) (ci := 11) dX11_isChanged_3 k_X11_asks l_X11_261 i_X11_asks v_X11_asks hT rfl (by decide) ⟨_, _, rfl⟩ rfl rfl rfl rfl (Nat.le_of_ble_eq_true rfl) ⟨by decide, by decide⟩ (Nat.le_of_ble_eq_true rfl) (by decide) (m_asks1 hT hW hm hf hin) ?_
    refine e_istore_n (ls2 := [_, _, _, _]) dX11_isChanged_6 (Nat.le_of_ble_eq_true rfl) rfl ?_
    refine e_iload_n dX11_isChanged_7 rfl ?_
    refine e_iconst dX11_isChanged_8 ?_
    refine e_icmp_eq (tgt := 24) dX11_isChanged_9 (by decide) ⟨by omega, by omega⟩ ⟨by omega, by omega⟩ (fun c_9 => ?_) (fun c_9 => ?_)
    · refine e_iconst dX11_isChanged_24 ?_
      refine e_iret dX11_isChanged_25 (Or.inr ⟨rfl, by omega⟩) ?_
      unfold isChangedF
      first
      | (rw [if_neg hin]; exact e_ok rfl rfl rfl)
      | (rw [if_pos hin]; refine e_ok ?_ rfl rfl; first | rw [bi_t (show isOtherP M (16 * m + f) from c_17)] | rw [bi_f (show ¬ isOtherP M (16 * m + f) from fun h => h c_17)])
      | (exfalso; omega)
    · refine e_aload_n dX11_isChanged_12 rfl ?_
      refine e_iload_n dX11_isChanged_13 rfl ?_
      refine e_cV (as := [_]) (ci := 11) dX11_isChanged_14 k_X11_isOther l_X11_152 i_X11_isOther v_X11_isOther hT rfl (by decide) ⟨_, _, rfl⟩ rfl rfl rfl rfl (Nat.le_of_ble_eq_true rfl) ⟨by decide, by decide⟩ (Nat.le_of_ble_eq_true rfl) (by decide) (m_isOther hT (by first | exact hW | exact WR.up hW ⟨by decide, by decide⟩) ⟨by omega, by omega⟩) ?_
      refine e_if_eq (tgt := 24) dX11_isChanged_17 (by decide) bi_iI (fun c_17 => ?_) (fun c_17 => ?_)
      · simp only [bi_z, Classical.not_not, q_us_ap, editsF_3, Int.reduceEq, Int.reduceNeg, false_and, and_false, and_self, if_true, if_false, true_and, and_true, ite_self, lockF_thr, rightF_thr, latestOf_thr, asOfT_thr] at c_17
        refine e_iconst dX11_isChanged_24 ?_
        refine e_iret dX11_isChanged_25 (Or.inr ⟨rfl, by omega⟩) ?_
        unfold isChangedF
        first
        | (rw [if_neg hin]; exact e_ok rfl rfl rfl)
        | (rw [if_pos hin]; refine e_ok ?_ rfl rfl; first | rw [bi_t (show isOtherP M (16 * m + f) from c_17)] | rw [bi_f (show ¬ isOtherP M (16 * m + f) from fun h => h c_17)])
        | (exfalso; omega)
      · simp only [bi_z, Classical.not_not, q_us_ap, editsF_3, Int.reduceEq, Int.reduceNeg, false_and, and_false, and_self, if_true, if_false, true_and, and_true, ite_self, lockF_thr, rightF_thr, latestOf_thr, asOfT_thr] at c_17
        refine e_iconst dX11_isChanged_20 ?_
        refine e_goto (tgt := 25) dX11_isChanged_21 (by decide) ?_
        refine e_iret dX11_isChanged_25 (Or.inr ⟨rfl, by omega⟩) ?_
        unfold isChangedF
        first
        | (rw [if_neg hin]; exact e_ok rfl rfl rfl)
        | (rw [if_pos hin]; refine e_ok ?_ rfl rfl; first | rw [bi_t (show isOtherP M (16 * m + f) from c_17)] | rw [bi_f (show ¬ isOtherP M (16 * m + f) from fun h => h c_17)])
        | (exfalso; omega)
  · refine e_aload_n dX11_isChanged_0 rfl ?_
    refine e_iload_n dX11_isChanged_1 rfl ?_
    refine e_iload_n dX11_isChanged_2 rfl ?_
    refine e_cV (as := [_, _]) (ci := 11) dX11_isChanged_3 k_X11_asks l_X11_261 i_X11_asks v_X11_asks hT rfl (by decide) ⟨_, _, rfl⟩ rfl rfl rfl rfl (Nat.le_of_ble_eq_true rfl) ⟨by decide, by decide⟩ (Nat.le_of_ble_eq_true rfl) (by decide) (m_asks0 hT hW hm hf hin) ?_
    refine e_istore_n (ls2 := [_, _, _, _]) dX11_isChanged_6 (Nat.le_of_ble_eq_true rfl) rfl ?_
    refine e_iload_n dX11_isChanged_7 rfl ?_
    refine e_iconst dX11_isChanged_8 ?_
    refine e_icmp_eq (tgt := 24) dX11_isChanged_9 (by decide) ⟨by decide, by decide⟩ ⟨by decide, by decide⟩ (fun c_9 => ?_) (fun c_9 => ?_)
    · refine e_iconst dX11_isChanged_24 ?_
      refine e_iret dX11_isChanged_25 (Or.inr ⟨rfl, by omega⟩) ?_
      unfold isChangedF
      first
      | (rw [if_neg hin]; exact e_ok rfl rfl rfl)
      | (rw [if_pos hin]; refine e_ok ?_ rfl rfl; first | rw [bi_t (show isOtherP M (16 * m + f) from c_17)] | rw [bi_f (show ¬ isOtherP M (16 * m + f) from fun h => h c_17)])
      | (exfalso; omega)
    · exact absurd c_9 (by decide)
set_option maxRecDepth 20000 in
set_option maxHeartbeats 4000000 in
theorem m_write {K : q_K} {M C : q_S} {a : Nat} (hT : K a = (12, 0, 50)) (hW : WR M) {m f : Int} (hm : q_iI m) (hf : q_iI f) (hev : M 50 13 < 1000) : q_E mX11_write 0 [some (q_R a), some (q_I m), some (q_I f), none] [] K M C 0 0 (e_is (some (q_I (writeF M m f).1)) K (writeF M m f).2 C) := by
  refine e_aload_n dX11_write_0 rfl ?_
  refine e_iload_n dX11_write_1 rfl ?_
  refine e_cS (as := [_]) dX11_write_2 k_X11_isMachine l_X11_135 s_X11_isMachine rfl rfl rfl rfl (Nat.le_of_ble_eq_true rfl) ⟨by decide, by decide⟩ (Nat.le_of_ble_eq_true rfl) (by decide) (m_isMachine (by assumption)) ?_
  refine e_if_eq (tgt := 15) dX11_write_5 (by decide) bi_iI (fun c_5 => ?_) (fun c_5 => ?_)
  · simp only [bi_z, Classical.not_not] at c_5
    refine e_iconst dX11_write_15 ?_
    refine e_goto (tgt := 33) dX11_write_16 (by decide) ?_
    refine m_putI (by decide) dX11_write_33 f_X11_101 rfl hT ⟨by omega, by omega⟩ ?_
    refine e_aload_n dX11_write_36 rfl ?_
    refine m_getI (by decide) dX11_write_37 f_X11_101 (Or.inl rfl) hT ?_
    simp only [q_us_ap, editsF_3, Int.reduceEq, Int.reduceNeg, false_and, and_false, and_self, if_true, if_false, true_and, and_true, ite_self]
    have g_37 := rs_41 hW
    refine e_if_le (tgt := 45) dX11_write_40 (by decide) ⟨by decide, by decide⟩ (fun c_40 => ?_) (fun c_40 => ?_)
    · exact absurd c_40 (by decide)
    · refine e_iconst dX11_write_43 ?_
      refine e_iret dX11_write_44 (Or.inl rfl) ?_
      first
      | exact e_ok rfl rfl rfl
      | (unfold writeF; repeat' split
         all_goals first | exact e_ok rfl rfl rfl | (exfalso; omega) | (refine e_ok ?_ rfl rfl; unfold bi; repeat' split; all_goals first | rfl | (exfalso; omega)))
  · simp only [bi_z, Classical.not_not] at c_5
    refine e_iload_n dX11_write_8 rfl ?_
    refine e_cS (as := [_]) dX11_write_9 k_X11_isFile l_X11_139 s_X11_isFile rfl rfl rfl rfl (Nat.le_of_ble_eq_true rfl) ⟨by decide, by decide⟩ (Nat.le_of_ble_eq_true rfl) (by decide) (m_isFile (by assumption)) ?_
    refine e_if_ne (tgt := 19) dX11_write_12 (by decide) bi_iI (fun c_12 => ?_) (fun c_12 => ?_)
    · simp only [bi_z, Classical.not_not] at c_12
      refine e_aload_n dX11_write_19 rfl ?_
      refine m_getL (by decide) dX11_write_20 f_X11_119 hT ?_
      have g_20 := rs_0 hW
      refine e_lconst (z := 0) dX11_write_23 rfl ?_
      refine e_lcmp dX11_write_24 ⟨by omega, by omega⟩ ⟨by omega, by omega⟩ ?_
      refine e_if_ne (tgt := 32) dX11_write_25 (by decide) (q_cmp_iI _ _) (fun c_25 => ?_) (fun c_25 => ?_)
      · rw [q_cmp_eq] at c_25
        refine e_iconst dX11_write_32 ?_
        refine m_putI (by decide) dX11_write_33 f_X11_101 rfl hT ⟨by omega, by omega⟩ ?_
        refine e_aload_n dX11_write_36 rfl ?_
        refine m_getI (by decide) dX11_write_37 f_X11_101 (Or.inl rfl) hT ?_
        simp only [q_us_ap, editsF_3, Int.reduceEq, Int.reduceNeg, false_and, and_false, and_self, if_true, if_false, true_and, and_true, ite_self]
        have g_37 := rs_41 hW
        refine e_if_le (tgt := 45) dX11_write_40 (by decide) ⟨by decide, by decide⟩ (fun c_40 => ?_) (fun c_40 => ?_)
        · refine e_bipush dX11_write_45 (by decide) ?_
          refine e_iload_n dX11_write_47 rfl ?_
          refine e_imul dX11_write_48 ?_
          refine e_iload_n dX11_write_49 rfl ?_
          refine e_iadd dX11_write_50 ?_
          refine e_istore_n (ls2 := [_, _, _, _]) dX11_write_51 (Nat.le_of_ble_eq_true rfl) rfl ?_
          refine e_aload_n dX11_write_52 rfl ?_
          refine m_getR (kt := (20, 48, 4)) (by decide) dX11_write_53 f_X11_17 hT rfl (Nat.succ_ne_zero _) (fun q_53 h_53 => ?_)
          refine e_iload_n dX11_write_56 rfl ?_
          refine e_aload_n dX11_write_57 rfl ?_
          refine m_getR (kt := (20, 48, 2)) (by decide) dX11_write_58 f_X11_7 hT rfl (Nat.succ_ne_zero _) (fun q_58 h_58 => ?_)
          refine e_iload_n dX11_write_61 rfl ?_
          refine m_iald (by decide) dX11_write_62 h_58 (by omega) (by omega) ?_
          simp only [q_us_ap, editsF_3, Int.reduceEq, Int.reduceNeg, false_and, and_false, and_self, if_true, if_false, true_and, and_true, ite_self]
          have g_62 := rg_2 hW ((16 * m) + f) (by omega) (by omega)
          refine e_if_ne (tgt := 72) dX11_write_63 (by decide) ⟨by omega, by omega⟩ (fun c_63 => ?_) (fun c_63 => ?_)
          · refine e_aload_n dX11_write_72 rfl ?_
            refine m_getR (kt := (20, 48, 4)) (by decide) dX11_write_73 f_X11_17 hT rfl (Nat.succ_ne_zero _) (fun q_73 h_73 => ?_)
            refine e_iload_n dX11_write_76 rfl ?_
            refine m_iald (by decide) dX11_write_77 h_73 (by omega) (by omega) ?_
            simp only [q_us_ap, editsF_3, Int.reduceEq, Int.reduceNeg, false_and, and_false, and_self, if_true, if_false, true_and, and_true, ite_self]
            have g_77 := rg_4 hW ((16 * m) + f) (by omega) (by omega)
            refine m_iast (by decide) dX11_write_78 h_53 (by omega) (by omega) ⟨by omega, by omega⟩ ?_
            refine e_aload_n dX11_write_79 rfl ?_
            refine m_getR (kt := (20, 48, 2)) (by decide) dX11_write_80 f_X11_7 hT rfl (Nat.succ_ne_zero _) (fun q_80 h_80 => ?_)
            refine e_iload_n dX11_write_83 rfl ?_
            refine e_iconst dX11_write_84 ?_
            refine m_iast (by decide) dX11_write_85 h_80 (by omega) (by omega) ⟨by omega, by omega⟩ ?_
            refine e_aload_n dX11_write_86 rfl ?_
            refine m_getR (kt := (21, 48, 3)) (by decide) dX11_write_87 f_X11_13 hT rfl (Nat.succ_ne_zero _) (fun q_87 h_87 => ?_)
            refine e_iload_n dX11_write_90 rfl ?_
            refine e_aload_n dX11_write_91 rfl ?_
            refine m_getL (by decide) dX11_write_92 f_X11_119 hT ?_
            simp only [q_us_ap, editsF_3, Int.reduceEq, Int.reduceNeg, false_and, and_false, and_self, if_true, if_false, true_and, and_true, ite_self]
            have g_92 := rs_0 hW
            refine m_last (by decide) dX11_write_95 h_87 (by omega) (by omega) ⟨by omega, by omega⟩ ?_
            refine e_aload_n dX11_write_96 rfl ?_
            refine e_lconst (z := 0) dX11_write_97 rfl ?_
            refine m_putL (by decide) dX11_write_98 f_X11_119 rfl hT ⟨by omega, by omega⟩ ?_
            refine e_aload_n dX11_write_101 rfl ?_
            refine e_iload_n dX11_write_102 rfl ?_
            refine e_cV (as := [_]) (ci := 11) dX11_write_103 k_X11_edits l_X11_142 i_X11_edits v_X11_edits hT rfl (by decide) ⟨_, _, rfl⟩ rfl rfl rfl rfl (Nat.le_of_ble_eq_true rfl) ⟨by decide, by decide⟩ (Nat.le_of_ble_eq_true rfl) (by decide) (m_edits hT (by (repeat' apply WR.up) <;> first | exact hW | (refine ⟨?_, ?_⟩ <;> simp only [wlo, whi, whs, Int.reduceEq, Int.reduceLE, if_true, if_false] <;> omega)) ⟨by omega, by omega⟩) ?_
            refine e_aload_n dX11_write_106 rfl ?_
            refine m_getR (kt := (21, 48, 3)) (by decide) dX11_write_107 f_X11_13 hT rfl (Nat.succ_ne_zero _) (fun q_107 h_107 => ?_)
            refine e_iload_n dX11_write_110 rfl ?_
            refine m_lald (by decide) dX11_write_111 h_107 (by omega) (by omega) ?_
            simp only [q_us_ap, editsF_3, Int.reduceEq, Int.reduceNeg, false_and, and_false, and_self, if_true, if_false, true_and, and_true, ite_self]
            have g_111 := rg_3 hW ((16 * m) + f) (by omega) (by omega)
            refine e_cS (as := [_]) dX11_write_112 k_X11_lengthOf l_X11_111 s_X11_lengthOf rfl rfl rfl rfl (Nat.le_of_ble_eq_true rfl) ⟨by decide, by decide⟩ (Nat.le_of_ble_eq_true rfl) (by decide) (m_lengthOf ⟨by omega, by omega⟩) ?_
            try simp only [lockF_thr, rightF_thr, latestOf_thr, asOfT_thr]
            refine e_iret dX11_write_115 (Or.inl rfl) ?_
            first
            | exact e_ok rfl rfl rfl
            | (unfold writeF; repeat' split
               all_goals first | exact e_ok rfl rfl rfl | (exfalso; omega) | (refine e_ok ?_ rfl rfl; unfold bi; repeat' split; all_goals first | rfl | (exfalso; omega)))
          · refine e_iload_n dX11_write_66 rfl ?_
            refine e_iconst dX11_write_67 ?_
            refine e_irem dX11_write_68 ⟨by omega, by omega⟩ ⟨by omega, by omega⟩ ?_
            refine e_goto (tgt := 78) dX11_write_69 (by decide) ?_
            refine m_iast (by decide) dX11_write_78 h_53 (by omega) (by omega) ⟨by omega, by omega⟩ ?_
            refine e_aload_n dX11_write_79 rfl ?_
            refine m_getR (kt := (20, 48, 2)) (by decide) dX11_write_80 f_X11_7 hT rfl (Nat.succ_ne_zero _) (fun q_80 h_80 => ?_)
            refine e_iload_n dX11_write_83 rfl ?_
            refine e_iconst dX11_write_84 ?_
            refine m_iast (by decide) dX11_write_85 h_80 (by omega) (by omega) ⟨by omega, by omega⟩ ?_
            refine e_aload_n dX11_write_86 rfl ?_
            refine m_getR (kt := (21, 48, 3)) (by decide) dX11_write_87 f_X11_13 hT rfl (Nat.succ_ne_zero _) (fun q_87 h_87 => ?_)
            refine e_iload_n dX11_write_90 rfl ?_
            refine e_aload_n dX11_write_91 rfl ?_
            refine m_getL (by decide) dX11_write_92 f_X11_119 hT ?_
            simp only [q_us_ap, editsF_3, Int.reduceEq, Int.reduceNeg, false_and, and_false, and_self, if_true, if_false, true_and, and_true, ite_self]
            have g_92 := rs_0 hW
            refine m_last (by decide) dX11_write_95 h_87 (by omega) (by omega) ⟨by omega, by omega⟩ ?_
            refine e_aload_n dX11_write_96 rfl ?_
            refine e_lconst (z := 0) dX11_write_97 rfl ?_
            refine m_putL (by decide) dX11_write_98 f_X11_119 rfl hT ⟨by omega, by omega⟩ ?_
            refine e_aload_n dX11_write_101 rfl ?_
            refine e_iload_n dX11_write_102 rfl ?_
            refine e_cV (as := [_]) (ci := 11) dX11_write_103 k_X11_edits l_X11_142 i_X11_edits v_X11_edits hT rfl (by decide) ⟨_, _, rfl⟩ rfl rfl rfl rfl (Nat.le_of_ble_eq_true rfl) ⟨by decide, by decide⟩ (Nat.le_of_ble_eq_true rfl) (by decide) (m_edits hT (by (repeat' apply WR.up) <;> first | exact hW | (refine ⟨?_, ?_⟩ <;> simp only [wlo, whi, whs, Int.reduceEq, Int.reduceLE, if_true, if_false] <;> omega)) ⟨by omega, by omega⟩) ?_
            refine e_aload_n dX11_write_106 rfl ?_
            refine m_getR (kt := (21, 48, 3)) (by decide) dX11_write_107 f_X11_13 hT rfl (Nat.succ_ne_zero _) (fun q_107 h_107 => ?_)
            refine e_iload_n dX11_write_110 rfl ?_
            refine m_lald (by decide) dX11_write_111 h_107 (by omega) (by omega) ?_
            simp only [q_us_ap, editsF_3, Int.reduceEq, Int.reduceNeg, false_and, and_false, and_self, if_true, if_false, true_and, and_true, ite_self]
            have g_111 := rg_3 hW ((16 * m) + f) (by omega) (by omega)
            refine e_cS (as := [_]) dX11_write_112 k_X11_lengthOf l_X11_111 s_X11_lengthOf rfl rfl rfl rfl (Nat.le_of_ble_eq_true rfl) ⟨by decide, by decide⟩ (Nat.le_of_ble_eq_true rfl) (by decide) (m_lengthOf ⟨by omega, by omega⟩) ?_
            try simp only [lockF_thr, rightF_thr, latestOf_thr, asOfT_thr]
            refine e_iret dX11_write_115 (Or.inl rfl) ?_
            first
            | exact e_ok rfl rfl rfl
            | (unfold writeF; repeat' split
               all_goals first | exact e_ok rfl rfl rfl | (exfalso; omega) | (refine e_ok ?_ rfl rfl; unfold bi; repeat' split; all_goals first | rfl | (exfalso; omega)))
        · exact absurd c_40 (by decide)
      · rw [q_cmp_eq] at c_25
        refine e_iconst dX11_write_28 ?_
        refine e_goto (tgt := 33) dX11_write_29 (by decide) ?_
        refine m_putI (by decide) dX11_write_33 f_X11_101 rfl hT ⟨by omega, by omega⟩ ?_
        refine e_aload_n dX11_write_36 rfl ?_
        refine m_getI (by decide) dX11_write_37 f_X11_101 (Or.inl rfl) hT ?_
        simp only [q_us_ap, editsF_3, Int.reduceEq, Int.reduceNeg, false_and, and_false, and_self, if_true, if_false, true_and, and_true, ite_self]
        have g_37 := rs_41 hW
        refine e_if_le (tgt := 45) dX11_write_40 (by decide) ⟨by decide, by decide⟩ (fun c_40 => ?_) (fun c_40 => ?_)
        · exact absurd c_40 (by decide)
        · refine e_iconst dX11_write_43 ?_
          refine e_iret dX11_write_44 (Or.inl rfl) ?_
          first
          | exact e_ok rfl rfl rfl
          | (unfold writeF; repeat' split
             all_goals first | exact e_ok rfl rfl rfl | (exfalso; omega) | (refine e_ok ?_ rfl rfl; unfold bi; repeat' split; all_goals first | rfl | (exfalso; omega)))
    · simp only [bi_z, Classical.not_not] at c_12
      refine e_iconst dX11_write_15 ?_
      refine e_goto (tgt := 33) dX11_write_16 (by decide) ?_
      refine m_putI (by decide) dX11_write_33 f_X11_101 rfl hT ⟨by omega, by omega⟩ ?_
      refine e_aload_n dX11_write_36 rfl ?_
      refine m_getI (by decide) dX11_write_37 f_X11_101 (Or.inl rfl) hT ?_
      simp only [q_us_ap, editsF_3, Int.reduceEq, Int.reduceNeg, false_and, and_false, and_self, if_true, if_false, true_and, and_true, ite_self]
      have g_37 := rs_41 hW
      refine e_if_le (tgt := 45) dX11_write_40 (by decide) ⟨by decide, by decide⟩ (fun c_40 => ?_) (fun c_40 => ?_)
      · exact absurd c_40 (by decide)
      · refine e_iconst dX11_write_43 ?_
        refine e_iret dX11_write_44 (Or.inl rfl) ?_
        first
        | exact e_ok rfl rfl rfl
        | (unfold writeF; repeat' split
           all_goals first | exact e_ok rfl rfl rfl | (exfalso; omega) | (refine e_ok ?_ rfl rfl; unfold bi; repeat' split; all_goals first | rfl | (exfalso; omega)))
set_option maxRecDepth 20000 in
set_option maxHeartbeats 4000000 in
theorem m_move {K : q_K} {M C : q_S} {a : Nat} (hT : K a = (12, 0, 50)) (hW : WR M) {m f d : Int} (hm : q_iI m) (hf : q_iI f) (hd : q_iI d) (hev : M 50 13 < 1000) : q_E mX11_move 0 [some (q_R a), some (q_I m), some (q_I f), some (q_I d), none, none] [] K M C 0 0 (e_is (some (q_I (moveF M m f d).1)) K (moveF M m f d).2 C) := by
  refine e_aload_n dX11_move_0 rfl ?_
  refine e_iload_n dX11_move_1 rfl ?_
  refine e_cS (as := [_]) dX11_move_2 k_X11_isMachine l_X11_135 s_X11_isMachine rfl rfl rfl rfl (Nat.le_of_ble_eq_true rfl) ⟨by decide, by decide⟩ (Nat.le_of_ble_eq_true rfl) (by decide) (m_isMachine (by assumption)) ?_
  refine e_if_eq (tgt := 24) dX11_move_5 (by decide) bi_iI (fun c_5 => ?_) (fun c_5 => ?_)
  · simp only [bi_z, Classical.not_not] at c_5
    refine e_iconst dX11_move_24 ?_
    refine e_goto (tgt := 48) dX11_move_25 (by decide) ?_
    refine m_putI (by decide) dX11_move_48 f_X11_101 rfl hT ⟨by omega, by omega⟩ ?_
    refine e_aload_n dX11_move_51 rfl ?_
    refine m_getI (by decide) dX11_move_52 f_X11_101 (Or.inl rfl) hT ?_
    simp only [q_us_ap, editsF_3, Int.reduceEq, Int.reduceNeg, false_and, and_false, and_self, if_true, if_false, true_and, and_true, ite_self]
    have g_52 := rs_41 hW
    refine e_if_le (tgt := 60) dX11_move_55 (by decide) ⟨by decide, by decide⟩ (fun c_55 => ?_) (fun c_55 => ?_)
    · exact absurd c_55 (by decide)
    · refine e_iconst dX11_move_58 ?_
      refine e_iret dX11_move_59 (Or.inl rfl) ?_
      first
      | exact e_ok rfl rfl rfl
      | (unfold moveF; repeat' split
         all_goals first | exact e_ok rfl rfl rfl | (exfalso; omega) | (refine e_ok ?_ rfl rfl; unfold bi; repeat' split; all_goals first | rfl | (exfalso; omega)))
  · simp only [bi_z, Classical.not_not] at c_5
    refine e_iload_n dX11_move_8 rfl ?_
    refine e_cS (as := [_]) dX11_move_9 k_X11_isFile l_X11_139 s_X11_isFile rfl rfl rfl rfl (Nat.le_of_ble_eq_true rfl) ⟨by decide, by decide⟩ (Nat.le_of_ble_eq_true rfl) (by decide) (m_isFile (by assumption)) ?_
    refine e_if_eq (tgt := 24) dX11_move_12 (by decide) bi_iI (fun c_12 => ?_) (fun c_12 => ?_)
    · simp only [bi_z, Classical.not_not] at c_12
      refine e_iconst dX11_move_24 ?_
      refine e_goto (tgt := 48) dX11_move_25 (by decide) ?_
      refine m_putI (by decide) dX11_move_48 f_X11_101 rfl hT ⟨by omega, by omega⟩ ?_
      refine e_aload_n dX11_move_51 rfl ?_
      refine m_getI (by decide) dX11_move_52 f_X11_101 (Or.inl rfl) hT ?_
      simp only [q_us_ap, editsF_3, Int.reduceEq, Int.reduceNeg, false_and, and_false, and_self, if_true, if_false, true_and, and_true, ite_self]
      have g_52 := rs_41 hW
      refine e_if_le (tgt := 60) dX11_move_55 (by decide) ⟨by decide, by decide⟩ (fun c_55 => ?_) (fun c_55 => ?_)
      · exact absurd c_55 (by decide)
      · refine e_iconst dX11_move_58 ?_
        refine e_iret dX11_move_59 (Or.inl rfl) ?_
        first
        | exact e_ok rfl rfl rfl
        | (unfold moveF; repeat' split
           all_goals first | exact e_ok rfl rfl rfl | (exfalso; omega) | (refine e_ok ?_ rfl rfl; unfold bi; repeat' split; all_goals first | rfl | (exfalso; omega)))
    · simp only [bi_z, Classical.not_not] at c_12
      refine e_iload_n dX11_move_15 rfl ?_
      refine e_iconst dX11_move_16 ?_
      refine e_iconst dX11_move_17 ?_
      refine e_cS (as := [_, _, _]) dX11_move_18 k_X11_in l_X11_105 s_X11_in rfl rfl rfl rfl (Nat.le_of_ble_eq_true rfl) ⟨by decide, by decide⟩ (Nat.le_of_ble_eq_true rfl) (by decide) (m_in (by first | assumption | exact ⟨by decide, by decide⟩ | exact ⟨by omega, by omega⟩) (by first | assumption | exact ⟨by decide, by decide⟩ | exact ⟨by omega, by omega⟩) (by first | assumption | exact ⟨by decide, by decide⟩ | exact ⟨by omega, by omega⟩)) ?_
      refine e_if_ne (tgt := 28) dX11_move_21 (by decide) bi_iI (fun c_21 => ?_) (fun c_21 => ?_)
      · simp only [bi_z, Classical.not_not] at c_21
        refine e_aload_n dX11_move_28 rfl ?_
        refine m_getR (kt := (20, 48, 2)) (by decide) dX11_move_29 f_X11_7 hT rfl (Nat.succ_ne_zero _) (fun q_29 h_29 => ?_)
        refine e_bipush dX11_move_32 (by decide) ?_
        refine e_iload_n dX11_move_34 rfl ?_
        refine e_imul dX11_move_35 ?_
        refine e_iload_n dX11_move_36 rfl ?_
        refine e_iadd dX11_move_37 ?_
        refine m_iaw (by decide) (rg_2 hW) dX11_move_38 h_29 (by omega) (by omega) (fun g_38 => ?_)
        refine e_iconst dX11_move_39 ?_
        refine e_icmp_eq (tgt := 47) dX11_move_40 (by decide) ⟨by omega, by omega⟩ ⟨by omega, by omega⟩ (fun c_40 => ?_) (fun c_40 => ?_)
        · refine e_iconst dX11_move_47 ?_
          refine m_putI (by decide) dX11_move_48 f_X11_101 rfl hT ⟨by omega, by omega⟩ ?_
          refine e_aload_n dX11_move_51 rfl ?_
          refine m_getI (by decide) dX11_move_52 f_X11_101 (Or.inl rfl) hT ?_
          simp only [q_us_ap, editsF_3, Int.reduceEq, Int.reduceNeg, false_and, and_false, and_self, if_true, if_false, true_and, and_true, ite_self]
          have g_52 := rs_41 hW
          refine e_if_le (tgt := 60) dX11_move_55 (by decide) ⟨by decide, by decide⟩ (fun c_55 => ?_) (fun c_55 => ?_)
          · refine e_bipush dX11_move_60 (by decide) ?_
            refine e_iload_n dX11_move_62 rfl ?_
            refine e_imul dX11_move_63 ?_
            refine e_iload_n dX11_move_64 rfl ?_
            refine e_iadd dX11_move_65 ?_
            refine e_istore (ls2 := [_, _, _, _, _, _]) dX11_move_66 (Nat.le_of_ble_eq_true rfl) rfl ?_
            refine e_aload_n dX11_move_68 rfl ?_
            refine m_getR (kt := (20, 48, 4)) (by decide) dX11_move_69 f_X11_17 hT rfl (Nat.succ_ne_zero _) (fun q_69 h_69 => ?_)
            refine e_iload dX11_move_72 rfl ?_
            refine m_iald (by decide) dX11_move_74 h_69 (by omega) (by omega) ?_
            simp only [q_us_ap, editsF_3, Int.reduceEq, Int.reduceNeg, false_and, and_false, and_self, if_true, if_false, true_and, and_true, ite_self]
            have g_74 := rg_4 hW ((16 * m) + f) (by omega) (by omega)
            refine e_istore (ls2 := [_, _, _, _, _, _]) dX11_move_75 (Nat.le_of_ble_eq_true rfl) rfl ?_
            refine e_aload_n dX11_move_77 rfl ?_
            refine m_getR (kt := (20, 48, 4)) (by decide) dX11_move_78 f_X11_17 hT rfl (Nat.succ_ne_zero _) (fun q_78 h_78 => ?_)
            refine e_iload dX11_move_81 rfl ?_
            refine e_iload_n dX11_move_83 rfl ?_
            refine m_iast (by decide) dX11_move_84 h_78 (by omega) (by omega) ⟨by omega, by omega⟩ ?_
            refine e_aload_n dX11_move_85 rfl ?_
            refine e_iload dX11_move_86 rfl ?_
            refine e_cV (as := [_]) (ci := 11) dX11_move_88 k_X11_edits l_X11_142 i_X11_edits v_X11_edits hT rfl (by decide) ⟨_, _, rfl⟩ rfl rfl rfl rfl (Nat.le_of_ble_eq_true rfl) ⟨by decide, by decide⟩ (Nat.le_of_ble_eq_true rfl) (by decide) (m_edits hT (by (repeat' apply WR.up) <;> first | exact hW | (refine ⟨?_, ?_⟩ <;> simp only [wlo, whi, whs, Int.reduceEq, Int.reduceLE, if_true, if_false] <;> omega)) ⟨by omega, by omega⟩) ?_
            refine e_iload dX11_move_91 rfl ?_
            refine e_iret dX11_move_93 (Or.inl rfl) ?_
            first
            | exact e_ok rfl rfl rfl
            | (unfold moveF; repeat' split
               all_goals first | exact e_ok rfl rfl rfl | (exfalso; omega) | (refine e_ok ?_ rfl rfl; unfold bi; repeat' split; all_goals first | rfl | (exfalso; omega)))
          · exact absurd c_55 (by decide)
        · refine e_iconst dX11_move_43 ?_
          refine e_goto (tgt := 48) dX11_move_44 (by decide) ?_
          refine m_putI (by decide) dX11_move_48 f_X11_101 rfl hT ⟨by omega, by omega⟩ ?_
          refine e_aload_n dX11_move_51 rfl ?_
          refine m_getI (by decide) dX11_move_52 f_X11_101 (Or.inl rfl) hT ?_
          simp only [q_us_ap, editsF_3, Int.reduceEq, Int.reduceNeg, false_and, and_false, and_self, if_true, if_false, true_and, and_true, ite_self]
          have g_52 := rs_41 hW
          refine e_if_le (tgt := 60) dX11_move_55 (by decide) ⟨by decide, by decide⟩ (fun c_55 => ?_) (fun c_55 => ?_)
          · exact absurd c_55 (by decide)
          · refine e_iconst dX11_move_58 ?_
            refine e_iret dX11_move_59 (Or.inl rfl) ?_
            first
            | exact e_ok rfl rfl rfl
            | (unfold moveF; repeat' split
               all_goals first | exact e_ok rfl rfl rfl | (exfalso; omega) | (refine e_ok ?_ rfl rfl; unfold bi; repeat' split; all_goals first | rfl | (exfalso; omega)))
      · simp only [bi_z, Classical.not_not] at c_21
        refine e_iconst dX11_move_24 ?_
        refine e_goto (tgt := 48) dX11_move_25 (by decide) ?_
        refine m_putI (by decide) dX11_move_48 f_X11_101 rfl hT ⟨by omega, by omega⟩ ?_
        refine e_aload_n dX11_move_51 rfl ?_
        refine m_getI (by decide) dX11_move_52 f_X11_101 (Or.inl rfl) hT ?_
        simp only [q_us_ap, editsF_3, Int.reduceEq, Int.reduceNeg, false_and, and_false, and_self, if_true, if_false, true_and, and_true, ite_self]
        have g_52 := rs_41 hW
        refine e_if_le (tgt := 60) dX11_move_55 (by decide) ⟨by decide, by decide⟩ (fun c_55 => ?_) (fun c_55 => ?_)
        · exact absurd c_55 (by decide)
        · refine e_iconst dX11_move_58 ?_
          refine e_iret dX11_move_59 (Or.inl rfl) ?_
          first
          | exact e_ok rfl rfl rfl
          | (unfold moveF; repeat' split
             all_goals first | exact e_ok rfl rfl rfl | (exfalso; omega) | (refine e_ok ?_ rfl rfl; unfold bi; repeat' split; all_goals first | rfl | (exfalso; omega)))
set_option maxRecDepth 20000 in
set_option maxHeartbeats 4000000 in
theorem m_erase {K : q_K} {M C : q_S} {a : Nat} (hT : K a = (12, 0, 50)) (hW : WR M) {m f : Int} (hm : q_iI m) (hf : q_iI f) (hev : M 50 13 < 1000) : q_E mX11_erase 0 [some (q_R a), some (q_I m), some (q_I f), none, none] [] K M C 0 0 (e_is (some (q_I (eraseF M m f).1)) K (eraseF M m f).2 C) := by
  refine e_aload_n dX11_erase_0 rfl ?_
  refine e_iload_n dX11_erase_1 rfl ?_
  refine e_cS (as := [_]) dX11_erase_2 k_X11_isMachine l_X11_135 s_X11_isMachine rfl rfl rfl rfl (Nat.le_of_ble_eq_true rfl) ⟨by decide, by decide⟩ (Nat.le_of_ble_eq_true rfl) (by decide) (m_isMachine (by assumption)) ?_
  refine e_if_eq (tgt := 15) dX11_erase_5 (by decide) bi_iI (fun c_5 => ?_) (fun c_5 => ?_)
  · simp only [bi_z, Classical.not_not] at c_5
    refine e_iconst dX11_erase_15 ?_
    refine e_goto (tgt := 38) dX11_erase_16 (by decide) ?_
    refine m_putI (by decide) dX11_erase_38 f_X11_101 rfl hT ⟨by omega, by omega⟩ ?_
    refine e_aload_n dX11_erase_41 rfl ?_
    refine m_getI (by decide) dX11_erase_42 f_X11_101 (Or.inl rfl) hT ?_
    simp only [q_us_ap, editsF_3, Int.reduceEq, Int.reduceNeg, false_and, and_false, and_self, if_true, if_false, true_and, and_true, ite_self]
    have g_42 := rs_41 hW
    refine e_if_le (tgt := 50) dX11_erase_45 (by decide) ⟨by decide, by decide⟩ (fun c_45 => ?_) (fun c_45 => ?_)
    · exact absurd c_45 (by decide)
    · refine e_iconst dX11_erase_48 ?_
      refine e_iret dX11_erase_49 (Or.inl rfl) ?_
      first
      | exact e_ok rfl rfl rfl
      | (unfold eraseF; repeat' split
         all_goals first | exact e_ok rfl rfl rfl | (exfalso; omega) | (refine e_ok ?_ rfl rfl; unfold bi; repeat' split; all_goals first | rfl | (exfalso; omega)))
  · simp only [bi_z, Classical.not_not] at c_5
    refine e_iload_n dX11_erase_8 rfl ?_
    refine e_cS (as := [_]) dX11_erase_9 k_X11_isFile l_X11_139 s_X11_isFile rfl rfl rfl rfl (Nat.le_of_ble_eq_true rfl) ⟨by decide, by decide⟩ (Nat.le_of_ble_eq_true rfl) (by decide) (m_isFile (by assumption)) ?_
    refine e_if_ne (tgt := 19) dX11_erase_12 (by decide) bi_iI (fun c_12 => ?_) (fun c_12 => ?_)
    · simp only [bi_z, Classical.not_not] at c_12
      refine e_aload_n dX11_erase_19 rfl ?_
      refine m_getR (kt := (20, 48, 2)) (by decide) dX11_erase_20 f_X11_7 hT rfl (Nat.succ_ne_zero _) (fun q_20 h_20 => ?_)
      refine e_bipush dX11_erase_23 (by decide) ?_
      refine e_iload_n dX11_erase_25 rfl ?_
      refine e_imul dX11_erase_26 ?_
      refine e_iload_n dX11_erase_27 rfl ?_
      refine e_iadd dX11_erase_28 ?_
      refine m_iaw (by decide) (rg_2 hW) dX11_erase_29 h_20 (by omega) (by omega) (fun g_29 => ?_)
      refine e_if_ne (tgt := 37) dX11_erase_30 (by decide) ⟨by omega, by omega⟩ (fun c_30 => ?_) (fun c_30 => ?_)
      · refine e_iconst dX11_erase_37 ?_
        refine m_putI (by decide) dX11_erase_38 f_X11_101 rfl hT ⟨by omega, by omega⟩ ?_
        refine e_aload_n dX11_erase_41 rfl ?_
        refine m_getI (by decide) dX11_erase_42 f_X11_101 (Or.inl rfl) hT ?_
        simp only [q_us_ap, editsF_3, Int.reduceEq, Int.reduceNeg, false_and, and_false, and_self, if_true, if_false, true_and, and_true, ite_self]
        have g_42 := rs_41 hW
        refine e_if_le (tgt := 50) dX11_erase_45 (by decide) ⟨by decide, by decide⟩ (fun c_45 => ?_) (fun c_45 => ?_)
        · refine e_bipush dX11_erase_50 (by decide) ?_
          refine e_iload_n dX11_erase_52 rfl ?_
          refine e_imul dX11_erase_53 ?_
          refine e_iload_n dX11_erase_54 rfl ?_
          refine e_iadd dX11_erase_55 ?_
          refine e_istore_n (ls2 := [_, _, _, _, _]) dX11_erase_56 (Nat.le_of_ble_eq_true rfl) rfl ?_
          refine e_aload_n dX11_erase_57 rfl ?_
          refine m_getR (kt := (20, 48, 2)) (by decide) dX11_erase_58 f_X11_7 hT rfl (Nat.succ_ne_zero _) (fun q_58 h_58 => ?_)
          refine e_iload_n dX11_erase_61 rfl ?_
          refine m_iald (by decide) dX11_erase_62 h_58 (by omega) (by omega) ?_
          simp only [q_us_ap, editsF_3, Int.reduceEq, Int.reduceNeg, false_and, and_false, and_self, if_true, if_false, true_and, and_true, ite_self]
          have g_62 := rg_2 hW ((16 * m) + f) (by omega) (by omega)
          refine e_istore (ls2 := [_, _, _, _, _]) dX11_erase_63 (Nat.le_of_ble_eq_true rfl) rfl ?_
          refine e_aload_n dX11_erase_65 rfl ?_
          refine e_iload_n dX11_erase_66 rfl ?_
          refine e_cV (as := [_]) (ci := 11) dX11_erase_67 k_X11_leaves l_X11_145 i_X11_leaves v_X11_leaves hT rfl (by decide) ⟨_, _, rfl⟩ rfl rfl rfl rfl (Nat.le_of_ble_eq_true rfl) ⟨by decide, by decide⟩ (Nat.le_of_ble_eq_true rfl) (by decide) (m_leaves hT ⟨by omega, by omega⟩) ?_
          refine e_aload_n dX11_erase_70 rfl ?_
          refine e_iload_n dX11_erase_71 rfl ?_
          refine e_cV (as := [_]) (ci := 11) dX11_erase_72 k_X11_edits l_X11_142 i_X11_edits v_X11_edits hT rfl (by decide) ⟨_, _, rfl⟩ rfl rfl rfl rfl (Nat.le_of_ble_eq_true rfl) ⟨by decide, by decide⟩ (Nat.le_of_ble_eq_true rfl) (by decide) (m_edits hT (WR.leaves (by (repeat' apply WR.up) <;> first | exact hW | (refine ⟨?_, ?_⟩ <;> simp only [wlo, whi, whs, Int.reduceEq, Int.reduceLE, if_true, if_false] <;> omega)) _) ⟨by omega, by omega⟩) ?_
          refine e_iload dX11_erase_75 rfl ?_
          refine e_iret dX11_erase_77 (Or.inl rfl) ?_
          first
          | exact e_ok rfl rfl rfl
          | (unfold eraseF; repeat' split
             all_goals first | exact e_ok rfl rfl rfl | (exfalso; omega) | (refine e_ok ?_ rfl rfl; unfold bi; repeat' split; all_goals first | rfl | (exfalso; omega)))
        · exact absurd c_45 (by decide)
      · refine e_iconst dX11_erase_33 ?_
        refine e_goto (tgt := 38) dX11_erase_34 (by decide) ?_
        refine m_putI (by decide) dX11_erase_38 f_X11_101 rfl hT ⟨by omega, by omega⟩ ?_
        refine e_aload_n dX11_erase_41 rfl ?_
        refine m_getI (by decide) dX11_erase_42 f_X11_101 (Or.inl rfl) hT ?_
        simp only [q_us_ap, editsF_3, Int.reduceEq, Int.reduceNeg, false_and, and_false, and_self, if_true, if_false, true_and, and_true, ite_self]
        have g_42 := rs_41 hW
        refine e_if_le (tgt := 50) dX11_erase_45 (by decide) ⟨by decide, by decide⟩ (fun c_45 => ?_) (fun c_45 => ?_)
        · exact absurd c_45 (by decide)
        · refine e_iconst dX11_erase_48 ?_
          refine e_iret dX11_erase_49 (Or.inl rfl) ?_
          first
          | exact e_ok rfl rfl rfl
          | (unfold eraseF; repeat' split
             all_goals first | exact e_ok rfl rfl rfl | (exfalso; omega) | (refine e_ok ?_ rfl rfl; unfold bi; repeat' split; all_goals first | rfl | (exfalso; omega)))
    · simp only [bi_z, Classical.not_not] at c_12
      refine e_iconst dX11_erase_15 ?_
      refine e_goto (tgt := 38) dX11_erase_16 (by decide) ?_
      refine m_putI (by decide) dX11_erase_38 f_X11_101 rfl hT ⟨by omega, by omega⟩ ?_
      refine e_aload_n dX11_erase_41 rfl ?_
      refine m_getI (by decide) dX11_erase_42 f_X11_101 (Or.inl rfl) hT ?_
      simp only [q_us_ap, editsF_3, Int.reduceEq, Int.reduceNeg, false_and, and_false, and_self, if_true, if_false, true_and, and_true, ite_self]
      have g_42 := rs_41 hW
      refine e_if_le (tgt := 50) dX11_erase_45 (by decide) ⟨by decide, by decide⟩ (fun c_45 => ?_) (fun c_45 => ?_)
      · exact absurd c_45 (by decide)
      · refine e_iconst dX11_erase_48 ?_
        refine e_iret dX11_erase_49 (Or.inl rfl) ?_
        first
        | exact e_ok rfl rfl rfl
        | (unfold eraseF; repeat' split
           all_goals first | exact e_ok rfl rfl rfl | (exfalso; omega) | (refine e_ok ?_ rfl rfl; unfold bi; repeat' split; all_goals first | rfl | (exfalso; omega)))
