set_option maxRecDepth 20000 in
set_option maxHeartbeats 4000000 in
theorem m_latestOf {K : q_K} {M C : q_S} {a : Nat} (hT : K a = (12, 0, 50)) (hW : WR M) {f : Int} (hf : 0 ≤ f ∧ f ≤ 15) : q_E mX11_latestOf 0 [some (q_R a), some (q_I f), none] [] K M C 0 0 (e_is (some (q_I (latestOf M f))) K M C) := by
  have lp : ∀ n : Nat, (n : Int) ≤ 120 → latF M f n = latestOf M f → q_E mX11_latestOf 7 [some (q_R a), some (q_I f), some (q_I ((n : Int) - 1))] [] K M C 0 0 (e_is (some (q_I (latestOf M f))) K M C) := by
    intro n
    induction n with
    | zero =>
      intro h1 h2
      refine e_iload_n dX11_latestOf_7 rfl ?_
      refine e_if_lt (tgt := 38) dX11_latestOf_8 (by decide) ⟨by omega, by omega⟩ (fun c_8 => ?_) (fun c_8 => ?_)
      · refine e_iconst dX11_latestOf_38 ?_
        exact e_iret dX11_latestOf_39 (Or.inl rfl) (e_ok (by rw [← h2]; rfl) rfl rfl)
      · exfalso; omega
    | succ n ih =>
      intro h1 h2
      have e9 : ((n + 1 : Nat) : Int) - 1 = n := by omega
      rw [e9]
      simp only [latF] at h2
      refine e_iload_n dX11_latestOf_7 rfl ?_
      refine e_if_lt (tgt := 38) dX11_latestOf_8 (by decide) ⟨by omega, by omega⟩ (fun c_8 => ?_) (fun c_8 => ?_)
      · exfalso; omega
      · refine e_aload_n dX11_latestOf_11 rfl ?_
        refine m_getR (kt := (20, 120, 17)) (by decide) dX11_latestOf_12 f_X11_44 hT rfl (Nat.succ_ne_zero _) (fun q_12 h_12 => ?_)
        refine e_iload_n dX11_latestOf_15 rfl ?_
        refine m_iaw (by decide) (rg_17 hW) dX11_latestOf_16 h_12 (by omega) (by omega) (fun g_16 => ?_)
        refine e_iload_n dX11_latestOf_17 rfl ?_
        refine e_icmp_ne (tgt := 32) dX11_latestOf_18 (by decide) ⟨by omega, by omega⟩ ⟨by omega, by omega⟩ (fun c_18 => ?_) (fun c_18 => ?_)
        · refine e_iinc (ls2 := [_, _, _]) dX11_latestOf_32 rfl (Nat.le_of_ble_eq_true rfl) rfl ?_
          refine e_goto (tgt := 7) dX11_latestOf_35 (by decide) ?_
          exact ih (by omega) (by rw [if_neg (by omega)] at h2; exact h2)
        · refine e_aload_n dX11_latestOf_21 rfl ?_
          refine m_getR (kt := (20, 120, 22)) (by decide) dX11_latestOf_22 f_X11_59 hT rfl (Nat.succ_ne_zero _) (fun q_22 h_22 => ?_)
          refine e_iload_n dX11_latestOf_25 rfl ?_
          refine m_iaw (by decide) (rg_22 hW) dX11_latestOf_26 h_22 (by omega) (by omega) (fun g_26 => ?_)
          refine e_if_ne (tgt := 32) dX11_latestOf_27 (by decide) ⟨by omega, by omega⟩ (fun c_27 => ?_) (fun c_27 => ?_)
          · refine e_iinc (ls2 := [_, _, _]) dX11_latestOf_32 rfl (Nat.le_of_ble_eq_true rfl) rfl ?_
            refine e_goto (tgt := 7) dX11_latestOf_35 (by decide) ?_
            exact ih (by omega) (by rw [if_neg (by omega)] at h2; exact h2)
          · refine e_iload_n dX11_latestOf_30 rfl ?_
            exact e_iret dX11_latestOf_31 (Or.inl rfl) (e_ok (by rw [← h2, if_pos ⟨by omega, by omega⟩]) rfl rfl)
  refine e_aload_n dX11_latestOf_0 rfl ?_
  refine m_getI (by decide) dX11_latestOf_1 f_X11_155 (Or.inl rfl) hT ?_
  have g_1 := rs_16 hW
  refine e_iconst dX11_latestOf_4 ?_
  refine e_isub dX11_latestOf_5 ?_
  refine e_istore_n (ls2 := [_, _, _]) dX11_latestOf_6 (Nat.le_of_ble_eq_true rfl) rfl ?_
  have e8 : (((M 50 16).toNat : Nat) : Int) = M 50 16 := Int.toNat_of_nonneg (by omega)
  have := lp (M 50 16).toNat (by omega) rfl
  rw [e8] at this
  exact this
set_option maxRecDepth 20000 in
set_option maxHeartbeats 4000000 in
theorem m_isIn {K : q_K} {M C : q_S} {a : Nat} (hT : K a = (12, 0, 50)) (hW : WR M) {v : Int} (hv : -1 ≤ v ∧ v < 120) : q_E mX11_isIn 0 [some (q_R a), some (q_I v)] [] K M C 0 0 (e_is (some (q_I (bi (isInP M v)))) K M C) := by
  refine e_iload_n dX11_isIn_0 rfl ?_
  refine e_iconst dX11_isIn_1 ?_
  refine e_icmp_eq (tgt := 20) dX11_isIn_2 (by decide) ⟨by omega, by omega⟩ ⟨by omega, by omega⟩ (fun c_2 => ?_) (fun c_2 => ?_)
  · refine e_iconst dX11_isIn_20 ?_
    exact e_iret dX11_isIn_21 (Or.inr ⟨rfl, by omega⟩) (e_ok (by unfold bi; split <;> first | rfl | (exfalso; omega)) rfl rfl)
  · refine e_aload_n dX11_isIn_5 rfl ?_
    refine m_getR (kt := (21, 120, 21)) (by decide) dX11_isIn_6 f_X11_56 hT rfl (Nat.succ_ne_zero _) (fun q_6 h_6 => ?_)
    refine e_iload_n dX11_isIn_9 rfl ?_
    refine m_law (by decide) (rg_21 hW) dX11_isIn_10 h_6 (by omega) (by omega) (fun g_10 => ?_)
    refine e_lconst (z := 0) dX11_isIn_11 rfl ?_
    refine e_lcmp dX11_isIn_12 ⟨by omega, by omega⟩ ⟨by omega, by omega⟩ ?_
    refine e_if_le (tgt := 20) dX11_isIn_13 (by decide) (q_cmp_iI _ _) (fun c_13 => ?_) (fun c_13 => ?_)
    · rw [q_cmp_le] at c_13
      refine e_iconst dX11_isIn_20 ?_
      exact e_iret dX11_isIn_21 (Or.inr ⟨rfl, by omega⟩) (e_ok (by unfold bi; split <;> first | rfl | (exfalso; omega)) rfl rfl)
    · rw [q_cmp_le] at c_13
      refine e_iconst dX11_isIn_16 ?_
      refine e_goto (tgt := 21) dX11_isIn_17 (by decide) ?_
      exact e_iret dX11_isIn_21 (Or.inr ⟨rfl, by omega⟩) (e_ok (by unfold bi; split <;> first | rfl | (exfalso; omega)) rfl rfl)
set_option maxRecDepth 20000 in
set_option maxHeartbeats 4000000 in
theorem m_rightOf {K : q_K} {M C : q_S} {a : Nat} (hT : K a = (12, 0, 50)) (hW : WR M) {d m : Int} (hd : 0 ≤ d ∧ d ≤ 3) (hm : 0 ≤ m ∧ m ≤ 2) : q_E mX11_rightOf 0 [some (q_R a), some (q_I d), some (q_I m)] [] K M C 0 0 (e_is (some (q_I (rightF M d m))) K M C) := by
  refine e_aload_n dX11_rightOf_0 rfl ?_
  refine m_getI (by decide) dX11_rightOf_1 f_X11_132 (Or.inl rfl) hT ?_
  have g_1 := rs_1 hW
  refine e_aload_n dX11_rightOf_4 rfl ?_
  refine m_getR (kt := (20, 12, 26)) (by decide) dX11_rightOf_5 f_X11_71 hT rfl (Nat.succ_ne_zero _) (fun q_5 h_5 => ?_)
  refine e_iconst dX11_rightOf_8 ?_
  refine e_iload_n dX11_rightOf_9 rfl ?_
  refine e_imul dX11_rightOf_10 ?_
  refine e_iload_n dX11_rightOf_11 rfl ?_
  refine e_iadd dX11_rightOf_12 ?_
  refine m_iaw (by decide) (rg_26 hW) dX11_rightOf_13 h_5 (by omega) (by omega) (fun g_13 => ?_)
  refine e_icmp_ge (tgt := 30) dX11_rightOf_14 (by decide) ⟨by omega, by omega⟩ ⟨by omega, by omega⟩ (fun c_14 => ?_) (fun c_14 => ?_)
  · refine e_iconst dX11_rightOf_30 ?_
    exact e_iret dX11_rightOf_31 (Or.inl rfl) (e_ok (by unfold rightF; split <;> first | rfl | (exfalso; omega)) rfl rfl)
  · refine e_aload_n dX11_rightOf_17 rfl ?_
    refine m_getR (kt := (20, 12, 25)) (by decide) dX11_rightOf_18 f_X11_68 hT rfl (Nat.succ_ne_zero _) (fun q_18 h_18 => ?_)
    refine e_iconst dX11_rightOf_21 ?_
    refine e_iload_n dX11_rightOf_22 rfl ?_
    refine e_imul dX11_rightOf_23 ?_
    refine e_iload_n dX11_rightOf_24 rfl ?_
    refine e_iadd dX11_rightOf_25 ?_
    refine m_iaw (by decide) (rg_25 hW) dX11_rightOf_26 h_18 (by omega) (by omega) (fun g_26 => ?_)
    refine e_goto (tgt := 31) dX11_rightOf_27 (by decide) ?_
    exact e_iret dX11_rightOf_31 (Or.inl rfl) (e_ok (by unfold rightF; split <;> first | rfl | (exfalso; omega)) rfl rfl)
set_option maxRecDepth 20000 in
set_option maxHeartbeats 4000000 in
theorem m_locker {K : q_K} {M C : q_S} {a : Nat} (hT : K a = (12, 0, 50)) (hW : WR M) {f : Int} (hf : 0 ≤ f ∧ f ≤ 15) : q_E mX11_locker 0 [some (q_R a), some (q_I f)] [] K M C 0 0 (e_is (some (q_I (lockF M f))) K M C) := by
  refine e_aload_n dX11_locker_0 rfl ?_
  refine m_getR (kt := (20, 16, 23)) (by decide) dX11_locker_1 f_X11_62 hT rfl (Nat.succ_ne_zero _) (fun q_1 h_1 => ?_)
  refine e_iload_n dX11_locker_4 rfl ?_
  refine m_iaw (by decide) (rg_23 hW) dX11_locker_5 h_1 (by omega) (by omega) (fun g_5 => ?_)
  refine e_if_le (tgt := 33) dX11_locker_6 (by decide) ⟨by omega, by omega⟩ (fun c_6 => ?_) (fun c_6 => ?_)
  · refine e_iconst dX11_locker_33 ?_
    exact e_iret dX11_locker_34 (Or.inl rfl) (e_ok (by unfold lockF; split <;> first | rfl | (exfalso; omega)) rfl rfl)
  · refine e_aload_n dX11_locker_9 rfl ?_
    refine m_getI (by decide) dX11_locker_10 f_X11_132 (Or.inl rfl) hT ?_
    have g_10 := rs_1 hW
    refine e_aload_n dX11_locker_13 rfl ?_
    refine m_getR (kt := (20, 16, 24)) (by decide) dX11_locker_14 f_X11_65 hT rfl (Nat.succ_ne_zero _) (fun q_14 h_14 => ?_)
    refine e_iload_n dX11_locker_17 rfl ?_
    refine m_iaw (by decide) (rg_24 hW) dX11_locker_18 h_14 (by omega) (by omega) (fun g_18 => ?_)
    refine e_icmp_ge (tgt := 33) dX11_locker_19 (by decide) ⟨by omega, by omega⟩ ⟨by omega, by omega⟩ (fun c_19 => ?_) (fun c_19 => ?_)
    · refine e_iconst dX11_locker_33 ?_
      exact e_iret dX11_locker_34 (Or.inl rfl) (e_ok (by unfold lockF; split <;> first | rfl | (exfalso; omega)) rfl rfl)
    · refine e_aload_n dX11_locker_22 rfl ?_
      refine m_getR (kt := (20, 16, 23)) (by decide) dX11_locker_23 f_X11_62 hT rfl (Nat.succ_ne_zero _) (fun q_23 h_23 => ?_)
      refine e_iload_n dX11_locker_26 rfl ?_
      refine m_iaw (by decide) (rg_23 hW) dX11_locker_27 h_23 (by omega) (by omega) (fun g_27 => ?_)
      refine e_iconst dX11_locker_28 ?_
      refine e_isub dX11_locker_29 ?_
      refine e_goto (tgt := 34) dX11_locker_30 (by decide) ?_
      exact e_iret dX11_locker_34 (Or.inl rfl) (e_ok (by unfold lockF; split <;> first | rfl | (exfalso; omega)) rfl rfl)
set_option maxRecDepth 20000 in
set_option maxHeartbeats 4000000 in
theorem m_isAs {K : q_K} {M C : q_S} {a : Nat} (hT : K a = (12, 0, 50)) (hW : WR M) {p v : Int} (hp : 0 ≤ p ∧ p < 48) (hv : -1 ≤ v ∧ v < 120) : q_E mX11_isAs 0 [some (q_R a), some (q_I p), some (q_I v)] [] K M C 0 0 (e_is (some (q_I (bi (isAsP M p v)))) K M C) := by
  refine e_iload_n dX11_isAs_0 rfl ?_
  refine e_iconst dX11_isAs_1 ?_
  refine e_icmp_eq (tgt := 16) dX11_isAs_2 (by decide) ⟨by omega, by omega⟩ ⟨by omega, by omega⟩ (fun c_2 => ?_) (fun c_2 => ?_)
  · refine e_aload_n dX11_isAs_16 rfl ?_
    refine m_getR (kt := (20, 48, 2)) (by decide) dX11_isAs_17 f_X11_7 hT rfl (Nat.succ_ne_zero _) (fun q_17 h_17 => ?_)
    refine e_iload_n dX11_isAs_20 rfl ?_
    refine m_iaw (by decide) (rg_2 hW) dX11_isAs_21 h_17 (by omega) (by omega) (fun g_21 => ?_)
    refine e_if_ne (tgt := 29) dX11_isAs_22 (by decide) ⟨by omega, by omega⟩ (fun c_22 => ?_) (fun c_22 => ?_)
    · refine e_iconst dX11_isAs_29 ?_
      exact e_iret dX11_isAs_30 (Or.inr ⟨rfl, by omega⟩) (e_ok (by unfold bi; split <;> first | rfl | (exfalso; omega)) rfl rfl)
    · refine e_iconst dX11_isAs_25 ?_
      refine e_goto (tgt := 30) dX11_isAs_26 (by decide) ?_
      exact e_iret dX11_isAs_30 (Or.inr ⟨rfl, by omega⟩) (e_ok (by unfold bi; split <;> first | rfl | (exfalso; omega)) rfl rfl)
  · refine e_aload_n dX11_isAs_5 rfl ?_
    refine m_getR (kt := (21, 120, 21)) (by decide) dX11_isAs_6 f_X11_56 hT rfl (Nat.succ_ne_zero _) (fun q_6 h_6 => ?_)
    refine e_iload_n dX11_isAs_9 rfl ?_
    refine m_law (by decide) (rg_21 hW) dX11_isAs_10 h_6 (by omega) (by omega) (fun g_10 => ?_)
    refine e_lconst (z := 0) dX11_isAs_11 rfl ?_
    refine e_lcmp dX11_isAs_12 ⟨by omega, by omega⟩ ⟨by omega, by omega⟩ ?_
    refine e_if_ne (tgt := 31) dX11_isAs_13 (by decide) (q_cmp_iI _ _) (fun c_13 => ?_) (fun c_13 => ?_)
    · rw [q_cmp_eq] at c_13
      refine e_aload_n dX11_isAs_31 rfl ?_
      refine m_getR (kt := (20, 48, 2)) (by decide) dX11_isAs_32 f_X11_7 hT rfl (Nat.succ_ne_zero _) (fun q_32 h_32 => ?_)
      refine e_iload_n dX11_isAs_35 rfl ?_
      refine m_iaw (by decide) (rg_2 hW) dX11_isAs_36 h_32 (by omega) (by omega) (fun g_36 => ?_)
      refine e_if_eq (tgt := 75) dX11_isAs_37 (by decide) ⟨by omega, by omega⟩ (fun c_37 => ?_) (fun c_37 => ?_)
      · refine e_iconst dX11_isAs_75 ?_
        exact e_iret dX11_isAs_76 (Or.inr ⟨rfl, by omega⟩) (e_ok (by unfold bi; split <;> first | rfl | (exfalso; omega)) rfl rfl)
      · refine e_aload_n dX11_isAs_40 rfl ?_
        refine m_getR (kt := (21, 48, 3)) (by decide) dX11_isAs_41 f_X11_13 hT rfl (Nat.succ_ne_zero _) (fun q_41 h_41 => ?_)
        refine e_iload_n dX11_isAs_44 rfl ?_
        refine m_law (by decide) (rg_3 hW) dX11_isAs_45 h_41 (by omega) (by omega) (fun g_45 => ?_)
        refine e_aload_n dX11_isAs_46 rfl ?_
        refine m_getR (kt := (21, 120, 21)) (by decide) dX11_isAs_47 f_X11_56 hT rfl (Nat.succ_ne_zero _) (fun q_47 h_47 => ?_)
        refine e_iload_n dX11_isAs_50 rfl ?_
        refine m_law (by decide) (rg_21 hW) dX11_isAs_51 h_47 (by omega) (by omega) (fun g_51 => ?_)
        refine e_lcmp dX11_isAs_52 ⟨by omega, by omega⟩ ⟨by omega, by omega⟩ ?_
        refine e_if_ne (tgt := 75) dX11_isAs_53 (by decide) (q_cmp_iI _ _) (fun c_53 => ?_) (fun c_53 => ?_)
        · rw [q_cmp_eq] at c_53
          refine e_iconst dX11_isAs_75 ?_
          exact e_iret dX11_isAs_76 (Or.inr ⟨rfl, by omega⟩) (e_ok (by unfold bi; split <;> first | rfl | (exfalso; omega)) rfl rfl)
        · rw [q_cmp_eq] at c_53
          refine e_aload_n dX11_isAs_56 rfl ?_
          refine m_getR (kt := (20, 48, 4)) (by decide) dX11_isAs_57 f_X11_17 hT rfl (Nat.succ_ne_zero _) (fun q_57 h_57 => ?_)
          refine e_iload_n dX11_isAs_60 rfl ?_
          refine m_iaw (by decide) (rg_4 hW) dX11_isAs_61 h_57 (by omega) (by omega) (fun g_61 => ?_)
          refine e_aload_n dX11_isAs_62 rfl ?_
          refine m_getR (kt := (20, 120, 20)) (by decide) dX11_isAs_63 f_X11_53 hT rfl (Nat.succ_ne_zero _) (fun q_63 h_63 => ?_)
          refine e_iload_n dX11_isAs_66 rfl ?_
          refine m_iaw (by decide) (rg_20 hW) dX11_isAs_67 h_63 (by omega) (by omega) (fun g_67 => ?_)
          refine e_icmp_ne (tgt := 75) dX11_isAs_68 (by decide) ⟨by omega, by omega⟩ ⟨by omega, by omega⟩ (fun c_68 => ?_) (fun c_68 => ?_)
          · refine e_iconst dX11_isAs_75 ?_
            exact e_iret dX11_isAs_76 (Or.inr ⟨rfl, by omega⟩) (e_ok (by unfold bi; split <;> first | rfl | (exfalso; omega)) rfl rfl)
          · refine e_iconst dX11_isAs_71 ?_
            refine e_goto (tgt := 76) dX11_isAs_72 (by decide) ?_
            exact e_iret dX11_isAs_76 (Or.inr ⟨rfl, by omega⟩) (e_ok (by unfold bi; split <;> first | rfl | (exfalso; omega)) rfl rfl)
    · rw [q_cmp_eq] at c_13
      refine e_aload_n dX11_isAs_16 rfl ?_
      refine m_getR (kt := (20, 48, 2)) (by decide) dX11_isAs_17 f_X11_7 hT rfl (Nat.succ_ne_zero _) (fun q_17 h_17 => ?_)
      refine e_iload_n dX11_isAs_20 rfl ?_
      refine m_iaw (by decide) (rg_2 hW) dX11_isAs_21 h_17 (by omega) (by omega) (fun g_21 => ?_)
      refine e_if_ne (tgt := 29) dX11_isAs_22 (by decide) ⟨by omega, by omega⟩ (fun c_22 => ?_) (fun c_22 => ?_)
      · refine e_iconst dX11_isAs_29 ?_
        exact e_iret dX11_isAs_30 (Or.inr ⟨rfl, by omega⟩) (e_ok (by unfold bi; split <;> first | rfl | (exfalso; omega)) rfl rfl)
      · refine e_iconst dX11_isAs_25 ?_
        refine e_goto (tgt := 30) dX11_isAs_26 (by decide) ?_
        exact e_iret dX11_isAs_30 (Or.inr ⟨rfl, by omega⟩) (e_ok (by unfold bi; split <;> first | rfl | (exfalso; omega)) rfl rfl)
set_option maxRecDepth 20000 in
set_option maxHeartbeats 4000000 in
theorem m_isOther {K : q_K} {M C : q_S} {a : Nat} (hT : K a = (12, 0, 50)) (hW : WR M) {p : Int} (hp : 0 ≤ p ∧ p < 48) : q_E mX11_isOther 0 [some (q_R a), some (q_I p)] [] K M C 0 0 (e_is (some (q_I (bi (isOtherP M p)))) K M C) := by
  refine e_aload_n dX11_isOther_0 rfl ?_
  refine e_iload_n dX11_isOther_1 rfl ?_
  refine e_aload_n dX11_isOther_2 rfl ?_
  refine m_getR (kt := (20, 48, 5)) (by decide) dX11_isOther_3 f_X11_20 hT rfl (Nat.succ_ne_zero _) (fun q_3 h_3 => ?_)
  refine e_iload_n dX11_isOther_6 rfl ?_
  refine m_iaw (by decide) (rg_5 hW) dX11_isOther_7 h_3 (by omega) (by omega) (fun g_7 => ?_)
  refine e_iconst dX11_isOther_8 ?_
  refine e_isub dX11_isOther_9 ?_
  refine e_cV (as := [_, _]) (ci := 11) dX11_isOther_10 k_X11_isAs l_X11_148 i_X11_isAs v_X11_isAs hT rfl (by decide) ⟨_, _, rfl⟩ rfl rfl rfl rfl (Nat.le_of_ble_eq_true rfl) ⟨by decide, by decide⟩ (Nat.le_of_ble_eq_true rfl) (by decide) (m_isAs hT hW hp ⟨by omega, by omega⟩) ?_
  refine e_if_ne (tgt := 20) dX11_isOther_13 (by decide) bi_iI (fun c_13 => ?_) (fun c_13 => ?_)
  · simp only [bi_z, Classical.not_not] at c_13
    refine e_iconst dX11_isOther_20 ?_
    exact e_iret dX11_isOther_21 (Or.inr ⟨rfl, by omega⟩) (e_ok (by unfold bi; split <;> first | rfl | (exfalso; contradiction)) rfl rfl)
  · simp only [bi_z, Classical.not_not] at c_13
    refine e_iconst dX11_isOther_16 ?_
    refine e_goto (tgt := 21) dX11_isOther_17 (by decide) ?_
    exact e_iret dX11_isOther_21 (Or.inr ⟨rfl, by omega⟩) (e_ok (by unfold bi; split <;> first | rfl | (exfalso; contradiction)) rfl rfl)
set_option maxRecDepth 20000 in
set_option maxHeartbeats 4000000 in
theorem m_notes {K : q_K} {M C : q_S} {a : Nat} (hT : K a = (12, 0, 50)) (hW : WR M) {p : Int} (hp : 0 ≤ p ∧ p < 48) : q_E mX11_notes 0 [some (q_R a), some (q_I p)] [] K M C 0 0 (e_is none K (notesF M p) C) := by
  refine e_aload_n dX11_notes_0 rfl ?_
  refine m_getR (kt := (20, 48, 8)) (by decide) dX11_notes_1 f_X11_29 hT rfl (Nat.succ_ne_zero _) (fun q_1 h_1 => ?_)
  refine e_iload_n dX11_notes_4 rfl ?_
  refine m_iaw (by decide) (rg_8 hW) dX11_notes_5 h_1 (by omega) (by omega) (fun g_5 => ?_)
  refine e_if_ne (tgt := 29) dX11_notes_6 (by decide) ⟨by omega, by omega⟩ (fun c_6 => ?_) (fun c_6 => ?_)
  · exact e_ret dX11_notes_29 rfl (e_ok rfl (by unfold notesF; split <;> first | rfl | (exfalso; omega)) rfl)
  · refine e_aload_n dX11_notes_9 rfl ?_
    refine e_dup dX11_notes_10 rfl ?_
    refine m_getI (by decide) dX11_notes_11 f_X11_123 (Or.inl rfl) hT ?_
    have g_11 := rs_10 hW
    refine e_iconst dX11_notes_14 ?_
    refine e_iadd dX11_notes_15 ?_
    refine m_putI (by decide) dX11_notes_16 f_X11_123 rfl hT ⟨by omega, by omega⟩ ?_
    refine e_aload_n dX11_notes_19 rfl ?_
    refine m_getR (kt := (20, 48, 8)) (by decide) dX11_notes_20 f_X11_29 hT rfl (Nat.succ_ne_zero _) (fun q_20 h_20 => ?_)
    refine e_iload_n dX11_notes_23 rfl ?_
    refine e_aload_n dX11_notes_24 rfl ?_
    refine m_getI (by decide) dX11_notes_25 f_X11_123 (Or.inl rfl) hT ?_
    simp only [q_us_ap, editsF_3, Int.reduceEq, Int.reduceNeg, false_and, and_false, and_self, if_true, if_false, true_and, and_true, ite_self]
    have g_25 := rs_10 hW
    refine m_iast (by decide) dX11_notes_28 h_20 (by omega) (by omega) ⟨by omega, by omega⟩ ?_
    exact e_ret dX11_notes_29 rfl (e_ok rfl (by unfold notesF; split <;> first | rfl | (exfalso; omega)) rfl)
set_option maxRecDepth 20000 in
set_option maxHeartbeats 4000000 in
theorem m_edits {K : q_K} {M C : q_S} {a : Nat} (hT : K a = (12, 0, 50)) (hW : WR M) {p : Int} (hp : 0 ≤ p ∧ p < 48) : q_E mX11_edits 0 [some (q_R a), some (q_I p)] [] K M C 0 0 (e_is none K (editsF M p) C) := by
  refine e_aload_n dX11_edits_0 rfl ?_
  refine m_getR (kt := (20, 3, 11)) (by decide) dX11_edits_1 f_X11_32 hT rfl (Nat.succ_ne_zero _) (fun q_1 h_1 => ?_)
  refine e_iload_n dX11_edits_4 rfl ?_
  refine e_bipush dX11_edits_5 (by decide) ?_
  refine e_idiv dX11_edits_7 ⟨by omega, by omega⟩ ⟨by omega, by omega⟩ ?_
  refine m_iaw (by decide) (rg_11 hW) dX11_edits_8 h_1 (by omega) (by omega) (fun g_8 => ?_)
  refine e_if_ne (tgt := 20) dX11_edits_9 (by decide) ⟨by omega, by omega⟩ (fun c_9 => ?_) (fun c_9 => ?_)
  · refine e_aload_n dX11_edits_20 rfl ?_
    refine m_getR (kt := (20, 4000, 14)) (by decide) dX11_edits_21 f_X11_38 hT rfl (Nat.succ_ne_zero _) (fun q_21 h_21 => ?_)
    refine e_aload_n dX11_edits_24 rfl ?_
    refine m_getI (by decide) dX11_edits_25 f_X11_129 (Or.inl rfl) hT ?_
    have g_25 := rs_13 hW
    refine e_iload_n dX11_edits_28 rfl ?_
    refine m_iast (by decide) dX11_edits_29 h_21 (by omega) (by omega) ⟨by omega, by omega⟩ ?_
    refine e_aload_n dX11_edits_30 rfl ?_
    refine m_getR (kt := (20, 4000, 15)) (by decide) dX11_edits_31 f_X11_41 hT rfl (Nat.succ_ne_zero _) (fun q_31 h_31 => ?_)
    refine e_aload_n dX11_edits_34 rfl ?_
    refine m_getI (by decide) dX11_edits_35 f_X11_129 (Or.inl rfl) hT ?_
    simp only [q_us_ap, editsF_3, Int.reduceEq, Int.reduceNeg, false_and, and_false, and_self, if_true, if_false, true_and, and_true, ite_self]
    have g_35 := rs_13 hW
    refine e_aload_n dX11_edits_38 rfl ?_
    refine m_getI (by decide) dX11_edits_39 f_X11_132 (Or.inl rfl) hT ?_
    simp only [q_us_ap, editsF_3, Int.reduceEq, Int.reduceNeg, false_and, and_false, and_self, if_true, if_false, true_and, and_true, ite_self]
    have g_39 := rs_1 hW
    refine e_aload_n dX11_edits_42 rfl ?_
    refine m_getR (kt := (20, 3, 11)) (by decide) dX11_edits_43 f_X11_32 hT rfl (Nat.succ_ne_zero _) (fun q_43 h_43 => ?_)
    refine e_iload_n dX11_edits_46 rfl ?_
    refine e_bipush dX11_edits_47 (by decide) ?_
    refine e_idiv dX11_edits_49 ⟨by omega, by omega⟩ ⟨by omega, by omega⟩ ?_
    refine m_iald (by decide) dX11_edits_50 h_43 (by omega) (by omega) ?_
    simp only [q_us_ap, editsF_3, Int.reduceEq, Int.reduceNeg, false_and, and_false, and_self, if_true, if_false, true_and, and_true, ite_self]
    have g_50 := rg_11 hW (p / 16) (by omega) (by omega)
    refine e_iadd dX11_edits_51 ?_
    refine m_iast (by decide) dX11_edits_52 h_31 (by omega) (by omega) ⟨by omega, by omega⟩ ?_
    refine e_aload_n dX11_edits_53 rfl ?_
    refine e_dup dX11_edits_54 rfl ?_
    refine m_getI (by decide) dX11_edits_55 f_X11_129 (Or.inl rfl) hT ?_
    simp only [q_us_ap, editsF_3, Int.reduceEq, Int.reduceNeg, false_and, and_false, and_self, if_true, if_false, true_and, and_true, ite_self]
    have g_55 := rs_13 hW
    refine e_iconst dX11_edits_58 ?_
    refine e_iadd dX11_edits_59 ?_
    refine m_putI (by decide) dX11_edits_60 f_X11_129 rfl hT ⟨by omega, by omega⟩ ?_
    exact e_ret dX11_edits_63 rfl (e_ok rfl (by unfold editsF; split <;> first | rfl | (exfalso; omega)) rfl)
  · refine e_aload_n dX11_edits_12 rfl ?_
    refine e_iload_n dX11_edits_13 rfl ?_
    refine e_cV (as := [_]) (ci := 11) dX11_edits_14 k_X11_notes l_X11_126 i_X11_notes v_X11_notes hT rfl (by decide) ⟨_, _, rfl⟩ rfl rfl rfl rfl (Nat.le_of_ble_eq_true rfl) ⟨by decide, by decide⟩ (Nat.le_of_ble_eq_true rfl) (by decide) (m_notes hT hW hp) ?_
    refine e_goto (tgt := 63) dX11_edits_17 (by decide) ?_
    exact e_ret dX11_edits_63 rfl (e_ok rfl (by unfold editsF; split <;> first | rfl | (exfalso; omega)) rfl)
set_option maxRecDepth 20000 in
set_option maxHeartbeats 4000000 in
theorem m_leaves {K : q_K} {M C : q_S} {a : Nat} (hT : K a = (12, 0, 50)) {p : Int} (hp : 0 ≤ p ∧ p < 48) : q_E mX11_leaves 0 [some (q_R a), some (q_I p)] [] K M C 0 0 (e_is none K (leavesF M p) C) := by
  refine e_aload_n dX11_leaves_0 rfl ?_
  refine m_getR (kt := (20, 48, 2)) (by decide) dX11_leaves_1 f_X11_7 hT rfl (Nat.succ_ne_zero _) (fun q_1 h_1 => ?_)
  refine e_iload_n dX11_leaves_4 rfl ?_
  refine e_iconst dX11_leaves_5 ?_
  refine m_iast (by decide) dX11_leaves_6 h_1 (by omega) (by omega) ⟨by omega, by omega⟩ ?_
  refine e_aload_n dX11_leaves_7 rfl ?_
  refine m_getR (kt := (21, 48, 3)) (by decide) dX11_leaves_8 f_X11_13 hT rfl (Nat.succ_ne_zero _) (fun q_8 h_8 => ?_)
  refine e_iload_n dX11_leaves_11 rfl ?_
  refine e_lconst (z := 0) dX11_leaves_12 rfl ?_
  refine m_last (by decide) dX11_leaves_13 h_8 (by omega) (by omega) ⟨by omega, by omega⟩ ?_
  refine e_aload_n dX11_leaves_14 rfl ?_
  refine m_getR (kt := (20, 48, 4)) (by decide) dX11_leaves_15 f_X11_17 hT rfl (Nat.succ_ne_zero _) (fun q_15 h_15 => ?_)
  refine e_iload_n dX11_leaves_18 rfl ?_
  refine e_iconst dX11_leaves_19 ?_
  refine m_iast (by decide) dX11_leaves_20 h_15 (by omega) (by omega) ⟨by omega, by omega⟩ ?_
  exact e_ret dX11_leaves_21 rfl (e_ok rfl rfl rfl)
set_option maxRecDepth 20000 in
set_option maxHeartbeats 4000000 in
theorem m_asks {K : q_K} {M C : q_S} {a : Nat} (hT : K a = (12, 0, 50)) (hW : WR M) {m f : Int} (hm : q_iI m) (hf : q_iI f)  : q_E mX11_asks 0 [some (q_R a), some (q_I m), some (q_I f)] [] K M C 0 0 (e_is (some (q_I (asksF M m f).1)) K (asksF M m f).2 C) := by
  refine e_aload_n dX11_asks_0 rfl ?_
  refine e_iload_n dX11_asks_1 rfl ?_
  refine e_cS (as := [_]) dX11_asks_2 k_X11_isMachine l_X11_135 s_X11_isMachine rfl rfl rfl rfl (Nat.le_of_ble_eq_true rfl) ⟨by decide, by decide⟩ (Nat.le_of_ble_eq_true rfl) (by decide) (m_isMachine (by assumption)) ?_
  refine e_if_eq (tgt := 19) dX11_asks_5 (by decide) bi_iI (fun c_5 => ?_) (fun c_5 => ?_)
  · simp only [bi_z, Classical.not_not] at c_5
    refine e_iconst dX11_asks_19 ?_
    refine m_putI (by decide) dX11_asks_20 f_X11_101 rfl hT ⟨by omega, by omega⟩ ?_
    refine e_aload_n dX11_asks_23 rfl ?_
    refine m_getI (by decide) dX11_asks_24 f_X11_101 (Or.inl rfl) hT ?_
    simp only [q_us_ap, editsF_3, Int.reduceEq, Int.reduceNeg, false_and, and_false, and_self, if_true, if_false, true_and, and_true, ite_self]
    have g_24 := rs_41 hW
    refine e_if_ne (tgt := 39) dX11_asks_27 (by decide) ⟨by decide, by decide⟩ (fun c_27 => ?_) (fun c_27 => ?_)
    · refine e_iconst dX11_asks_39 ?_
      refine e_iret dX11_asks_40 (Or.inl rfl) ?_
      first
      | exact e_ok rfl rfl rfl
      | (unfold asksF; repeat' split
         all_goals first | exact e_ok rfl rfl rfl | (exfalso; omega) | (refine e_ok ?_ rfl rfl; unfold bi; repeat' split; all_goals first | rfl | (exfalso; omega)))
    · exact absurd c_27 (by decide)
  · simp only [bi_z, Classical.not_not] at c_5
    refine e_iload_n dX11_asks_8 rfl ?_
    refine e_cS (as := [_]) dX11_asks_9 k_X11_isFile l_X11_139 s_X11_isFile rfl rfl rfl rfl (Nat.le_of_ble_eq_true rfl) ⟨by decide, by decide⟩ (Nat.le_of_ble_eq_true rfl) (by decide) (m_isFile (by assumption)) ?_
    refine e_if_eq (tgt := 19) dX11_asks_12 (by decide) bi_iI (fun c_12 => ?_) (fun c_12 => ?_)
    · simp only [bi_z, Classical.not_not] at c_12
      refine e_iconst dX11_asks_19 ?_
      refine m_putI (by decide) dX11_asks_20 f_X11_101 rfl hT ⟨by omega, by omega⟩ ?_
      refine e_aload_n dX11_asks_23 rfl ?_
      refine m_getI (by decide) dX11_asks_24 f_X11_101 (Or.inl rfl) hT ?_
      simp only [q_us_ap, editsF_3, Int.reduceEq, Int.reduceNeg, false_and, and_false, and_self, if_true, if_false, true_and, and_true, ite_self]
      have g_24 := rs_41 hW
      refine e_if_ne (tgt := 39) dX11_asks_27 (by decide) ⟨by decide, by decide⟩ (fun c_27 => ?_) (fun c_27 => ?_)
      · refine e_iconst dX11_asks_39 ?_
        refine e_iret dX11_asks_40 (Or.inl rfl) ?_
        first
        | exact e_ok rfl rfl rfl
        | (unfold asksF; repeat' split
           all_goals first | exact e_ok rfl rfl rfl | (exfalso; omega) | (refine e_ok ?_ rfl rfl; unfold bi; repeat' split; all_goals first | rfl | (exfalso; omega)))
      · exact absurd c_27 (by decide)
    · simp only [bi_z, Classical.not_not] at c_12
      refine e_iconst dX11_asks_15 ?_
      refine e_goto (tgt := 20) dX11_asks_16 (by decide) ?_
      refine m_putI (by decide) dX11_asks_20 f_X11_101 rfl hT ⟨by omega, by omega⟩ ?_
      refine e_aload_n dX11_asks_23 rfl ?_
      refine m_getI (by decide) dX11_asks_24 f_X11_101 (Or.inl rfl) hT ?_
      simp only [q_us_ap, editsF_3, Int.reduceEq, Int.reduceNeg, false_and, and_false, and_self, if_true, if_false, true_and, and_true, ite_self]
      have g_24 := rs_41 hW
      refine e_if_ne (tgt := 39) dX11_asks_27 (by decide) ⟨by decide, by decide⟩ (fun c_27 => ?_) (fun c_27 => ?_)
      · exact absurd c_27 (by decide)
      · refine e_bipush dX11_asks_30 (by decide) ?_
        refine e_iload_n dX11_asks_32 rfl ?_
        refine e_imul dX11_asks_33 ?_
        refine e_iload_n dX11_asks_34 rfl ?_
        refine e_iadd dX11_asks_35 ?_
        refine e_goto (tgt := 40) dX11_asks_36 (by decide) ?_
        refine e_iret dX11_asks_40 (Or.inl rfl) ?_
        first
        | exact e_ok rfl rfl rfl
        | (unfold asksF; repeat' split
           all_goals first | exact e_ok rfl rfl rfl | (exfalso; omega) | (refine e_ok ?_ rfl rfl; unfold bi; repeat' split; all_goals first | rfl | (exfalso; omega)))
