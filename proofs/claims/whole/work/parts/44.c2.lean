set_option maxRecDepth 20000 in
set_option maxHeartbeats 4000000 in
theorem c_4_holderAt {K : q_K} {B M C : q_S} {l : Nat} (hL : K l = (5, 0, 106)) (hR : RC M C) (hI : MI M) (hW : WR M) {f : Int} (hf : 0 ≤ f ∧ f ≤ 15) : q_E mX4_holderAt 0 [some (q_R l), some (q_I f), some (q_I (M 50 1))] [] K B C 0 0 (e_is (some (q_I (lockF M f))) K B C) := by
  have h1 := rs_1 hW
  have hk := rc_K hR f hf.1 hf.2
  have hk2 := hk.2 (M 50 1) (Int.le_refl _)
  have hk3 : (if M 50 1 < C 132 f then C 131 f else -1) = lockF M f := hk2
  have hk4 := hk.1.1
  have hk5 := hk.1.2
  refine e_iload_n dX4_holderAt_0 rfl ?_
  refine e_aload_n dX4_holderAt_1 rfl ?_
  refine c_getR (kt := (20, 16, 132)) (by decide) (Or.inl (by decide)) dX4_holderAt_2 f_X4_15 hL rfl (Nat.succ_ne_zero _) (fun q_2 h_2 => ?_)
  refine e_iload_n dX4_holderAt_5 rfl ?_
  refine c_iald (by decide) dX4_holderAt_6 h_2 (by omega) (by omega) ?_
  refine e_icmp_ge (tgt := 19) dX4_holderAt_7 (by decide) ⟨by omega, by omega⟩ ⟨by omega, by omega⟩ (fun c_7 => ?_) (fun c_7 => ?_)
  · refine e_iconst dX4_holderAt_19 ?_
    exact e_iret dX4_holderAt_20 (Or.inl rfl) (e_ok (by rw [← hk3]; first | rw [if_pos (by omega)] | rw [if_neg (by omega)]) rfl rfl)
  · refine e_aload_n dX4_holderAt_10 rfl ?_
    refine c_getR (kt := (20, 16, 131)) (by decide) (Or.inl (by decide)) dX4_holderAt_11 f_X4_9 hL rfl (Nat.succ_ne_zero _) (fun q_11 h_11 => ?_)
    refine e_iload_n dX4_holderAt_14 rfl ?_
    refine c_iald (by decide) dX4_holderAt_15 h_11 (by omega) (by omega) ?_
    refine e_goto (tgt := 20) dX4_holderAt_16 (by decide) ?_
    exact e_iret dX4_holderAt_20 (Or.inl rfl) (e_ok (by rw [← hk3]; first | rw [if_pos (by omega)] | rw [if_neg (by omega)]) rfl rfl)
set_option maxRecDepth 20000 in
set_option maxHeartbeats 4000000 in
theorem c_7_rightAt {K : q_K} {B M C : q_S} {l : Nat} (hL : K l = (8, 0, 107)) (hR : RC M C) (hI : MI M) (hW : WR M) {d m : Int} (hd : 0 ≤ d ∧ d ≤ 3) (hm : 0 ≤ m ∧ m ≤ 2) : q_E mX7_rightAt 0 [some (q_R l), some (q_I d), some (q_I m), some (q_I (M 50 1)), none] [] K B C 0 0 (e_is (some (q_I (rightF M d m))) K B C) := by
  have h1 := rs_1 hW
  have e3 : 3 * d + m = ((d * 3) + m) := by omega
  refine e_iload_n dX7_rightAt_0 rfl ?_
  refine e_iconst dX7_rightAt_1 ?_
  refine e_imul dX7_rightAt_2 ?_
  refine e_iload_n dX7_rightAt_3 rfl ?_
  refine e_iadd dX7_rightAt_4 ?_
  refine e_istore (ls2 := [_, _, _, _, _]) dX7_rightAt_5 (Nat.le_of_ble_eq_true rfl) rfl ?_
  refine e_iload_n dX7_rightAt_7 rfl ?_
  refine e_aload_n dX7_rightAt_8 rfl ?_
  refine c_getR (kt := (20, 12, 134)) (by decide) (Or.inl (by decide)) dX7_rightAt_9 f_X7_15 hL rfl (Nat.succ_ne_zero _) (fun q_9 h_9 => ?_)
  refine e_iload dX7_rightAt_12 rfl ?_
  refine c_iald (by decide) dX7_rightAt_14 h_9 (by omega) (by omega) ?_
  rw [rh_e hR (k := ((d * 3) + m)) ⟨by omega, by omega⟩]
  have g_14 : 0 ≤ M 26 ((d * 3) + m) ∧ M 26 ((d * 3) + m) ≤ 4100 := hW 26 ((d * 3) + m)
  refine e_icmp_ge (tgt := 28) dX7_rightAt_15 (by decide) ⟨by omega, by omega⟩ ⟨by omega, by omega⟩ (fun c_15 => ?_) (fun c_15 => ?_)
  · refine e_iconst dX7_rightAt_28 ?_
    exact e_iret dX7_rightAt_29 (Or.inl rfl) (e_ok (by unfold rightF; rw [e3]; first | rw [if_pos (by omega)] | rw [if_neg (by omega)]) rfl rfl)
  · refine e_aload_n dX7_rightAt_18 rfl ?_
    refine c_getR (kt := (20, 12, 133)) (by decide) (Or.inl (by decide)) dX7_rightAt_19 f_X7_9 hL rfl (Nat.succ_ne_zero _) (fun q_19 h_19 => ?_)
    refine e_iload dX7_rightAt_22 rfl ?_
    refine c_iald (by decide) dX7_rightAt_24 h_19 (by omega) (by omega) ?_
    rw [rh_r hR (k := ((d * 3) + m)) ⟨by omega, by omega⟩]
    have g_24 : 0 ≤ M 25 ((d * 3) + m) ∧ M 25 ((d * 3) + m) ≤ 2 := hW 25 ((d * 3) + m)
    refine e_goto (tgt := 29) dX7_rightAt_25 (by decide) ?_
    exact e_iret dX7_rightAt_29 (Or.inl rfl) (e_ok (by unfold rightF; rw [e3]; first | rw [if_pos (by omega)] | rw [if_neg (by omega)]) rfl rfl)
set_option maxRecDepth 20000 in
set_option maxHeartbeats 4000000 in
theorem c_3_isHeld_l {K : q_K} {B M C : q_S} {l : Nat} (hL : K l = (4, 0, 108)) (hR : RC M C) (hI : MI M) (hW : WR M) {f t : Int} (hf : 0 ≤ f ∧ f ≤ 15) (ht : 0 ≤ t ∧ t ≤ 2000) : ∀ (r k : Nat) (i : Int), (k + r = (M 50 27).toNat) → (hldF M f t k = 0) → (i = k) → q_E mX3_isHeld 2 [some (q_R l), some (q_I f), some (q_I t), some (q_I i)] [] K B C 0 0 (e_is (some (q_I (hldF M f t (M 50 27).toNat))) K B C) := by
  have h27 := rs_27 hW
  intro r
  induction r with
  | zero =>
    intro k i h1 h2 h3
    refine e_iload_n dX3_isHeld_2 rfl ?_
    refine e_aload_n dX3_isHeld_3 rfl ?_
    refine c_getI (by decide) dX3_isHeld_4 f_X3_9 (Or.inl rfl) hL ?_
    rw [rs_holds hR]
    have g_4 := rs_27 hW
    refine e_icmp_ge (tgt := 48) dX3_isHeld_7 (by decide) ⟨by omega, by omega⟩ ⟨by omega, by omega⟩ (fun c_7 => ?_) (fun c_7 => ?_)
    · refine e_iconst dX3_isHeld_48 ?_
      exact e_iret dX3_isHeld_49 (Or.inr ⟨rfl, by omega⟩) (e_ok (by rw [show (M 50 27).toNat = k by omega, h2]) rfl rfl)
    · exfalso; omega
  | succ r ih =>
    intro k i h1 h2 h3
    refine e_iload_n dX3_isHeld_2 rfl ?_
    refine e_aload_n dX3_isHeld_3 rfl ?_
    refine c_getI (by decide) dX3_isHeld_4 f_X3_9 (Or.inl rfl) hL ?_
    rw [rs_holds hR]
    have g_4 := rs_27 hW
    refine e_icmp_ge (tgt := 48) dX3_isHeld_7 (by decide) ⟨by omega, by omega⟩ ⟨by omega, by omega⟩ (fun c_7 => ?_) (fun c_7 => ?_)
    · exfalso; omega
    · refine e_aload_n dX3_isHeld_10 rfl ?_
      refine c_getR (kt := (20, 10, 135)) (by decide) (Or.inl (by decide)) dX3_isHeld_11 f_X3_15 hL rfl (Nat.succ_ne_zero _) (fun q_11 h_11 => ?_)
      refine e_iload_n dX3_isHeld_14 rfl ?_
      refine c_iald (by decide) dX3_isHeld_15 h_11 (by omega) (by omega) ?_
      rw [ro_f hR (k := i) ⟨by omega, by omega⟩]
      have g_15 : 0 ≤ M 28 i ∧ M 28 i ≤ 15 := hW 28 i
      refine e_iload_n dX3_isHeld_16 rfl ?_
      refine e_icmp_ne (tgt := 42) dX3_isHeld_17 (by decide) ⟨by omega, by omega⟩ ⟨by omega, by omega⟩ (fun c_17 => ?_) (fun c_17 => ?_)
      · refine e_iinc (ls2 := [_, _, _, _]) dX3_isHeld_42 rfl (Nat.le_of_ble_eq_true rfl) rfl ?_
        refine e_goto (tgt := 2) dX3_isHeld_45 (by decide) ?_
        exact ih (k + 1) _ (by omega) (by simp only [hldF, ← h3]; rw [if_neg (by omega)]; exact h2) (by omega)
      · refine e_aload_n dX3_isHeld_20 rfl ?_
        refine c_getR (kt := (20, 10, 136)) (by decide) (Or.inl (by decide)) dX3_isHeld_21 f_X3_19 hL rfl (Nat.succ_ne_zero _) (fun q_21 h_21 => ?_)
        refine e_iload_n dX3_isHeld_24 rfl ?_
        refine c_iald (by decide) dX3_isHeld_25 h_21 (by omega) (by omega) ?_
        rw [ro_a hR (k := i) ⟨by omega, by omega⟩]
        have g_25 : 0 ≤ M 29 i ∧ M 29 i ≤ 2000 := hW 29 i
        refine e_iload_n dX3_isHeld_26 rfl ?_
        refine e_icmp_gt (tgt := 42) dX3_isHeld_27 (by decide) ⟨by omega, by omega⟩ ⟨by omega, by omega⟩ (fun c_27 => ?_) (fun c_27 => ?_)
        · refine e_iinc (ls2 := [_, _, _, _]) dX3_isHeld_42 rfl (Nat.le_of_ble_eq_true rfl) rfl ?_
          refine e_goto (tgt := 2) dX3_isHeld_45 (by decide) ?_
          exact ih (k + 1) _ (by omega) (by simp only [hldF, ← h3]; rw [if_neg (by omega)]; exact h2) (by omega)
        · refine e_iload_n dX3_isHeld_30 rfl ?_
          refine e_aload_n dX3_isHeld_31 rfl ?_
          refine c_getR (kt := (20, 10, 137)) (by decide) (Or.inl (by decide)) dX3_isHeld_32 f_X3_22 hL rfl (Nat.succ_ne_zero _) (fun q_32 h_32 => ?_)
          refine e_iload_n dX3_isHeld_35 rfl ?_
          refine c_iald (by decide) dX3_isHeld_36 h_32 (by omega) (by omega) ?_
          rw [ro_b hR (k := i) ⟨by omega, by omega⟩]
          have g_36 : 0 ≤ M 30 i ∧ M 30 i ≤ 2000 := hW 30 i
          refine e_icmp_gt (tgt := 42) dX3_isHeld_37 (by decide) ⟨by omega, by omega⟩ ⟨by omega, by omega⟩ (fun c_37 => ?_) (fun c_37 => ?_)
          · refine e_iinc (ls2 := [_, _, _, _]) dX3_isHeld_42 rfl (Nat.le_of_ble_eq_true rfl) rfl ?_
            refine e_goto (tgt := 2) dX3_isHeld_45 (by decide) ?_
            exact ih (k + 1) _ (by omega) (by simp only [hldF, ← h3]; rw [if_neg (by omega)]; exact h2) (by omega)
          · refine e_iconst dX3_isHeld_40 ?_
            refine e_iret dX3_isHeld_41 (Or.inr ⟨rfl, by omega⟩) ?_
            have := hldF_some (M := M) (f := f) (t := t) (k := k) (by rw [← h3]; exact ⟨by omega, by omega, by omega⟩) ((M 50 27).toNat - (k + 1))
            rw [show k + 1 + ((M 50 27).toNat - (k + 1)) = (M 50 27).toNat by omega] at this
            exact e_ok (by rw [this]) rfl rfl
set_option maxRecDepth 20000 in
set_option maxHeartbeats 4000000 in
theorem c_3_isHeld {K : q_K} {B M C : q_S} {l : Nat} (hL : K l = (4, 0, 108)) (hR : RC M C) (hI : MI M) (hW : WR M) {f t : Int} (hf : 0 ≤ f ∧ f ≤ 15) (ht : 0 ≤ t ∧ t ≤ 2000) : q_E mX3_isHeld 0 [some (q_R l), some (q_I f), some (q_I t), none] [] K B C 0 0 (e_is (some (q_I (hldF M f t (M 50 27).toNat))) K B C) := by
  refine e_iconst dX3_isHeld_0 ?_
  refine e_istore_n (ls2 := [_, _, _, _]) dX3_isHeld_1 (Nat.le_of_ble_eq_true rfl) rfl ?_
  exact c_3_isHeld_l hL hR hI hW hf ht (M 50 27).toNat 0 0 (by omega) rfl rfl
set_option maxRecDepth 20000 in
set_option maxHeartbeats 4000000 in
theorem c_10_mayWrite {K : q_K} {B M C : q_S} {a : Nat} (hT : K a = (11, 0, 100)) (hR : RC M C) (hI : MI M) (hW : WR M) {m d : Int} (hm : 0 ≤ m ∧ m ≤ 2) (hd : 0 ≤ d ∧ d ≤ 3) : q_E mX10_mayWrite 0 [some (q_R a), some (q_I m), some (q_I d)] [] K B C 0 0 (e_is (some (q_I (bi (rightF M d m = 2)))) K B C) := by
  have hr := rightF_rg hW d m
  refine e_aload_n dX10_mayWrite_0 rfl ?_
  refine c_getR (kt := (8, 0, 107)) (by decide) (Or.inl (by decide)) dX10_mayWrite_1 f_X10_43 hT rfl (Nat.succ_ne_zero _) (fun q_1 h_1 => ?_)
  refine e_iload_n dX10_mayWrite_4 rfl ?_
  refine e_iload_n dX10_mayWrite_5 rfl ?_
  refine e_aload_n dX10_mayWrite_6 rfl ?_
  refine c_getI (by decide) dX10_mayWrite_7 f_X10_58 (Or.inl rfl) hT ?_
  rw [rs_now hR]
  have g_7 := rs_1 hW
  refine e_cV (as := [_, _, _]) (ci := 7) dX10_mayWrite_10 k_X7_rightAt l_X10_307 i_X7_rightAt v_X7_rightAt h_1 rfl (by decide) ⟨_, _, rfl⟩ rfl rfl rfl rfl (Nat.le_of_ble_eq_true rfl) ⟨by decide, by decide⟩ (Nat.le_of_ble_eq_true rfl) (by decide) (c_7_rightAt h_1 hR hI hW ⟨by omega, by omega⟩ ⟨by omega, by omega⟩) ?_
  refine e_iconst dX10_mayWrite_13 ?_
  refine e_icmp_ne (tgt := 21) dX10_mayWrite_14 (by decide) ⟨by omega, by omega⟩ ⟨by omega, by omega⟩ (fun c_14 => ?_) (fun c_14 => ?_)
  · refine e_iconst dX10_mayWrite_21 ?_
    exact e_iret dX10_mayWrite_22 (Or.inr ⟨rfl, by omega⟩) (e_ok (by unfold bi; split <;> first | rfl | (exfalso; omega)) rfl rfl)
  · refine e_iconst dX10_mayWrite_17 ?_
    refine e_goto (tgt := 22) dX10_mayWrite_18 (by decide) ?_
    exact e_iret dX10_mayWrite_22 (Or.inr ⟨rfl, by omega⟩) (e_ok (by unfold bi; split <;> first | rfl | (exfalso; omega)) rfl rfl)
set_option maxRecDepth 20000 in
set_option maxHeartbeats 4000000 in
theorem c_10_isLockedByOther {K : q_K} {B M C : q_S} {a : Nat} (hT : K a = (11, 0, 100)) (hR : RC M C) (hI : MI M) (hW : WR M) {m f : Int} (hm : 0 ≤ m ∧ m ≤ 2) (hf : 0 ≤ f ∧ f ≤ 15) : q_E mX10_isLockedByOther 0 [some (q_R a), some (q_I m), some (q_I f), none] [] K B C 0 0 (e_is (some (q_I (bi (¬ lockF M f = -1 ∧ ¬ lockF M f = m)))) K B C) := by
  have hr := lockF_rg hW f
  refine e_aload_n dX10_isLockedByOther_0 rfl ?_
  refine c_getR (kt := (5, 0, 106)) (by decide) (Or.inl (by decide)) dX10_isLockedByOther_1 f_X10_36 hT rfl (Nat.succ_ne_zero _) (fun q_1 h_1 => ?_)
  refine e_iload_n dX10_isLockedByOther_4 rfl ?_
  refine e_aload_n dX10_isLockedByOther_5 rfl ?_
  refine c_getI (by decide) dX10_isLockedByOther_6 f_X10_58 (Or.inl rfl) hT ?_
  rw [rs_now hR]
  have g_6 := rs_1 hW
  refine e_cV (as := [_, _]) (ci := 4) dX10_isLockedByOther_9 k_X4_holderAt l_X10_223 i_X4_holderAt v_X4_holderAt h_1 rfl (by decide) ⟨_, _, rfl⟩ rfl rfl rfl rfl (Nat.le_of_ble_eq_true rfl) ⟨by decide, by decide⟩ (Nat.le_of_ble_eq_true rfl) (by decide) (c_4_holderAt h_1 hR hI hW hf) ?_
  refine e_istore_n (ls2 := [_, _, _, _]) dX10_isLockedByOther_12 (Nat.le_of_ble_eq_true rfl) rfl ?_
  refine e_iload_n dX10_isLockedByOther_13 rfl ?_
  refine e_iconst dX10_isLockedByOther_14 ?_
  refine e_icmp_eq (tgt := 27) dX10_isLockedByOther_15 (by decide) ⟨by omega, by omega⟩ ⟨by omega, by omega⟩ (fun c_15 => ?_) (fun c_15 => ?_)
  · refine e_iconst dX10_isLockedByOther_27 ?_
    exact e_iret dX10_isLockedByOther_28 (Or.inr ⟨rfl, by omega⟩) (e_ok (by unfold bi; split <;> first | rfl | (exfalso; omega)) rfl rfl)
  · refine e_iload_n dX10_isLockedByOther_18 rfl ?_
    refine e_iload_n dX10_isLockedByOther_19 rfl ?_
    refine e_icmp_eq (tgt := 27) dX10_isLockedByOther_20 (by decide) ⟨by omega, by omega⟩ ⟨by omega, by omega⟩ (fun c_20 => ?_) (fun c_20 => ?_)
    · refine e_iconst dX10_isLockedByOther_27 ?_
      exact e_iret dX10_isLockedByOther_28 (Or.inr ⟨rfl, by omega⟩) (e_ok (by unfold bi; split <;> first | rfl | (exfalso; omega)) rfl rfl)
    · refine e_iconst dX10_isLockedByOther_23 ?_
      refine e_goto (tgt := 28) dX10_isLockedByOther_24 (by decide) ?_
      exact e_iret dX10_isLockedByOther_28 (Or.inr ⟨rfl, by omega⟩) (e_ok (by unfold bi; split <;> first | rfl | (exfalso; omega)) rfl rfl)
set_option maxRecDepth 20000 in
set_option maxHeartbeats 4000000 in
theorem c_10_mayAcknowledge {K : q_K} {B M C : q_S} {a : Nat} (hT : K a = (11, 0, 100)) (hR : RC M C) (hI : MI M) (hW : WR M) {m f : Int} (hm : 0 ≤ m ∧ m ≤ 2) (hf : 0 ≤ f ∧ f ≤ 15) : q_E mX10_mayAcknowledge 0 [some (q_R a), some (q_I m), some (q_I f), none, none, none, none] [] K B C 0 0 (e_is (some (q_I (bi (mayP M (16 * m + f) (latestOf M f))))) K B C) := by
  have h16 := rs_16 hW
  have hlt := latestOf_rg hW f
  have hv1 := vfo_rg hW (latestOf M f)
  have hv2 := cfo_rg hW (16 * m + f)
  have hin := vfo_isIn hW (latestOf M f)
  have e1 : (16 * m + f) % 16 = f := by omega
  have e2 : (16 * m + f) / 16 = m := by omega
  have g4 : 0 ≤ M 4 (16 * m + f) := (hW 4 _).1
  have ecf : cfo M (16 * m + f) = -1 ↔ M 2 (16 * m + f) = 0 := by unfold cfo; split <;> omega
  have ecn : ¬ M 2 (16 * m + f) = 0 → cfo M (16 * m + f) = M 4 (16 * m + f) := fun h => by unfold cfo; rw [if_neg h]
  have evn : isInP M (latestOf M f) → vfo M (latestOf M f) = M 20 (latestOf M f) := vfo_in
  have emp : mayP M (16 * m + f) (latestOf M f) ↔ (vfo M (latestOf M f) = -1 ∨ rightF M (vfo M (latestOf M f)) m = 2) ∧ (cfo M (16 * m + f) = -1 ∨ rightF M (cfo M (16 * m + f)) m = 2) ∧ ¬ (¬ lockF M f = -1 ∧ ¬ lockF M f = m) := by
    show ((lockF M ((16 * m + f) % 16) = -1 ∨ lockF M ((16 * m + f) % 16) = (16 * m + f) / 16) ∧ (¬ isInP M (latestOf M f) ∨ rightF M (M 20 (latestOf M f)) ((16 * m + f) / 16) = 2) ∧ (M 2 (16 * m + f) = 0 ∨ rightF M (M 4 (16 * m + f)) ((16 * m + f) / 16) = 2)) ↔ _
    rw [e1, e2]
    constructor
    · rintro ⟨a1, a2, a3⟩
      refine ⟨?_, ?_, fun h => a1.elim h.1 h.2⟩
      · by_cases h : isInP M (latestOf M f)
        · exact Or.inr (by rw [evn h]; exact a2.elim (fun g => absurd h g) (fun g => g))
        · exact Or.inl (hin.mpr h)
      · by_cases h : M 2 (16 * m + f) = 0
        · exact Or.inl (ecf.mpr h)
        · exact Or.inr (by rw [ecn h]; exact a3.elim (fun g => absurd g h) (fun g => g))
    · rintro ⟨a1, a2, a3⟩
      refine ⟨?_, ?_, ?_⟩
      · by_cases h : lockF M f = -1
        · exact Or.inl h
        · exact Or.inr (Classical.byContradiction (fun g => a3 ⟨h, g⟩))
      · by_cases h : isInP M (latestOf M f)
        · exact Or.inr (by rw [← evn h]; exact a1.elim (fun g => absurd h (hin.mp g)) (fun g => g))
        · exact Or.inl h
      · by_cases h : M 2 (16 * m + f) = 0
        · exact Or.inl h
        · exact Or.inr (by rw [← ecn h]; exact a2.elim (fun g => absurd (ecf.mp g) h) (fun g => g))
  refine e_aload_n dX10_mayAcknowledge_0 rfl ?_
  refine c_getR (kt := (36, 3, 102)) (by decide) (Or.inl (by decide)) dX10_mayAcknowledge_1 f_X10_15 hT rfl (Nat.succ_ne_zero _) (fun q_1 h_1 => ?_)
  refine e_iload_n dX10_mayAcknowledge_4 rfl ?_
  refine c_aald (ci := 6) (kt := (7, 0, (110 + m))) (by decide) (Or.inl (by decide)) dX10_mayAcknowledge_5 h_1 (by decide) (by omega) (by omega) (kl_m ⟨by omega, by omega⟩) (Nat.succ_ne_zero _) (fun q_5 h_5 => ?_)
  refine c_getR (kt := (31, 16, (140 + m))) (by omega) (Or.inl (by omega)) dX10_mayAcknowledge_6 f_X10_105 h_5 (kl_c ⟨by omega, by omega⟩) (Nat.succ_ne_zero _) (fun q_6 h_6 => ?_)
  refine e_iload_n dX10_mayAcknowledge_9 rfl ?_
  refine c_aald (ci := 1) (kt := (2, 0, (200 + (16 * m + f)))) (by omega) (Or.inl (by omega)) dX10_mayAcknowledge_10 h_6 (by decide) (by omega) (by omega) (kl_p ⟨by omega, by omega⟩ ⟨by omega, by omega⟩) (Nat.succ_ne_zero _) (fun q_10 h_10 => ?_)
  refine c_getI (by omega) dX10_mayAcknowledge_11 f_X10_114 (Or.inl rfl) h_10 ?_
  rw [rp_1 hR (p := (16 * m + f)) ⟨by omega, by omega⟩]
  have g_11 := cfo_rg hW (16 * m + f)
  refine e_istore_n (ls2 := [_, _, _, _, _, _, _]) dX10_mayAcknowledge_14 (Nat.le_of_ble_eq_true rfl) rfl ?_
  refine e_aload_n dX10_mayAcknowledge_15 rfl ?_
  refine c_getR (kt := (6, 0, 104)) (by decide) (Or.inl (by decide)) dX10_mayAcknowledge_16 f_X10_83 hT rfl (Nat.succ_ne_zero _) (fun q_16 h_16 => ?_)
  refine e_aload_n dX10_mayAcknowledge_19 rfl ?_
  refine c_getR (kt := (6, 0, 104)) (by decide) (Or.inl (by decide)) dX10_mayAcknowledge_20 f_X10_83 hT rfl (Nat.succ_ne_zero _) (fun q_20 h_20 => ?_)
  refine e_iload_n dX10_mayAcknowledge_23 rfl ?_
  refine e_cV (as := [_]) (ci := 5) dX10_mayAcknowledge_24 k_X5_latestOf l_X10_183 i_X5_latestOf v_X5_latestOf h_20 rfl (by decide) ⟨_, _, rfl⟩ rfl rfl rfl rfl (Nat.le_of_ble_eq_true rfl) ⟨by decide, by decide⟩ (Nat.le_of_ble_eq_true rfl) (by decide) (c_5_latestOf h_20 hR hI hW hf) ?_
  have g_24 := latestOf_rg hW f
  refine e_cVR (as := [_]) (ci := 5) (kr := (10, 0, (vtag (latestOf M f)))) dX10_mayAcknowledge_27 k_X5_at l_X10_186 i_X5_at v_X5_at h_16 rfl (by decide) ⟨_, _, rfl⟩ rfl rfl rfl rfl (Nat.le_of_ble_eq_true rfl) ⟨by decide, by decide⟩ (Nat.le_of_ble_eq_true rfl) (by decide) (c_5_at h_16 hR hI hW ⟨by omega, by omega⟩) (fun q_27 h_27 => ?_)
  refine c_getI (by have := vtag_rg (v := (latestOf M f)) (by omega); omega) dX10_mayAcknowledge_30 f_X10_258 (Or.inl rfl) h_27 ?_
  rw [rv_3 hR (v := (latestOf M f)) ⟨by omega, by omega⟩]
  have g_30 := vfo_rg hW (latestOf M f)
  refine e_istore (ls2 := [_, _, _, _, _, _, _]) dX10_mayAcknowledge_33 (Nat.le_of_ble_eq_true rfl) rfl ?_
  refine e_iload dX10_mayAcknowledge_35 rfl ?_
  refine e_iconst dX10_mayAcknowledge_37 ?_
  refine e_icmp_eq (tgt := 51) dX10_mayAcknowledge_38 (by decide) ⟨by omega, by omega⟩ ⟨by omega, by omega⟩ (fun c_38 => ?_) (fun c_38 => ?_)
  · refine e_iconst dX10_mayAcknowledge_51 ?_
    refine e_goto (tgt := 56) dX10_mayAcknowledge_52 (by decide) ?_
    refine e_istore (ls2 := [_, _, _, _, _, _, _]) dX10_mayAcknowledge_56 (Nat.le_of_ble_eq_true rfl) rfl ?_
    refine e_iload_n dX10_mayAcknowledge_58 rfl ?_
    refine e_iconst dX10_mayAcknowledge_59 ?_
    refine e_icmp_eq (tgt := 78) dX10_mayAcknowledge_60 (by decide) ⟨by omega, by omega⟩ ⟨by omega, by omega⟩ (fun c_60 => ?_) (fun c_60 => ?_)
    · refine e_iconst dX10_mayAcknowledge_78 ?_
      refine e_goto (tgt := 83) dX10_mayAcknowledge_79 (by decide) ?_
      refine e_istore (ls2 := [_, _, _, _, _, _, _]) dX10_mayAcknowledge_83 (Nat.le_of_ble_eq_true rfl) rfl ?_
      refine e_iload dX10_mayAcknowledge_85 rfl ?_
      refine e_if_eq (tgt := 108) dX10_mayAcknowledge_87 (by decide) ⟨by decide, by decide⟩ (fun c_87 => ?_) (fun c_87 => ?_)
      · exact absurd c_87 (by decide)
      · refine e_iload dX10_mayAcknowledge_90 rfl ?_
        refine e_if_eq (tgt := 108) dX10_mayAcknowledge_92 (by decide) ⟨by decide, by decide⟩ (fun c_92 => ?_) (fun c_92 => ?_)
        · exact absurd c_92 (by decide)
        · refine e_aload_n dX10_mayAcknowledge_95 rfl ?_
          refine e_iload_n dX10_mayAcknowledge_96 rfl ?_
          refine e_iload_n dX10_mayAcknowledge_97 rfl ?_
          refine e_cV (as := [_, _]) (ci := 10) dX10_mayAcknowledge_98 k_X10_isLockedByOther l_X10_214 i_X10_isLockedByOther v_X10_isLockedByOther hT rfl (by decide) ⟨_, _, rfl⟩ rfl rfl rfl rfl (Nat.le_of_ble_eq_true rfl) ⟨by decide, by decide⟩ (Nat.le_of_ble_eq_true rfl) (by decide) (c_10_isLockedByOther hT hR hI hW hm hf) ?_
          refine e_if_ne (tgt := 108) dX10_mayAcknowledge_101 (by decide) bi_iI (fun c_101 => ?_) (fun c_101 => ?_)
          · simp only [bi_z, Classical.not_not] at c_101
            refine e_iconst dX10_mayAcknowledge_108 ?_
            refine e_iret dX10_mayAcknowledge_109 (Or.inr ⟨rfl, by omega⟩) ?_
            refine e_ok ?_ rfl rfl
            first
            | (rw [bi_t (emp.mpr ⟨by first | exact Or.inl c_38 | exact Or.inr c_48, by first | exact Or.inl c_60 | exact Or.inr c_75 | (rw [c_66]; first | exact Or.inl c_38 | exact Or.inr c_48), c_101⟩)])
            | (rw [bi_f (fun g => (emp.mp g).1.elim c_38 c_48)])
            | (rw [bi_f (fun g => (emp.mp g).2.1.elim c_60 c_75)])
            | (rw [bi_f (fun g => (emp.mp g).2.2 c_101)])
          · simp only [bi_z, Classical.not_not] at c_101
            refine e_iconst dX10_mayAcknowledge_104 ?_
            refine e_goto (tgt := 109) dX10_mayAcknowledge_105 (by decide) ?_
            refine e_iret dX10_mayAcknowledge_109 (Or.inr ⟨rfl, by omega⟩) ?_
            refine e_ok ?_ rfl rfl
            first
            | (rw [bi_t (emp.mpr ⟨by first | exact Or.inl c_38 | exact Or.inr c_48, by first | exact Or.inl c_60 | exact Or.inr c_75 | (rw [c_66]; first | exact Or.inl c_38 | exact Or.inr c_48), c_101⟩)])
            | (rw [bi_f (fun g => (emp.mp g).1.elim c_38 c_48)])
            | (rw [bi_f (fun g => (emp.mp g).2.1.elim c_60 c_75)])
            | (rw [bi_f (fun g => (emp.mp g).2.2 c_101)])
    · refine e_iload_n dX10_mayAcknowledge_63 rfl ?_
      refine e_iload dX10_mayAcknowledge_64 rfl ?_
      refine e_icmp_eq (tgt := 78) dX10_mayAcknowledge_66 (by decide) ⟨by omega, by omega⟩ ⟨by omega, by omega⟩ (fun c_66 => ?_) (fun c_66 => ?_)
      · refine e_iconst dX10_mayAcknowledge_78 ?_
        refine e_goto (tgt := 83) dX10_mayAcknowledge_79 (by decide) ?_
        refine e_istore (ls2 := [_, _, _, _, _, _, _]) dX10_mayAcknowledge_83 (Nat.le_of_ble_eq_true rfl) rfl ?_
        refine e_iload dX10_mayAcknowledge_85 rfl ?_
        refine e_if_eq (tgt := 108) dX10_mayAcknowledge_87 (by decide) ⟨by decide, by decide⟩ (fun c_87 => ?_) (fun c_87 => ?_)
        · exact absurd c_87 (by decide)
        · refine e_iload dX10_mayAcknowledge_90 rfl ?_
          refine e_if_eq (tgt := 108) dX10_mayAcknowledge_92 (by decide) ⟨by decide, by decide⟩ (fun c_92 => ?_) (fun c_92 => ?_)
          · exact absurd c_92 (by decide)
          · refine e_aload_n dX10_mayAcknowledge_95 rfl ?_
            refine e_iload_n dX10_mayAcknowledge_96 rfl ?_
            refine e_iload_n dX10_mayAcknowledge_97 rfl ?_
            refine e_cV (as := [_, _]) (ci := 10) dX10_mayAcknowledge_98 k_X10_isLockedByOther l_X10_214 i_X10_isLockedByOther v_X10_isLockedByOther hT rfl (by decide) ⟨_, _, rfl⟩ rfl rfl rfl rfl (Nat.le_of_ble_eq_true rfl) ⟨by decide, by decide⟩ (Nat.le_of_ble_eq_true rfl) (by decide) (c_10_isLockedByOther hT hR hI hW hm hf) ?_
            refine e_if_ne (tgt := 108) dX10_mayAcknowledge_101 (by decide) bi_iI (fun c_101 => ?_) (fun c_101 => ?_)
            · simp only [bi_z, Classical.not_not] at c_101
              refine e_iconst dX10_mayAcknowledge_108 ?_
              refine e_iret dX10_mayAcknowledge_109 (Or.inr ⟨rfl, by omega⟩) ?_
              refine e_ok ?_ rfl rfl
              first
              | (rw [bi_t (emp.mpr ⟨by first | exact Or.inl c_38 | exact Or.inr c_48, by first | exact Or.inl c_60 | exact Or.inr c_75 | (rw [c_66]; first | exact Or.inl c_38 | exact Or.inr c_48), c_101⟩)])
              | (rw [bi_f (fun g => (emp.mp g).1.elim c_38 c_48)])
              | (rw [bi_f (fun g => (emp.mp g).2.1.elim c_60 c_75)])
              | (rw [bi_f (fun g => (emp.mp g).2.2 c_101)])
            · simp only [bi_z, Classical.not_not] at c_101
              refine e_iconst dX10_mayAcknowledge_104 ?_
              refine e_goto (tgt := 109) dX10_mayAcknowledge_105 (by decide) ?_
              refine e_iret dX10_mayAcknowledge_109 (Or.inr ⟨rfl, by omega⟩) ?_
              refine e_ok ?_ rfl rfl
              first
              | (rw [bi_t (emp.mpr ⟨by first | exact Or.inl c_38 | exact Or.inr c_48, by first | exact Or.inl c_60 | exact Or.inr c_75 | (rw [c_66]; first | exact Or.inl c_38 | exact Or.inr c_48), c_101⟩)])
              | (rw [bi_f (fun g => (emp.mp g).1.elim c_38 c_48)])
              | (rw [bi_f (fun g => (emp.mp g).2.1.elim c_60 c_75)])
              | (rw [bi_f (fun g => (emp.mp g).2.2 c_101)])
      · refine e_aload_n dX10_mayAcknowledge_69 rfl ?_
        refine e_iload_n dX10_mayAcknowledge_70 rfl ?_
        refine e_iload_n dX10_mayAcknowledge_71 rfl ?_
        refine e_cV (as := [_, _]) (ci := 10) dX10_mayAcknowledge_72 k_X10_mayWrite l_X10_355 i_X10_mayWrite v_X10_mayWrite hT rfl (by decide) ⟨_, _, rfl⟩ rfl rfl rfl rfl (Nat.le_of_ble_eq_true rfl) ⟨by decide, by decide⟩ (Nat.le_of_ble_eq_true rfl) (by decide) (c_10_mayWrite hT hR hI hW ⟨by omega, by omega⟩ ⟨by omega, by omega⟩) ?_
        refine e_if_eq (tgt := 82) dX10_mayAcknowledge_75 (by decide) bi_iI (fun c_75 => ?_) (fun c_75 => ?_)
        · simp only [bi_z, Classical.not_not] at c_75
          refine e_iconst dX10_mayAcknowledge_82 ?_
          refine e_istore (ls2 := [_, _, _, _, _, _, _]) dX10_mayAcknowledge_83 (Nat.le_of_ble_eq_true rfl) rfl ?_
          refine e_iload dX10_mayAcknowledge_85 rfl ?_
          refine e_if_eq (tgt := 108) dX10_mayAcknowledge_87 (by decide) ⟨by decide, by decide⟩ (fun c_87 => ?_) (fun c_87 => ?_)
          · exact absurd c_87 (by decide)
          · refine e_iload dX10_mayAcknowledge_90 rfl ?_
            refine e_if_eq (tgt := 108) dX10_mayAcknowledge_92 (by decide) ⟨by decide, by decide⟩ (fun c_92 => ?_) (fun c_92 => ?_)
            · refine e_iconst dX10_mayAcknowledge_108 ?_
              refine e_iret dX10_mayAcknowledge_109 (Or.inr ⟨rfl, by omega⟩) ?_
              refine e_ok ?_ rfl rfl
              first
              | (rw [bi_t (emp.mpr ⟨by first | exact Or.inl c_38 | exact Or.inr c_48, by first | exact Or.inl c_60 | exact Or.inr c_75 | (rw [c_66]; first | exact Or.inl c_38 | exact Or.inr c_48), c_101⟩)])
              | (rw [bi_f (fun g => (emp.mp g).1.elim c_38 c_48)])
              | (rw [bi_f (fun g => (emp.mp g).2.1.elim c_60 c_75)])
              | (rw [bi_f (fun g => (emp.mp g).2.2 c_101)])
            · exact absurd c_92 (by decide)
        · simp only [bi_z, Classical.not_not] at c_75
          refine e_iconst dX10_mayAcknowledge_78 ?_
          refine e_goto (tgt := 83) dX10_mayAcknowledge_79 (by decide) ?_
          refine e_istore (ls2 := [_, _, _, _, _, _, _]) dX10_mayAcknowledge_83 (Nat.le_of_ble_eq_true rfl) rfl ?_
          refine e_iload dX10_mayAcknowledge_85 rfl ?_
          refine e_if_eq (tgt := 108) dX10_mayAcknowledge_87 (by decide) ⟨by decide, by decide⟩ (fun c_87 => ?_) (fun c_87 => ?_)
          · exact absurd c_87 (by decide)
          · refine e_iload dX10_mayAcknowledge_90 rfl ?_
            refine e_if_eq (tgt := 108) dX10_mayAcknowledge_92 (by decide) ⟨by decide, by decide⟩ (fun c_92 => ?_) (fun c_92 => ?_)
            · exact absurd c_92 (by decide)
            · refine e_aload_n dX10_mayAcknowledge_95 rfl ?_
              refine e_iload_n dX10_mayAcknowledge_96 rfl ?_
              refine e_iload_n dX10_mayAcknowledge_97 rfl ?_
              refine e_cV (as := [_, _]) (ci := 10) dX10_mayAcknowledge_98 k_X10_isLockedByOther l_X10_214 i_X10_isLockedByOther v_X10_isLockedByOther hT rfl (by decide) ⟨_, _, rfl⟩ rfl rfl rfl rfl (Nat.le_of_ble_eq_true rfl) ⟨by decide, by decide⟩ (Nat.le_of_ble_eq_true rfl) (by decide) (c_10_isLockedByOther hT hR hI hW hm hf) ?_
              refine e_if_ne (tgt := 108) dX10_mayAcknowledge_101 (by decide) bi_iI (fun c_101 => ?_) (fun c_101 => ?_)
              · simp only [bi_z, Classical.not_not] at c_101
                refine e_iconst dX10_mayAcknowledge_108 ?_
                refine e_iret dX10_mayAcknowledge_109 (Or.inr ⟨rfl, by omega⟩) ?_
                refine e_ok ?_ rfl rfl
                first
                | (rw [bi_t (emp.mpr ⟨by first | exact Or.inl c_38 | exact Or.inr c_48, by first | exact Or.inl c_60 | exact Or.inr c_75 | (rw [c_66]; first | exact Or.inl c_38 | exact Or.inr c_48), c_101⟩)])
                | (rw [bi_f (fun g => (emp.mp g).1.elim c_38 c_48)])
                | (rw [bi_f (fun g => (emp.mp g).2.1.elim c_60 c_75)])
                | (rw [bi_f (fun g => (emp.mp g).2.2 c_101)])
              · simp only [bi_z, Classical.not_not] at c_101
                refine e_iconst dX10_mayAcknowledge_104 ?_
                refine e_goto (tgt := 109) dX10_mayAcknowledge_105 (by decide) ?_
                refine e_iret dX10_mayAcknowledge_109 (Or.inr ⟨rfl, by omega⟩) ?_
                refine e_ok ?_ rfl rfl
                first
                | (rw [bi_t (emp.mpr ⟨by first | exact Or.inl c_38 | exact Or.inr c_48, by first | exact Or.inl c_60 | exact Or.inr c_75 | (rw [c_66]; first | exact Or.inl c_38 | exact Or.inr c_48), c_101⟩)])
                | (rw [bi_f (fun g => (emp.mp g).1.elim c_38 c_48)])
                | (rw [bi_f (fun g => (emp.mp g).2.1.elim c_60 c_75)])
                | (rw [bi_f (fun g => (emp.mp g).2.2 c_101)])
  · refine e_aload_n dX10_mayAcknowledge_41 rfl ?_
    refine e_iload_n dX10_mayAcknowledge_42 rfl ?_
    refine e_iload dX10_mayAcknowledge_43 rfl ?_
    refine e_cV (as := [_, _]) (ci := 10) dX10_mayAcknowledge_45 k_X10_mayWrite l_X10_355 i_X10_mayWrite v_X10_mayWrite hT rfl (by decide) ⟨_, _, rfl⟩ rfl rfl rfl rfl (Nat.le_of_ble_eq_true rfl) ⟨by decide, by decide⟩ (Nat.le_of_ble_eq_true rfl) (by decide) (c_10_mayWrite hT hR hI hW ⟨by omega, by omega⟩ ⟨by omega, by omega⟩) ?_
    refine e_if_eq (tgt := 55) dX10_mayAcknowledge_48 (by decide) bi_iI (fun c_48 => ?_) (fun c_48 => ?_)
    · simp only [bi_z, Classical.not_not] at c_48
      refine e_iconst dX10_mayAcknowledge_55 ?_
      refine e_istore (ls2 := [_, _, _, _, _, _, _]) dX10_mayAcknowledge_56 (Nat.le_of_ble_eq_true rfl) rfl ?_
      refine e_iload_n dX10_mayAcknowledge_58 rfl ?_
      refine e_iconst dX10_mayAcknowledge_59 ?_
      refine e_icmp_eq (tgt := 78) dX10_mayAcknowledge_60 (by decide) ⟨by omega, by omega⟩ ⟨by omega, by omega⟩ (fun c_60 => ?_) (fun c_60 => ?_)
      · refine e_iconst dX10_mayAcknowledge_78 ?_
        refine e_goto (tgt := 83) dX10_mayAcknowledge_79 (by decide) ?_
        refine e_istore (ls2 := [_, _, _, _, _, _, _]) dX10_mayAcknowledge_83 (Nat.le_of_ble_eq_true rfl) rfl ?_
        refine e_iload dX10_mayAcknowledge_85 rfl ?_
        refine e_if_eq (tgt := 108) dX10_mayAcknowledge_87 (by decide) ⟨by decide, by decide⟩ (fun c_87 => ?_) (fun c_87 => ?_)
        · refine e_iconst dX10_mayAcknowledge_108 ?_
          refine e_iret dX10_mayAcknowledge_109 (Or.inr ⟨rfl, by omega⟩) ?_
          refine e_ok ?_ rfl rfl
          first
          | (rw [bi_t (emp.mpr ⟨by first | exact Or.inl c_38 | exact Or.inr c_48, by first | exact Or.inl c_60 | exact Or.inr c_75 | (rw [c_66]; first | exact Or.inl c_38 | exact Or.inr c_48), c_101⟩)])
          | (rw [bi_f (fun g => (emp.mp g).1.elim c_38 c_48)])
          | (rw [bi_f (fun g => (emp.mp g).2.1.elim c_60 c_75)])
          | (rw [bi_f (fun g => (emp.mp g).2.2 c_101)])
        · exact absurd c_87 (by decide)
      · refine e_iload_n dX10_mayAcknowledge_63 rfl ?_
        refine e_iload dX10_mayAcknowledge_64 rfl ?_
        refine e_icmp_eq (tgt := 78) dX10_mayAcknowledge_66 (by decide) ⟨by omega, by omega⟩ ⟨by omega, by omega⟩ (fun c_66 => ?_) (fun c_66 => ?_)
        · refine e_iconst dX10_mayAcknowledge_78 ?_
          refine e_goto (tgt := 83) dX10_mayAcknowledge_79 (by decide) ?_
          refine e_istore (ls2 := [_, _, _, _, _, _, _]) dX10_mayAcknowledge_83 (Nat.le_of_ble_eq_true rfl) rfl ?_
          refine e_iload dX10_mayAcknowledge_85 rfl ?_
          refine e_if_eq (tgt := 108) dX10_mayAcknowledge_87 (by decide) ⟨by decide, by decide⟩ (fun c_87 => ?_) (fun c_87 => ?_)
          · refine e_iconst dX10_mayAcknowledge_108 ?_
            refine e_iret dX10_mayAcknowledge_109 (Or.inr ⟨rfl, by omega⟩) ?_
            refine e_ok ?_ rfl rfl
            first
            | (rw [bi_t (emp.mpr ⟨by first | exact Or.inl c_38 | exact Or.inr c_48, by first | exact Or.inl c_60 | exact Or.inr c_75 | (rw [c_66]; first | exact Or.inl c_38 | exact Or.inr c_48), c_101⟩)])
            | (rw [bi_f (fun g => (emp.mp g).1.elim c_38 c_48)])
            | (rw [bi_f (fun g => (emp.mp g).2.1.elim c_60 c_75)])
            | (rw [bi_f (fun g => (emp.mp g).2.2 c_101)])
          · exact absurd c_87 (by decide)
        · refine e_aload_n dX10_mayAcknowledge_69 rfl ?_
          refine e_iload_n dX10_mayAcknowledge_70 rfl ?_
          refine e_iload_n dX10_mayAcknowledge_71 rfl ?_
          refine e_cV (as := [_, _]) (ci := 10) dX10_mayAcknowledge_72 k_X10_mayWrite l_X10_355 i_X10_mayWrite v_X10_mayWrite hT rfl (by decide) ⟨_, _, rfl⟩ rfl rfl rfl rfl (Nat.le_of_ble_eq_true rfl) ⟨by decide, by decide⟩ (Nat.le_of_ble_eq_true rfl) (by decide) (c_10_mayWrite hT hR hI hW ⟨by omega, by omega⟩ ⟨by omega, by omega⟩) ?_
          refine e_if_eq (tgt := 82) dX10_mayAcknowledge_75 (by decide) bi_iI (fun c_75 => ?_) (fun c_75 => ?_)
          · simp only [bi_z, Classical.not_not] at c_75
            refine e_iconst dX10_mayAcknowledge_82 ?_
            refine e_istore (ls2 := [_, _, _, _, _, _, _]) dX10_mayAcknowledge_83 (Nat.le_of_ble_eq_true rfl) rfl ?_
            refine e_iload dX10_mayAcknowledge_85 rfl ?_
            refine e_if_eq (tgt := 108) dX10_mayAcknowledge_87 (by decide) ⟨by decide, by decide⟩ (fun c_87 => ?_) (fun c_87 => ?_)
            · refine e_iconst dX10_mayAcknowledge_108 ?_
              refine e_iret dX10_mayAcknowledge_109 (Or.inr ⟨rfl, by omega⟩) ?_
              refine e_ok ?_ rfl rfl
              first
              | (rw [bi_t (emp.mpr ⟨by first | exact Or.inl c_38 | exact Or.inr c_48, by first | exact Or.inl c_60 | exact Or.inr c_75 | (rw [c_66]; first | exact Or.inl c_38 | exact Or.inr c_48), c_101⟩)])
              | (rw [bi_f (fun g => (emp.mp g).1.elim c_38 c_48)])
              | (rw [bi_f (fun g => (emp.mp g).2.1.elim c_60 c_75)])
              | (rw [bi_f (fun g => (emp.mp g).2.2 c_101)])
            · exact absurd c_87 (by decide)
          · simp only [bi_z, Classical.not_not] at c_75
            refine e_iconst dX10_mayAcknowledge_78 ?_
            refine e_goto (tgt := 83) dX10_mayAcknowledge_79 (by decide) ?_
            refine e_istore (ls2 := [_, _, _, _, _, _, _]) dX10_mayAcknowledge_83 (Nat.le_of_ble_eq_true rfl) rfl ?_
            refine e_iload dX10_mayAcknowledge_85 rfl ?_
            refine e_if_eq (tgt := 108) dX10_mayAcknowledge_87 (by decide) ⟨by decide, by decide⟩ (fun c_87 => ?_) (fun c_87 => ?_)
            · refine e_iconst dX10_mayAcknowledge_108 ?_
              refine e_iret dX10_mayAcknowledge_109 (Or.inr ⟨rfl, by omega⟩) ?_
              refine e_ok ?_ rfl rfl
              first
              | (rw [bi_t (emp.mpr ⟨by first | exact Or.inl c_38 | exact Or.inr c_48, by first | exact Or.inl c_60 | exact Or.inr c_75 | (rw [c_66]; first | exact Or.inl c_38 | exact Or.inr c_48), c_101⟩)])
              | (rw [bi_f (fun g => (emp.mp g).1.elim c_38 c_48)])
              | (rw [bi_f (fun g => (emp.mp g).2.1.elim c_60 c_75)])
              | (rw [bi_f (fun g => (emp.mp g).2.2 c_101)])
            · exact absurd c_87 (by decide)
    · simp only [bi_z, Classical.not_not] at c_48
      refine e_iconst dX10_mayAcknowledge_51 ?_
      refine e_goto (tgt := 56) dX10_mayAcknowledge_52 (by decide) ?_
      refine e_istore (ls2 := [_, _, _, _, _, _, _]) dX10_mayAcknowledge_56 (Nat.le_of_ble_eq_true rfl) rfl ?_
      refine e_iload_n dX10_mayAcknowledge_58 rfl ?_
      refine e_iconst dX10_mayAcknowledge_59 ?_
      refine e_icmp_eq (tgt := 78) dX10_mayAcknowledge_60 (by decide) ⟨by omega, by omega⟩ ⟨by omega, by omega⟩ (fun c_60 => ?_) (fun c_60 => ?_)
      · refine e_iconst dX10_mayAcknowledge_78 ?_
        refine e_goto (tgt := 83) dX10_mayAcknowledge_79 (by decide) ?_
        refine e_istore (ls2 := [_, _, _, _, _, _, _]) dX10_mayAcknowledge_83 (Nat.le_of_ble_eq_true rfl) rfl ?_
        refine e_iload dX10_mayAcknowledge_85 rfl ?_
        refine e_if_eq (tgt := 108) dX10_mayAcknowledge_87 (by decide) ⟨by decide, by decide⟩ (fun c_87 => ?_) (fun c_87 => ?_)
        · exact absurd c_87 (by decide)
        · refine e_iload dX10_mayAcknowledge_90 rfl ?_
          refine e_if_eq (tgt := 108) dX10_mayAcknowledge_92 (by decide) ⟨by decide, by decide⟩ (fun c_92 => ?_) (fun c_92 => ?_)
          · exact absurd c_92 (by decide)
          · refine e_aload_n dX10_mayAcknowledge_95 rfl ?_
            refine e_iload_n dX10_mayAcknowledge_96 rfl ?_
            refine e_iload_n dX10_mayAcknowledge_97 rfl ?_
            refine e_cV (as := [_, _]) (ci := 10) dX10_mayAcknowledge_98 k_X10_isLockedByOther l_X10_214 i_X10_isLockedByOther v_X10_isLockedByOther hT rfl (by decide) ⟨_, _, rfl⟩ rfl rfl rfl rfl (Nat.le_of_ble_eq_true rfl) ⟨by decide, by decide⟩ (Nat.le_of_ble_eq_true rfl) (by decide) (c_10_isLockedByOther hT hR hI hW hm hf) ?_
            refine e_if_ne (tgt := 108) dX10_mayAcknowledge_101 (by decide) bi_iI (fun c_101 => ?_) (fun c_101 => ?_)
            · simp only [bi_z, Classical.not_not] at c_101
              refine e_iconst dX10_mayAcknowledge_108 ?_
              refine e_iret dX10_mayAcknowledge_109 (Or.inr ⟨rfl, by omega⟩) ?_
              refine e_ok ?_ rfl rfl
              first
              | (rw [bi_t (emp.mpr ⟨by first | exact Or.inl c_38 | exact Or.inr c_48, by first | exact Or.inl c_60 | exact Or.inr c_75 | (rw [c_66]; first | exact Or.inl c_38 | exact Or.inr c_48), c_101⟩)])
              | (rw [bi_f (fun g => (emp.mp g).1.elim c_38 c_48)])
              | (rw [bi_f (fun g => (emp.mp g).2.1.elim c_60 c_75)])
              | (rw [bi_f (fun g => (emp.mp g).2.2 c_101)])
            · simp only [bi_z, Classical.not_not] at c_101
              refine e_iconst dX10_mayAcknowledge_104 ?_
              refine e_goto (tgt := 109) dX10_mayAcknowledge_105 (by decide) ?_
              refine e_iret dX10_mayAcknowledge_109 (Or.inr ⟨rfl, by omega⟩) ?_
              refine e_ok ?_ rfl rfl
              first
              | (rw [bi_t (emp.mpr ⟨by first | exact Or.inl c_38 | exact Or.inr c_48, by first | exact Or.inl c_60 | exact Or.inr c_75 | (rw [c_66]; first | exact Or.inl c_38 | exact Or.inr c_48), c_101⟩)])
              | (rw [bi_f (fun g => (emp.mp g).1.elim c_38 c_48)])
              | (rw [bi_f (fun g => (emp.mp g).2.1.elim c_60 c_75)])
              | (rw [bi_f (fun g => (emp.mp g).2.2 c_101)])
      · refine e_iload_n dX10_mayAcknowledge_63 rfl ?_
        refine e_iload dX10_mayAcknowledge_64 rfl ?_
        refine e_icmp_eq (tgt := 78) dX10_mayAcknowledge_66 (by decide) ⟨by omega, by omega⟩ ⟨by omega, by omega⟩ (fun c_66 => ?_) (fun c_66 => ?_)
        · refine e_iconst dX10_mayAcknowledge_78 ?_
          refine e_goto (tgt := 83) dX10_mayAcknowledge_79 (by decide) ?_
          refine e_istore (ls2 := [_, _, _, _, _, _, _]) dX10_mayAcknowledge_83 (Nat.le_of_ble_eq_true rfl) rfl ?_
          refine e_iload dX10_mayAcknowledge_85 rfl ?_
          refine e_if_eq (tgt := 108) dX10_mayAcknowledge_87 (by decide) ⟨by decide, by decide⟩ (fun c_87 => ?_) (fun c_87 => ?_)
          · exact absurd c_87 (by decide)
          · refine e_iload dX10_mayAcknowledge_90 rfl ?_
            refine e_if_eq (tgt := 108) dX10_mayAcknowledge_92 (by decide) ⟨by decide, by decide⟩ (fun c_92 => ?_) (fun c_92 => ?_)
            · exact absurd c_92 (by decide)
            · refine e_aload_n dX10_mayAcknowledge_95 rfl ?_
              refine e_iload_n dX10_mayAcknowledge_96 rfl ?_
              refine e_iload_n dX10_mayAcknowledge_97 rfl ?_
              refine e_cV (as := [_, _]) (ci := 10) dX10_mayAcknowledge_98 k_X10_isLockedByOther l_X10_214 i_X10_isLockedByOther v_X10_isLockedByOther hT rfl (by decide) ⟨_, _, rfl⟩ rfl rfl rfl rfl (Nat.le_of_ble_eq_true rfl) ⟨by decide, by decide⟩ (Nat.le_of_ble_eq_true rfl) (by decide) (c_10_isLockedByOther hT hR hI hW hm hf) ?_
              refine e_if_ne (tgt := 108) dX10_mayAcknowledge_101 (by decide) bi_iI (fun c_101 => ?_) (fun c_101 => ?_)
              · simp only [bi_z, Classical.not_not] at c_101
                refine e_iconst dX10_mayAcknowledge_108 ?_
                refine e_iret dX10_mayAcknowledge_109 (Or.inr ⟨rfl, by omega⟩) ?_
                refine e_ok ?_ rfl rfl
                first
                | (rw [bi_t (emp.mpr ⟨by first | exact Or.inl c_38 | exact Or.inr c_48, by first | exact Or.inl c_60 | exact Or.inr c_75 | (rw [c_66]; first | exact Or.inl c_38 | exact Or.inr c_48), c_101⟩)])
                | (rw [bi_f (fun g => (emp.mp g).1.elim c_38 c_48)])
                | (rw [bi_f (fun g => (emp.mp g).2.1.elim c_60 c_75)])
                | (rw [bi_f (fun g => (emp.mp g).2.2 c_101)])
              · simp only [bi_z, Classical.not_not] at c_101
                refine e_iconst dX10_mayAcknowledge_104 ?_
                refine e_goto (tgt := 109) dX10_mayAcknowledge_105 (by decide) ?_
                refine e_iret dX10_mayAcknowledge_109 (Or.inr ⟨rfl, by omega⟩) ?_
                refine e_ok ?_ rfl rfl
                first
                | (rw [bi_t (emp.mpr ⟨by first | exact Or.inl c_38 | exact Or.inr c_48, by first | exact Or.inl c_60 | exact Or.inr c_75 | (rw [c_66]; first | exact Or.inl c_38 | exact Or.inr c_48), c_101⟩)])
                | (rw [bi_f (fun g => (emp.mp g).1.elim c_38 c_48)])
                | (rw [bi_f (fun g => (emp.mp g).2.1.elim c_60 c_75)])
                | (rw [bi_f (fun g => (emp.mp g).2.2 c_101)])
        · refine e_aload_n dX10_mayAcknowledge_69 rfl ?_
          refine e_iload_n dX10_mayAcknowledge_70 rfl ?_
          refine e_iload_n dX10_mayAcknowledge_71 rfl ?_
          refine e_cV (as := [_, _]) (ci := 10) dX10_mayAcknowledge_72 k_X10_mayWrite l_X10_355 i_X10_mayWrite v_X10_mayWrite hT rfl (by decide) ⟨_, _, rfl⟩ rfl rfl rfl rfl (Nat.le_of_ble_eq_true rfl) ⟨by decide, by decide⟩ (Nat.le_of_ble_eq_true rfl) (by decide) (c_10_mayWrite hT hR hI hW ⟨by omega, by omega⟩ ⟨by omega, by omega⟩) ?_
          refine e_if_eq (tgt := 82) dX10_mayAcknowledge_75 (by decide) bi_iI (fun c_75 => ?_) (fun c_75 => ?_)
          · simp only [bi_z, Classical.not_not] at c_75
            refine e_iconst dX10_mayAcknowledge_82 ?_
            refine e_istore (ls2 := [_, _, _, _, _, _, _]) dX10_mayAcknowledge_83 (Nat.le_of_ble_eq_true rfl) rfl ?_
            refine e_iload dX10_mayAcknowledge_85 rfl ?_
            refine e_if_eq (tgt := 108) dX10_mayAcknowledge_87 (by decide) ⟨by decide, by decide⟩ (fun c_87 => ?_) (fun c_87 => ?_)
            · exact absurd c_87 (by decide)
            · refine e_iload dX10_mayAcknowledge_90 rfl ?_
              refine e_if_eq (tgt := 108) dX10_mayAcknowledge_92 (by decide) ⟨by decide, by decide⟩ (fun c_92 => ?_) (fun c_92 => ?_)
              · refine e_iconst dX10_mayAcknowledge_108 ?_
                refine e_iret dX10_mayAcknowledge_109 (Or.inr ⟨rfl, by omega⟩) ?_
                refine e_ok ?_ rfl rfl
                first
                | (rw [bi_t (emp.mpr ⟨by first | exact Or.inl c_38 | exact Or.inr c_48, by first | exact Or.inl c_60 | exact Or.inr c_75 | (rw [c_66]; first | exact Or.inl c_38 | exact Or.inr c_48), c_101⟩)])
                | (rw [bi_f (fun g => (emp.mp g).1.elim c_38 c_48)])
                | (rw [bi_f (fun g => (emp.mp g).2.1.elim c_60 c_75)])
                | (rw [bi_f (fun g => (emp.mp g).2.2 c_101)])
              · exact absurd c_92 (by decide)
          · simp only [bi_z, Classical.not_not] at c_75
            refine e_iconst dX10_mayAcknowledge_78 ?_
            refine e_goto (tgt := 83) dX10_mayAcknowledge_79 (by decide) ?_
            refine e_istore (ls2 := [_, _, _, _, _, _, _]) dX10_mayAcknowledge_83 (Nat.le_of_ble_eq_true rfl) rfl ?_
            refine e_iload dX10_mayAcknowledge_85 rfl ?_
            refine e_if_eq (tgt := 108) dX10_mayAcknowledge_87 (by decide) ⟨by decide, by decide⟩ (fun c_87 => ?_) (fun c_87 => ?_)
            · exact absurd c_87 (by decide)
            · refine e_iload dX10_mayAcknowledge_90 rfl ?_
              refine e_if_eq (tgt := 108) dX10_mayAcknowledge_92 (by decide) ⟨by decide, by decide⟩ (fun c_92 => ?_) (fun c_92 => ?_)
              · exact absurd c_92 (by decide)
              · refine e_aload_n dX10_mayAcknowledge_95 rfl ?_
                refine e_iload_n dX10_mayAcknowledge_96 rfl ?_
                refine e_iload_n dX10_mayAcknowledge_97 rfl ?_
                refine e_cV (as := [_, _]) (ci := 10) dX10_mayAcknowledge_98 k_X10_isLockedByOther l_X10_214 i_X10_isLockedByOther v_X10_isLockedByOther hT rfl (by decide) ⟨_, _, rfl⟩ rfl rfl rfl rfl (Nat.le_of_ble_eq_true rfl) ⟨by decide, by decide⟩ (Nat.le_of_ble_eq_true rfl) (by decide) (c_10_isLockedByOther hT hR hI hW hm hf) ?_
                refine e_if_ne (tgt := 108) dX10_mayAcknowledge_101 (by decide) bi_iI (fun c_101 => ?_) (fun c_101 => ?_)
                · simp only [bi_z, Classical.not_not] at c_101
                  refine e_iconst dX10_mayAcknowledge_108 ?_
                  refine e_iret dX10_mayAcknowledge_109 (Or.inr ⟨rfl, by omega⟩) ?_
                  refine e_ok ?_ rfl rfl
                  first
                  | (rw [bi_t (emp.mpr ⟨by first | exact Or.inl c_38 | exact Or.inr c_48, by first | exact Or.inl c_60 | exact Or.inr c_75 | (rw [c_66]; first | exact Or.inl c_38 | exact Or.inr c_48), c_101⟩)])
                  | (rw [bi_f (fun g => (emp.mp g).1.elim c_38 c_48)])
                  | (rw [bi_f (fun g => (emp.mp g).2.1.elim c_60 c_75)])
                  | (rw [bi_f (fun g => (emp.mp g).2.2 c_101)])
                · simp only [bi_z, Classical.not_not] at c_101
                  refine e_iconst dX10_mayAcknowledge_104 ?_
                  refine e_goto (tgt := 109) dX10_mayAcknowledge_105 (by decide) ?_
                  refine e_iret dX10_mayAcknowledge_109 (Or.inr ⟨rfl, by omega⟩) ?_
                  refine e_ok ?_ rfl rfl
                  first
                  | (rw [bi_t (emp.mpr ⟨by first | exact Or.inl c_38 | exact Or.inr c_48, by first | exact Or.inl c_60 | exact Or.inr c_75 | (rw [c_66]; first | exact Or.inl c_38 | exact Or.inr c_48), c_101⟩)])
                  | (rw [bi_f (fun g => (emp.mp g).1.elim c_38 c_48)])
                  | (rw [bi_f (fun g => (emp.mp g).2.1.elim c_60 c_75)])
                  | (rw [bi_f (fun g => (emp.mp g).2.2 c_101)])
set_option maxRecDepth 20000 in
set_option maxHeartbeats 4000000 in
theorem c_10_mayFollow {K : q_K} {B M C : q_S} {a : Nat} (hT : K a = (11, 0, 100)) {y : Nat} {p : Int} (hy : K y = (2, 0, 200 + p)) (hp : 0 ≤ p ∧ p < 48) {z : Nat} {v : Int} (hz : K z = (10, 0, vtag v)) (hv : -1 ≤ v ∧ v < M 50 16) (hR : RC M C) (hI : MI M) (hW : WR M) {m : Int} (hm : p / 16 = m) : q_E mX10_mayFollow 0 [some (q_R a), some (q_I m), some (q_R y), some (q_R z), none] [] K B C 0 0 (e_is (some (q_I (bi (mayReadP M p v)))) K B C) := by
  have h16 := rs_16 hW
  have hm2 : 0 ≤ m ∧ m ≤ 2 := by omega
  have hv1 := vfo_rg hW v
  have hv2 := cfo_rg hW p
  have hin := vfo_isIn hW v
  have g4 : 0 ≤ M 4 p := (hW 4 _).1
  have g20 : 0 ≤ M 20 v := (hW 20 _).1
  have emr : mrdF M p v = if vfo M v = -1 then cfo M p else vfo M v := by
    unfold mrdF
    by_cases h : isInP M v
    · rw [if_pos h, if_neg (fun g => hin.mp g h), vfo_in h]
    · rw [if_neg h, if_pos (hin.mpr h)]
      unfold cfo
      by_cases h2 : M 2 p = 0
      · rw [if_neg (fun g => g h2), if_pos h2]
      · rw [if_pos h2, if_neg h2]
  refine e_aload_n dX10_mayFollow_0 rfl ?_
  refine e_cV (as := []) (ci := 9) dX10_mayFollow_1 k_X9_isDeletion l_X10_358 i_X9_isDeletion v_X9_isDeletion hz rfl (by decide) ⟨_, _, rfl⟩ rfl rfl rfl rfl (Nat.le_of_ble_eq_true rfl) ⟨by decide, by decide⟩ (Nat.le_of_ble_eq_true rfl) (by decide) (c_9_isDeletion hz hv hR hI hW) ?_
  refine e_if_eq (tgt := 14) dX10_mayFollow_4 (by decide) bi_iI (fun c_4 => ?_) (fun c_4 => ?_)
  · simp only [bi_z, Classical.not_not] at c_4
    refine e_aload_n dX10_mayFollow_14 rfl ?_
    refine c_getI (by have := vtag_rg (v := v) (by omega); omega) dX10_mayFollow_15 f_X10_258 (Or.inl rfl) hz ?_
    rw [rv_3 hR (v := v) ⟨by omega, by omega⟩]
    have g_15 := vfo_rg hW v
    refine e_istore (ls2 := [_, _, _, _, _]) dX10_mayFollow_18 (Nat.le_of_ble_eq_true rfl) rfl ?_
    refine e_iload dX10_mayFollow_20 rfl ?_
    refine e_iconst dX10_mayFollow_22 ?_
    refine e_icmp_eq (tgt := 44) dX10_mayFollow_23 (by decide) ⟨by omega, by omega⟩ ⟨by omega, by omega⟩ (fun c_23 => ?_) (fun c_23 => ?_)
    · refine e_iconst dX10_mayFollow_44 ?_
      refine e_goto (tgt := 49) dX10_mayFollow_45 (by decide) ?_
      refine e_iret dX10_mayFollow_49 (Or.inr ⟨rfl, by omega⟩) ?_
      refine e_ok ?_ rfl rfl
      show _ = some (q_I (bi (mrdF M p v = -1 ∨ 1 ≤ rightF M (mrdF M p v) (p / 16))))
      rw [hm, emr]
      first | rw [if_pos c_4] | rw [if_neg c_4]
      unfold bi
      split <;> first | rfl | (exfalso; omega)
    · refine e_aload_n dX10_mayFollow_26 rfl ?_
      refine c_getR (kt := (8, 0, 107)) (by decide) (Or.inl (by decide)) dX10_mayFollow_27 f_X10_43 hT rfl (Nat.succ_ne_zero _) (fun q_27 h_27 => ?_)
      refine e_iload dX10_mayFollow_30 rfl ?_
      refine e_iload_n dX10_mayFollow_32 rfl ?_
      refine e_aload_n dX10_mayFollow_33 rfl ?_
      refine c_getI (by decide) dX10_mayFollow_34 f_X10_58 (Or.inl rfl) hT ?_
      rw [rs_now hR]
      have g_34 := rs_1 hW
      refine e_cV (as := [_, _, _]) (ci := 7) dX10_mayFollow_37 k_X7_rightAt l_X10_307 i_X7_rightAt v_X7_rightAt h_27 rfl (by decide) ⟨_, _, rfl⟩ rfl rfl rfl rfl (Nat.le_of_ble_eq_true rfl) ⟨by decide, by decide⟩ (Nat.le_of_ble_eq_true rfl) (by decide) (c_7_rightAt h_27 hR hI hW ⟨by omega, by omega⟩ hm2) ?_
      have grr := rightF_rg hW (vfo M v) m
      have grs := rightF_rg hW (cfo M p) m
      refine e_iconst dX10_mayFollow_40 ?_
      refine e_icmp_lt (tgt := 48) dX10_mayFollow_41 (by decide) ⟨by omega, by omega⟩ ⟨by omega, by omega⟩ (fun c_41 => ?_) (fun c_41 => ?_)
      · refine e_iconst dX10_mayFollow_48 ?_
        refine e_iret dX10_mayFollow_49 (Or.inr ⟨rfl, by omega⟩) ?_
        refine e_ok ?_ rfl rfl
        show _ = some (q_I (bi (mrdF M p v = -1 ∨ 1 ≤ rightF M (mrdF M p v) (p / 16))))
        rw [hm, emr]
        first | rw [if_pos c_4] | rw [if_neg c_4]
        unfold bi
        split <;> first | rfl | (exfalso; omega)
      · refine e_iconst dX10_mayFollow_44 ?_
        refine e_goto (tgt := 49) dX10_mayFollow_45 (by decide) ?_
        refine e_iret dX10_mayFollow_49 (Or.inr ⟨rfl, by omega⟩) ?_
        refine e_ok ?_ rfl rfl
        show _ = some (q_I (bi (mrdF M p v = -1 ∨ 1 ≤ rightF M (mrdF M p v) (p / 16))))
        rw [hm, emr]
        first | rw [if_pos c_4] | rw [if_neg c_4]
        unfold bi
        split <;> first | rfl | (exfalso; omega)
  · simp only [bi_z, Classical.not_not] at c_4
    refine e_aload_n dX10_mayFollow_7 rfl ?_
    refine c_getI (by omega) dX10_mayFollow_8 f_X10_114 (Or.inl rfl) hy ?_
    rw [rp_1 hR (p := p) ⟨by omega, by omega⟩]
    have g_8 := cfo_rg hW p
    refine e_goto (tgt := 18) dX10_mayFollow_11 (by decide) ?_
    refine e_istore (ls2 := [_, _, _, _, _]) dX10_mayFollow_18 (Nat.le_of_ble_eq_true rfl) rfl ?_
    refine e_iload dX10_mayFollow_20 rfl ?_
    refine e_iconst dX10_mayFollow_22 ?_
    refine e_icmp_eq (tgt := 44) dX10_mayFollow_23 (by decide) ⟨by omega, by omega⟩ ⟨by omega, by omega⟩ (fun c_23 => ?_) (fun c_23 => ?_)
    · refine e_iconst dX10_mayFollow_44 ?_
      refine e_goto (tgt := 49) dX10_mayFollow_45 (by decide) ?_
      refine e_iret dX10_mayFollow_49 (Or.inr ⟨rfl, by omega⟩) ?_
      refine e_ok ?_ rfl rfl
      show _ = some (q_I (bi (mrdF M p v = -1 ∨ 1 ≤ rightF M (mrdF M p v) (p / 16))))
      rw [hm, emr]
      first | rw [if_pos c_4] | rw [if_neg c_4]
      unfold bi
      split <;> first | rfl | (exfalso; omega)
    · refine e_aload_n dX10_mayFollow_26 rfl ?_
      refine c_getR (kt := (8, 0, 107)) (by decide) (Or.inl (by decide)) dX10_mayFollow_27 f_X10_43 hT rfl (Nat.succ_ne_zero _) (fun q_27 h_27 => ?_)
      refine e_iload dX10_mayFollow_30 rfl ?_
      refine e_iload_n dX10_mayFollow_32 rfl ?_
      refine e_aload_n dX10_mayFollow_33 rfl ?_
      refine c_getI (by decide) dX10_mayFollow_34 f_X10_58 (Or.inl rfl) hT ?_
      rw [rs_now hR]
      have g_34 := rs_1 hW
      refine e_cV (as := [_, _, _]) (ci := 7) dX10_mayFollow_37 k_X7_rightAt l_X10_307 i_X7_rightAt v_X7_rightAt h_27 rfl (by decide) ⟨_, _, rfl⟩ rfl rfl rfl rfl (Nat.le_of_ble_eq_true rfl) ⟨by decide, by decide⟩ (Nat.le_of_ble_eq_true rfl) (by decide) (c_7_rightAt h_27 hR hI hW ⟨by omega, by omega⟩ hm2) ?_
      have grr := rightF_rg hW (vfo M v) m
      have grs := rightF_rg hW (cfo M p) m
      refine e_iconst dX10_mayFollow_40 ?_
      refine e_icmp_lt (tgt := 48) dX10_mayFollow_41 (by decide) ⟨by omega, by omega⟩ ⟨by omega, by omega⟩ (fun c_41 => ?_) (fun c_41 => ?_)
      · refine e_iconst dX10_mayFollow_48 ?_
        refine e_iret dX10_mayFollow_49 (Or.inr ⟨rfl, by omega⟩) ?_
        refine e_ok ?_ rfl rfl
        show _ = some (q_I (bi (mrdF M p v = -1 ∨ 1 ≤ rightF M (mrdF M p v) (p / 16))))
        rw [hm, emr]
        first | rw [if_pos c_4] | rw [if_neg c_4]
        unfold bi
        split <;> first | rfl | (exfalso; omega)
      · refine e_iconst dX10_mayFollow_44 ?_
        refine e_goto (tgt := 49) dX10_mayFollow_45 (by decide) ?_
        refine e_iret dX10_mayFollow_49 (Or.inr ⟨rfl, by omega⟩) ?_
        refine e_ok ?_ rfl rfl
        show _ = some (q_I (bi (mrdF M p v = -1 ∨ 1 ≤ rightF M (mrdF M p v) (p / 16))))
        rw [hm, emr]
        first | rw [if_pos c_4] | rw [if_neg c_4]
        unfold bi
        split <;> first | rfl | (exfalso; omega)
set_option maxRecDepth 20000 in
set_option maxHeartbeats 4000000 in
theorem c_10_canPutAway {K : q_K} {B M C : q_S} {a : Nat} (hT : K a = (11, 0, 100)) {x : Nat} {p : Int} (hx : K x = (2, 0, 200 + p)) (hp : 0 ≤ p ∧ p < 48) (hR : RC M C) (hI : MI M) (hW : WR M) : q_E mX10_canPutAway 0 [some (q_R a), some (q_R x)] [] K B C 0 0 (e_is (some (q_I (bi (canGoP M p)))) K B C) := by
  refine e_aload_n dX10_canPutAway_0 rfl ?_
  refine c_getI (by omega) dX10_canPutAway_1 f_X10_109 (Or.inl rfl) hx ?_
  rw [rp_0 hR (p := p) ⟨by omega, by omega⟩]
  have g_1 : 0 ≤ M 2 p ∧ M 2 p ≤ 2 := hW 2 p
  refine e_iconst dX10_canPutAway_4 ?_
  refine e_icmp_ne (tgt := 27) dX10_canPutAway_5 (by decide) ⟨by omega, by omega⟩ ⟨by omega, by omega⟩ (fun c_5 => ?_) (fun c_5 => ?_)
  · refine e_iconst dX10_canPutAway_27 ?_
    refine e_iret dX10_canPutAway_28 (Or.inr ⟨rfl, by omega⟩) ?_
    refine e_ok ?_ rfl rfl
    first
    | rw [bi_t (show canGoP M p from ⟨c_5, fun g => g c_20, c_12⟩)]
    | rw [bi_f (show ¬ canGoP M p from fun g => c_5 g.1)]
    | rw [bi_f (show ¬ canGoP M p from fun g => c_12 g.2.2)]
    | rw [bi_f (show ¬ canGoP M p from fun g => g.2.1 c_20)]
  · refine e_aload_n dX10_canPutAway_8 rfl ?_
    refine c_getI (by omega) dX10_canPutAway_9 f_X10_152 (Or.inr rfl) hx ?_
    rw [rp_4 hR (p := p) ⟨by omega, by omega⟩]
    have g_9 : 0 ≤ M 6 p ∧ M 6 p ≤ 1 := hW 6 p
    refine e_if_ne (tgt := 27) dX10_canPutAway_12 (by decide) ⟨by omega, by omega⟩ (fun c_12 => ?_) (fun c_12 => ?_)
    · refine e_iconst dX10_canPutAway_27 ?_
      refine e_iret dX10_canPutAway_28 (Or.inr ⟨rfl, by omega⟩) ?_
      refine e_ok ?_ rfl rfl
      first
      | rw [bi_t (show canGoP M p from ⟨c_5, fun g => g c_20, c_12⟩)]
      | rw [bi_f (show ¬ canGoP M p from fun g => c_5 g.1)]
      | rw [bi_f (show ¬ canGoP M p from fun g => c_12 g.2.2)]
      | rw [bi_f (show ¬ canGoP M p from fun g => g.2.1 c_20)]
    · refine e_aload_n dX10_canPutAway_15 rfl ?_
      refine e_aload_n dX10_canPutAway_16 rfl ?_
      refine e_cV (as := [_]) (ci := 10) dX10_canPutAway_17 k_X10_isEdited l_X10_141 i_X10_isEdited v_X10_isEdited hT rfl (by decide) ⟨_, _, rfl⟩ rfl rfl rfl rfl (Nat.le_of_ble_eq_true rfl) ⟨by decide, by decide⟩ (Nat.le_of_ble_eq_true rfl) (by decide) (c_10_isEdited hT hx hp hR hI hW) ?_
      refine e_if_ne (tgt := 27) dX10_canPutAway_20 (by decide) bi_iI (fun c_20 => ?_) (fun c_20 => ?_)
      · simp only [bi_z, Classical.not_not] at c_20
        refine e_iconst dX10_canPutAway_27 ?_
        refine e_iret dX10_canPutAway_28 (Or.inr ⟨rfl, by omega⟩) ?_
        refine e_ok ?_ rfl rfl
        first
        | rw [bi_t (show canGoP M p from ⟨c_5, fun g => g c_20, c_12⟩)]
        | rw [bi_f (show ¬ canGoP M p from fun g => c_5 g.1)]
        | rw [bi_f (show ¬ canGoP M p from fun g => c_12 g.2.2)]
        | rw [bi_f (show ¬ canGoP M p from fun g => g.2.1 c_20)]
      · simp only [bi_z, Classical.not_not] at c_20
        refine e_iconst dX10_canPutAway_23 ?_
        refine e_goto (tgt := 28) dX10_canPutAway_24 (by decide) ?_
        refine e_iret dX10_canPutAway_28 (Or.inr ⟨rfl, by omega⟩) ?_
        refine e_ok ?_ rfl rfl
        first
        | rw [bi_t (show canGoP M p from ⟨c_5, fun g => g c_20, c_12⟩)]
        | rw [bi_f (show ¬ canGoP M p from fun g => c_5 g.1)]
        | rw [bi_f (show ¬ canGoP M p from fun g => c_12 g.2.2)]
        | rw [bi_f (show ¬ canGoP M p from fun g => g.2.1 c_20)]
set_option maxRecDepth 20000 in
set_option maxHeartbeats 4000000 in
theorem c_6_takenRoom_l {K : q_K} {B M C : q_S} {x : Nat} {m : Int} (hx : K x = (7, 0, 110 + m)) (hm : 0 ≤ m ∧ m ≤ 2) (hR : RC M C) (hI : MI M) (hW : WR M) : ∀ (r k : Nat) (s i : Int), (k + r = 16) → (s = takF M m k) → (i = k) → q_E mX6_takenRoom 4 [some (q_R x), some (q_I s), some (q_I i)] [] K B C 0 0 (e_is (some (q_I (takF M m 16))) K B C) := by
  intro r
  induction r with
  | zero =>
    intro k s i h1 h2 h3
    refine e_iload_n dX6_takenRoom_4 rfl ?_
    refine e_bipush dX6_takenRoom_5 (by decide) ?_
    refine e_icmp_ge (tgt := 48) dX6_takenRoom_7 (by decide) ⟨by omega, by omega⟩ ⟨by omega, by omega⟩ (fun c_7 => ?_) (fun c_7 => ?_)
    · refine e_iload_n dX6_takenRoom_48 rfl ?_
      exact e_iret dX6_takenRoom_49 (Or.inl rfl) (e_ok (by rw [h2, show 16 = k by omega]) rfl rfl)
    · exfalso; omega
  | succ r ih =>
    intro k s i h1 h2 h3
    have gt := takF_rg M m k
    refine e_iload_n dX6_takenRoom_4 rfl ?_
    refine e_bipush dX6_takenRoom_5 (by decide) ?_
    refine e_icmp_ge (tgt := 48) dX6_takenRoom_7 (by decide) ⟨by omega, by omega⟩ ⟨by omega, by omega⟩ (fun c_7 => ?_) (fun c_7 => ?_)
    · exfalso; omega
    · refine e_iload_n dX6_takenRoom_10 rfl ?_
      refine e_aload_n dX6_takenRoom_11 rfl ?_
      refine c_getR (kt := (31, 16, (140 + m))) (by omega) (Or.inl (by omega)) dX6_takenRoom_12 f_X6_11 hx (kl_c ⟨by omega, by omega⟩) (Nat.succ_ne_zero _) (fun q_12 h_12 => ?_)
      refine e_iload_n dX6_takenRoom_15 rfl ?_
      refine c_aald (ci := 1) (kt := (2, 0, (200 + (16 * m + i)))) (by omega) (Or.inl (by omega)) dX6_takenRoom_16 h_12 (by decide) (by omega) (by omega) (kl_p ⟨by omega, by omega⟩ ⟨by omega, by omega⟩) (Nat.succ_ne_zero _) (fun q_16 h_16 => ?_)
      refine c_getI (by omega) dX6_takenRoom_17 f_X6_40 (Or.inl rfl) h_16 ?_
      rw [rp_0 hR (p := (16 * m + i)) ⟨by omega, by omega⟩]
      have g_17 : 0 ≤ M 2 (16 * m + i) ∧ M 2 (16 * m + i) ≤ 2 := hW 2 (16 * m + i)
      refine e_iconst dX6_takenRoom_20 ?_
      refine e_icmp_ne (tgt := 39) dX6_takenRoom_21 (by decide) ⟨by omega, by omega⟩ ⟨by omega, by omega⟩ (fun c_21 => ?_) (fun c_21 => ?_)
      · refine e_iconst dX6_takenRoom_39 ?_
        refine e_iadd dX6_takenRoom_40 ?_
        refine e_istore_n (ls2 := [_, _, _]) dX6_takenRoom_41 (Nat.le_of_ble_eq_true rfl) rfl ?_
        refine e_iinc (ls2 := [_, _, _]) dX6_takenRoom_42 rfl (Nat.le_of_ble_eq_true rfl) rfl ?_
        refine e_goto (tgt := 4) dX6_takenRoom_45 (by decide) ?_
        exact ih (k + 1) _ _ (by omega) (by simp only [takF, ← h2, ← h3]; first | rw [if_pos c_21] | rw [if_neg c_21]) (by omega)
      · refine e_aload_n dX6_takenRoom_24 rfl ?_
        refine c_getR (kt := (31, 16, (140 + m))) (by omega) (Or.inl (by omega)) dX6_takenRoom_25 f_X6_11 hx (kl_c ⟨by omega, by omega⟩) (Nat.succ_ne_zero _) (fun q_25 h_25 => ?_)
        refine e_iload_n dX6_takenRoom_28 rfl ?_
        refine c_aald (ci := 1) (kt := (2, 0, (200 + (16 * m + i)))) (by omega) (Or.inl (by omega)) dX6_takenRoom_29 h_25 (by decide) (by omega) (by omega) (kl_p ⟨by omega, by omega⟩ ⟨by omega, by omega⟩) (Nat.succ_ne_zero _) (fun q_29 h_29 => ?_)
        have hv_30 : vcode (M 3 (16 * m + i)) := mi_3 hI ⟨by omega, by omega⟩
        have hg_30 := hv_30.1
        refine c_getR (kt := (1, 0, (1000000 + 3 * M 3 (16 * m + i)))) (by omega) (Or.inl (by omega)) dX6_takenRoom_30 f_X6_43 h_29 (kl_pc ⟨by omega, by omega⟩ (by omega) (rp_2 hR ⟨by omega, by omega⟩)) (Nat.succ_ne_zero _) (fun q_30 h_30 => ?_)
        refine c_getI (by omega) dX6_takenRoom_33 f_X6_47 (Or.inl rfl) h_30 ?_
        rw [cc_0 (rc_C hR) (c := M 3 (16 * m + i)) (by assumption)]
        have g_33 := mlen_nn (M 3 (16 * m + i))
        refine e_goto (tgt := 40) dX6_takenRoom_36 (by decide) ?_
        refine e_iadd dX6_takenRoom_40 ?_
        refine e_istore_n (ls2 := [_, _, _]) dX6_takenRoom_41 (Nat.le_of_ble_eq_true rfl) rfl ?_
        refine e_iinc (ls2 := [_, _, _]) dX6_takenRoom_42 rfl (Nat.le_of_ble_eq_true rfl) rfl ?_
        refine e_goto (tgt := 4) dX6_takenRoom_45 (by decide) ?_
        exact ih (k + 1) _ _ (by omega) (by simp only [takF, ← h2, ← h3]; first | rw [if_pos c_21] | rw [if_neg c_21]) (by omega)
set_option maxRecDepth 20000 in
set_option maxHeartbeats 4000000 in
theorem c_6_takenRoom {K : q_K} {B M C : q_S} {x : Nat} {m : Int} (hx : K x = (7, 0, 110 + m)) (hm : 0 ≤ m ∧ m ≤ 2) (hR : RC M C) (hI : MI M) (hW : WR M) : q_E mX6_takenRoom 0 [some (q_R x), none, none] [] K B C 0 0 (e_is (some (q_I (takF M m 16))) K B C) := by
  refine e_iconst dX6_takenRoom_0 ?_
  refine e_istore_n (ls2 := [_, _, _]) dX6_takenRoom_1 (Nat.le_of_ble_eq_true rfl) rfl ?_
  refine e_iconst dX6_takenRoom_2 ?_
  refine e_istore_n (ls2 := [_, _, _]) dX6_takenRoom_3 (Nat.le_of_ble_eq_true rfl) rfl ?_
  exact c_6_takenRoom_l hx hm hR hI hW 16 0 0 0 (by omega) rfl rfl
set_option maxRecDepth 20000 in
set_option maxHeartbeats 4000000 in
theorem c_10_isAtNoMachine_l {K : q_K} {B M C : q_S} {a : Nat} (hT : K a = (11, 0, 100)) (hR : RC M C) (hI : MI M) (hW : WR M) {f : Int} (hf : 0 ≤ f ∧ f ≤ 15) : ∀ (r k : Nat) (i : Int), (k + r = 3) → (frM M f 1 k = 1) → (i = k) → q_E mX10_isAtNoMachine 2 [some (q_R a), some (q_I f), some (q_I i)] [] K B C 0 0 (e_is (some (q_I (frM M f 1 3))) K B C) := by
  intro r
  induction r with
  | zero =>
    intro k i h1 h2 h3
    refine e_iload_n dX10_isAtNoMachine_2 rfl ?_
    refine e_iconst dX10_isAtNoMachine_3 ?_
    refine e_icmp_ge (tgt := 32) dX10_isAtNoMachine_4 (by decide) ⟨by omega, by omega⟩ ⟨by omega, by omega⟩ (fun c_4 => ?_) (fun c_4 => ?_)
    · refine e_iconst dX10_isAtNoMachine_32 ?_
      exact e_iret dX10_isAtNoMachine_33 (Or.inr ⟨rfl, by omega⟩) (e_ok (by rw [show 3 = k by omega, h2]) rfl rfl)
    · exfalso; omega
  | succ r ih =>
    intro k i h1 h2 h3
    refine e_iload_n dX10_isAtNoMachine_2 rfl ?_
    refine e_iconst dX10_isAtNoMachine_3 ?_
    refine e_icmp_ge (tgt := 32) dX10_isAtNoMachine_4 (by decide) ⟨by omega, by omega⟩ ⟨by omega, by omega⟩ (fun c_4 => ?_) (fun c_4 => ?_)
    · exfalso; omega
    · refine e_aload_n dX10_isAtNoMachine_7 rfl ?_
      refine c_getR (kt := (36, 3, 102)) (by decide) (Or.inl (by decide)) dX10_isAtNoMachine_8 f_X10_15 hT rfl (Nat.succ_ne_zero _) (fun q_8 h_8 => ?_)
      refine e_iload_n dX10_isAtNoMachine_11 rfl ?_
      refine c_aald (ci := 6) (kt := (7, 0, (110 + i))) (by decide) (Or.inl (by decide)) dX10_isAtNoMachine_12 h_8 (by decide) (by omega) (by omega) (kl_m ⟨by omega, by omega⟩) (Nat.succ_ne_zero _) (fun q_12 h_12 => ?_)
      refine c_getR (kt := (31, 16, (140 + i))) (by omega) (Or.inl (by omega)) dX10_isAtNoMachine_13 f_X10_105 h_12 (kl_c ⟨by omega, by omega⟩) (Nat.succ_ne_zero _) (fun q_13 h_13 => ?_)
      refine e_iload_n dX10_isAtNoMachine_16 rfl ?_
      refine c_aald (ci := 1) (kt := (2, 0, (200 + (16 * i + f)))) (by omega) (Or.inl (by omega)) dX10_isAtNoMachine_17 h_13 (by decide) (by omega) (by omega) (kl_p ⟨by omega, by omega⟩ ⟨by omega, by omega⟩) (Nat.succ_ne_zero _) (fun q_17 h_17 => ?_)
      refine c_getI (by omega) dX10_isAtNoMachine_18 f_X10_109 (Or.inl rfl) h_17 ?_
      rw [rp_0 hR (p := (16 * i + f)) ⟨by omega, by omega⟩]
      have g_18 : 0 ≤ M 2 (16 * i + f) ∧ M 2 (16 * i + f) ≤ 2 := hW 2 (16 * i + f)
      refine e_if_eq (tgt := 26) dX10_isAtNoMachine_21 (by decide) ⟨by omega, by omega⟩ (fun c_21 => ?_) (fun c_21 => ?_)
      · refine e_iinc (ls2 := [_, _, _]) dX10_isAtNoMachine_26 rfl (Nat.le_of_ble_eq_true rfl) rfl ?_
        refine e_goto (tgt := 2) dX10_isAtNoMachine_29 (by decide) ?_
        exact ih (k + 1) _ (by omega) (by simp only [frM, ← h3]; rw [if_pos ⟨by omega, c_21⟩]) (by omega)
      · refine e_iconst dX10_isAtNoMachine_24 ?_
        refine e_iret dX10_isAtNoMachine_25 (Or.inr ⟨rfl, by omega⟩) ?_
        have := frM_stop (M := M) (f := f) (b := 1) (k := k + 1) (by simp only [frM, ← h3]; rw [if_neg (fun g => c_21 g.2)]) (3 - (k + 1))
        rw [show k + 1 + (3 - (k + 1)) = 3 by omega] at this
        exact e_ok (by rw [this]) rfl rfl
set_option maxRecDepth 20000 in
set_option maxHeartbeats 4000000 in
theorem c_10_isAtNoMachine {K : q_K} {B M C : q_S} {a : Nat} (hT : K a = (11, 0, 100)) (hR : RC M C) (hI : MI M) (hW : WR M) {f : Int} (hf : 0 ≤ f ∧ f ≤ 15) : q_E mX10_isAtNoMachine 0 [some (q_R a), some (q_I f), none] [] K B C 0 0 (e_is (some (q_I (frM M f 1 3))) K B C) := by
  refine e_iconst dX10_isAtNoMachine_0 ?_
  refine e_istore_n (ls2 := [_, _, _]) dX10_isAtNoMachine_1 (Nat.le_of_ble_eq_true rfl) rfl ?_
  exact c_10_isAtNoMachine_l hT hR hI hW hf 3 0 0 (by omega) rfl rfl
set_option maxRecDepth 20000 in
set_option maxHeartbeats 4000000 in
theorem c_10_spareFile_l {K : q_K} {B M C : q_S} {a : Nat} (hT : K a = (11, 0, 100)) (hR : RC M C) (hI : MI M) (hW : WR M) : ∀ (r k : Nat) (f : Int), (k + r = 16) → (f = k) → (freeF M = frF M r f) → q_E mX10_spareFile 2 [some (q_R a), some (q_I f)] [] K B C 0 0 (e_is (some (q_I (freeF M))) K B C) := by
  intro r
  induction r with
  | zero =>
    intro k f h1 h3 h5
    refine e_iload_n dX10_spareFile_2 rfl ?_
    refine e_bipush dX10_spareFile_3 (by decide) ?_
    refine e_icmp_ge (tgt := 36) dX10_spareFile_5 (by decide) ⟨by omega, by omega⟩ ⟨by omega, by omega⟩ (fun c_5 => ?_) (fun c_5 => ?_)
    · refine e_iconst dX10_spareFile_36 ?_
      exact e_iret dX10_spareFile_37 (Or.inl rfl) (e_ok (by rw [h5]; rfl) rfl rfl)
    · exfalso; omega
  | succ r ih =>
    intro k f h1 h3 h5
    refine e_iload_n dX10_spareFile_2 rfl ?_
    refine e_bipush dX10_spareFile_3 (by decide) ?_
    refine e_icmp_ge (tgt := 36) dX10_spareFile_5 (by decide) ⟨by omega, by omega⟩ ⟨by omega, by omega⟩ (fun c_5 => ?_) (fun c_5 => ?_)
    · exfalso; omega
    · refine e_aload_n dX10_spareFile_8 rfl ?_
      refine c_getR (kt := (6, 0, 104)) (by decide) (Or.inl (by decide)) dX10_spareFile_9 f_X10_83 hT rfl (Nat.succ_ne_zero _) (fun q_9 h_9 => ?_)
      refine e_iload_n dX10_spareFile_12 rfl ?_
      refine e_cV (as := [_]) (ci := 5) dX10_spareFile_13 k_X5_latestOf l_X10_183 i_X5_latestOf v_X5_latestOf h_9 rfl (by decide) ⟨_, _, rfl⟩ rfl rfl rfl rfl (Nat.le_of_ble_eq_true rfl) ⟨by decide, by decide⟩ (Nat.le_of_ble_eq_true rfl) (by decide) (c_5_latestOf h_9 hR hI hW ⟨by omega, by omega⟩) ?_
      have g_13 := latestOf_rg hW f
      have glt := latestOf_rg hW f
      have g16 := rs_16 hW
      refine e_iconst dX10_spareFile_16 ?_
      refine e_icmp_ne (tgt := 30) dX10_spareFile_17 (by decide) ⟨by omega, by omega⟩ ⟨by omega, by omega⟩ (fun c_17 => ?_) (fun c_17 => ?_)
      · refine e_iinc (ls2 := [_, _]) dX10_spareFile_30 rfl (Nat.le_of_ble_eq_true rfl) rfl ?_
        refine e_goto (tgt := 2) dX10_spareFile_33 (by decide) ?_
        exact ih (k + 1) _ (by omega) (by omega) (by rw [h5, frF, if_neg (fun g => by have g2 := (frI_eq hW f).mp g; first | exact c_17 g2.1 | exact g2.2 c_25)])
      · refine e_aload_n dX10_spareFile_20 rfl ?_
        refine e_iload_n dX10_spareFile_21 rfl ?_
        refine e_cV (as := [_]) (ci := 10) dX10_spareFile_22 k_X10_isAtNoMachine l_X10_382 i_X10_isAtNoMachine v_X10_isAtNoMachine hT rfl (by decide) ⟨_, _, rfl⟩ rfl rfl rfl rfl (Nat.le_of_ble_eq_true rfl) ⟨by decide, by decide⟩ (Nat.le_of_ble_eq_true rfl) (by decide) (c_10_isAtNoMachine hT hR hI hW ⟨by omega, by omega⟩) ?_
        have gfr := frM_01 M f (Or.inr rfl : (1 : Int) = 0 ∨ (1 : Int) = 1) 3
        refine e_if_eq (tgt := 30) dX10_spareFile_25 (by decide) ⟨by omega, by omega⟩ (fun c_25 => ?_) (fun c_25 => ?_)
        · refine e_iinc (ls2 := [_, _]) dX10_spareFile_30 rfl (Nat.le_of_ble_eq_true rfl) rfl ?_
          refine e_goto (tgt := 2) dX10_spareFile_33 (by decide) ?_
          exact ih (k + 1) _ (by omega) (by omega) (by rw [h5, frF, if_neg (fun g => by have g2 := (frI_eq hW f).mp g; first | exact c_17 g2.1 | exact g2.2 c_25)])
        · refine e_iload_n dX10_spareFile_28 rfl ?_
          exact e_iret dX10_spareFile_29 (Or.inl rfl) (e_ok (by rw [h5, frF, if_pos ((frI_eq hW f).mpr ⟨c_17, c_25⟩)]) rfl rfl)
set_option maxRecDepth 20000 in
set_option maxHeartbeats 4000000 in
theorem c_10_spareFile {K : q_K} {B M C : q_S} {a : Nat} (hT : K a = (11, 0, 100)) (hR : RC M C) (hI : MI M) (hW : WR M) : q_E mX10_spareFile 0 [some (q_R a), none] [] K B C 0 0 (e_is (some (q_I (freeF M))) K B C) := by
  refine e_iconst dX10_spareFile_0 ?_
  refine e_istore_n (ls2 := [_, _]) dX10_spareFile_1 (Nat.le_of_ble_eq_true rfl) rfl ?_
  exact c_10_spareFile_l hT hR hI hW 16 0 0 (by omega) rfl rfl
set_option maxRecDepth 20000 in
set_option maxHeartbeats 4000000 in
theorem c_10_openedLA_l {K : q_K} {B M C : q_S} {a : Nat} (hT : K a = (11, 0, 100)) {x : Nat} {m : Int} (hx : K x = (7, 0, 110 + m)) (hm : 0 ≤ m ∧ m ≤ 2) (hR : RC M C) (hI : MI M) (hW : WR M) : ∀ (r k : Nat) (g z i : Int), (k + r = 16) → (goF M m k = if g = -1 then -1 else 16 * m + g) → (i = k) → (-1 ≤ g ∧ g < k) → (¬ g = -1 → z = M 7 (16 * m + g)) → (0 ≤ z ∧ z ≤ 1000) → q_E mX10_openedLongestAgo 7 [some (q_R a), some (q_R x), some (q_I g), some (q_I z), some (q_I i), none] [] K B C 0 0 (e_is (some (q_I (if goF M m 16 = -1 then -1 else goF M m 16 - 16 * m))) K B C) := by
  intro r
  induction r with
  | zero =>
    intro k g z i h1 h2 h3 h4 h5 h6
    refine e_iload dX10_openedLongestAgo_7 rfl ?_
    refine e_bipush dX10_openedLongestAgo_9 (by decide) ?_
    refine e_icmp_ge (tgt := 61) dX10_openedLongestAgo_11 (by decide) ⟨by omega, by omega⟩ ⟨by omega, by omega⟩ (fun c_11 => ?_) (fun c_11 => ?_)
    · refine e_iload_n dX10_openedLongestAgo_61 rfl ?_
      exact e_iret dX10_openedLongestAgo_62 (Or.inl rfl) (e_ok (by rw [show 16 = k by omega, h2]; by_cases e : g = -1; (rw [if_pos e, if_pos rfl, e]); (rw [if_neg e, if_neg (by omega)]; congr 2; omega)) rfl rfl)
    · exfalso; omega
  | succ r ih =>
    intro k g z i h1 h2 h3 h4 h5 h6
    refine e_iload dX10_openedLongestAgo_7 rfl ?_
    refine e_bipush dX10_openedLongestAgo_9 (by decide) ?_
    refine e_icmp_ge (tgt := 61) dX10_openedLongestAgo_11 (by decide) ⟨by omega, by omega⟩ ⟨by omega, by omega⟩ (fun c_11 => ?_) (fun c_11 => ?_)
    · exfalso; omega
    · refine e_aload_n dX10_openedLongestAgo_14 rfl ?_
      refine c_getR (kt := (31, 16, (140 + m))) (by omega) (Or.inl (by omega)) dX10_openedLongestAgo_15 f_X10_105 hx (kl_c ⟨by omega, by omega⟩) (Nat.succ_ne_zero _) (fun q_15 h_15 => ?_)
      refine e_iload dX10_openedLongestAgo_18 rfl ?_
      refine c_aald (ci := 1) (kt := (2, 0, (200 + (16 * m + i)))) (by omega) (Or.inl (by omega)) dX10_openedLongestAgo_20 h_15 (by decide) (by omega) (by omega) (kl_p ⟨by omega, by omega⟩ ⟨by omega, by omega⟩) (Nat.succ_ne_zero _) (fun q_20 h_20 => ?_)
      refine e_astore (ls2 := [_, _, _, _, _, _]) dX10_openedLongestAgo_21 (Nat.le_of_ble_eq_true rfl) rfl ?_
      refine e_aload_n dX10_openedLongestAgo_23 rfl ?_
      refine e_aload dX10_openedLongestAgo_24 rfl ?_
      refine e_cV (as := [_]) (ci := 10) dX10_openedLongestAgo_26 k_X10_canPutAway l_X10_348 i_X10_canPutAway v_X10_canPutAway hT rfl (by decide) ⟨_, _, rfl⟩ rfl rfl rfl rfl (Nat.le_of_ble_eq_true rfl) ⟨by decide, by decide⟩ (Nat.le_of_ble_eq_true rfl) (by decide) (c_10_canPutAway hT h_20 ⟨by omega, by omega⟩ hR hI hW) ?_
      refine e_if_eq (tgt := 55) dX10_openedLongestAgo_29 (by decide) bi_iI (fun c_29 => ?_) (fun c_29 => ?_)
      · simp only [bi_z, Classical.not_not] at c_29
        refine e_iinc (ls2 := [_, _, _, _, _, _]) dX10_openedLongestAgo_55 rfl (Nat.le_of_ble_eq_true rfl) rfl ?_
        refine e_goto (tgt := 7) dX10_openedLongestAgo_58 (by decide) ?_
        refine e_drop (k := 5) (ls2 := [_, _, _, _, _, _]) rfl ?_
        exact ih (k + 1) _ _ _ (by omega) (by simp only [goF, ← h3, h2]; first | (rw [if_neg (fun h => c_29 h.1)]) | (rw [if_pos ⟨c_29, by first | (exact Or.inl (by rw [if_pos c_34])) | (exact Or.inr (by rw [if_neg c_34]; have := h5 c_34; omega))⟩, if_neg (by omega)]) | (rw [if_neg (fun h => by have h9 := h.2; rw [if_neg c_34] at h9; have := h5 c_34; omega)])) (by omega) (by omega) (by first | exact h5 | (intro _; rfl)) (by omega)
      · simp only [bi_z, Classical.not_not] at c_29
        refine e_iload_n dX10_openedLongestAgo_32 rfl ?_
        refine e_iconst dX10_openedLongestAgo_33 ?_
        refine e_icmp_eq (tgt := 46) dX10_openedLongestAgo_34 (by decide) ⟨by omega, by omega⟩ ⟨by omega, by omega⟩ (fun c_34 => ?_) (fun c_34 => ?_)
        · refine e_iload dX10_openedLongestAgo_46 rfl ?_
          refine e_istore_n (ls2 := [_, _, _, _, _, _]) dX10_openedLongestAgo_48 (Nat.le_of_ble_eq_true rfl) rfl ?_
          refine e_aload dX10_openedLongestAgo_49 rfl ?_
          refine c_getI (by omega) dX10_openedLongestAgo_51 f_X10_211 (Or.inl rfl) h_20 ?_
          rw [rp_5 hR (p := (16 * m + i)) ⟨by omega, by omega⟩]
          have g_51 : 0 ≤ M 7 (16 * m + i) ∧ M 7 (16 * m + i) ≤ 1000 := hW 7 (16 * m + i)
          refine e_istore_n (ls2 := [_, _, _, _, _, _]) dX10_openedLongestAgo_54 (Nat.le_of_ble_eq_true rfl) rfl ?_
          refine e_iinc (ls2 := [_, _, _, _, _, _]) dX10_openedLongestAgo_55 rfl (Nat.le_of_ble_eq_true rfl) rfl ?_
          refine e_goto (tgt := 7) dX10_openedLongestAgo_58 (by decide) ?_
          refine e_drop (k := 5) (ls2 := [_, _, _, _, _, _]) rfl ?_
          exact ih (k + 1) _ _ _ (by omega) (by simp only [goF, ← h3, h2]; first | (rw [if_neg (fun h => c_29 h.1)]) | (rw [if_pos ⟨c_29, by first | (exact Or.inl (by rw [if_pos c_34])) | (exact Or.inr (by rw [if_neg c_34]; have := h5 c_34; omega))⟩, if_neg (by omega)]) | (rw [if_neg (fun h => by have h9 := h.2; rw [if_neg c_34] at h9; have := h5 c_34; omega)])) (by omega) (by omega) (by first | exact h5 | (intro _; rfl)) (by omega)
        · refine e_aload dX10_openedLongestAgo_37 rfl ?_
          refine c_getI (by omega) dX10_openedLongestAgo_39 f_X10_211 (Or.inl rfl) h_20 ?_
          rw [rp_5 hR (p := (16 * m + i)) ⟨by omega, by omega⟩]
          have g_39 : 0 ≤ M 7 (16 * m + i) ∧ M 7 (16 * m + i) ≤ 1000 := hW 7 (16 * m + i)
          refine e_iload_n dX10_openedLongestAgo_42 rfl ?_
          refine e_icmp_ge (tgt := 55) dX10_openedLongestAgo_43 (by decide) ⟨by omega, by omega⟩ ⟨by omega, by omega⟩ (fun c_43 => ?_) (fun c_43 => ?_)
          · refine e_iinc (ls2 := [_, _, _, _, _, _]) dX10_openedLongestAgo_55 rfl (Nat.le_of_ble_eq_true rfl) rfl ?_
            refine e_goto (tgt := 7) dX10_openedLongestAgo_58 (by decide) ?_
            refine e_drop (k := 5) (ls2 := [_, _, _, _, _, _]) rfl ?_
            exact ih (k + 1) _ _ _ (by omega) (by simp only [goF, ← h3, h2]; first | (rw [if_neg (fun h => c_29 h.1)]) | (rw [if_pos ⟨c_29, by first | (exact Or.inl (by rw [if_pos c_34])) | (exact Or.inr (by rw [if_neg c_34]; have := h5 c_34; omega))⟩, if_neg (by omega)]) | (rw [if_neg (fun h => by have h9 := h.2; rw [if_neg c_34] at h9; have := h5 c_34; omega)])) (by omega) (by omega) (by first | exact h5 | (intro _; rfl)) (by omega)
          · refine e_iload dX10_openedLongestAgo_46 rfl ?_
            refine e_istore_n (ls2 := [_, _, _, _, _, _]) dX10_openedLongestAgo_48 (Nat.le_of_ble_eq_true rfl) rfl ?_
            refine e_aload dX10_openedLongestAgo_49 rfl ?_
            refine c_getI (by omega) dX10_openedLongestAgo_51 f_X10_211 (Or.inl rfl) h_20 ?_
            rw [rp_5 hR (p := (16 * m + i)) ⟨by omega, by omega⟩]
            have g_51 : 0 ≤ M 7 (16 * m + i) ∧ M 7 (16 * m + i) ≤ 1000 := hW 7 (16 * m + i)
            refine e_istore_n (ls2 := [_, _, _, _, _, _]) dX10_openedLongestAgo_54 (Nat.le_of_ble_eq_true rfl) rfl ?_
            refine e_iinc (ls2 := [_, _, _, _, _, _]) dX10_openedLongestAgo_55 rfl (Nat.le_of_ble_eq_true rfl) rfl ?_
            refine e_goto (tgt := 7) dX10_openedLongestAgo_58 (by decide) ?_
            refine e_drop (k := 5) (ls2 := [_, _, _, _, _, _]) rfl ?_
            exact ih (k + 1) _ _ _ (by omega) (by simp only [goF, ← h3, h2]; first | (rw [if_neg (fun h => c_29 h.1)]) | (rw [if_pos ⟨c_29, by first | (exact Or.inl (by rw [if_pos c_34])) | (exact Or.inr (by rw [if_neg c_34]; have := h5 c_34; omega))⟩, if_neg (by omega)]) | (rw [if_neg (fun h => by have h9 := h.2; rw [if_neg c_34] at h9; have := h5 c_34; omega)])) (by omega) (by omega) (by first | exact h5 | (intro _; rfl)) (by omega)
set_option maxRecDepth 20000 in
set_option maxHeartbeats 4000000 in
theorem c_10_openedLongestAgo {K : q_K} {B M C : q_S} {a : Nat} (hT : K a = (11, 0, 100)) {x : Nat} {m : Int} (hx : K x = (7, 0, 110 + m)) (hm : 0 ≤ m ∧ m ≤ 2) (hR : RC M C) (hI : MI M) (hW : WR M) : q_E mX10_openedLongestAgo 0 [some (q_R a), some (q_R x), none, none, none, none] [] K B C 0 0 (e_is (some (q_I (if goF M m 16 = -1 then -1 else goF M m 16 - 16 * m))) K B C) := by
  refine e_iconst dX10_openedLongestAgo_0 ?_
  refine e_istore_n (ls2 := [_, _, _, _, _, _]) dX10_openedLongestAgo_1 (Nat.le_of_ble_eq_true rfl) rfl ?_
  refine e_iconst dX10_openedLongestAgo_2 ?_
  refine e_istore_n (ls2 := [_, _, _, _, _, _]) dX10_openedLongestAgo_3 (Nat.le_of_ble_eq_true rfl) rfl ?_
  refine e_iconst dX10_openedLongestAgo_4 ?_
  refine e_istore (ls2 := [_, _, _, _, _, _]) dX10_openedLongestAgo_5 (Nat.le_of_ble_eq_true rfl) rfl ?_
  exact c_10_openedLA_l hT hx hm hR hI hW 16 0 (-1) 0 0 (by omega) (by rw [if_pos rfl]; rfl) rfl ⟨by decide, by decide⟩ (fun h => absurd rfl h) ⟨by decide, by decide⟩
set_option maxRecDepth 20000 in
set_option maxHeartbeats 4000000 in
theorem c_10_canHaveRoom_l {K : q_K} {B M C : q_S} {a : Nat} (hT : K a = (11, 0, 100)) {x : Nat} {m : Int} (hx : K x = (7, 0, 110 + m)) (hm : 0 ≤ m ∧ m ≤ 2) (hR : RC M C) (hI : MI M) (hW : WR M) {n : Int} (hn : 0 ≤ n ∧ n ≤ 100) : ∀ (r k : Nat) (z i : Int), (k + r = 16) → (z = takF M m 16 + n - cgL M m k) → (i = k) → q_E mX10_canHaveRoom 10 [some (q_R a), some (q_R x), some (q_I n), some (q_I z), some (q_I i), none] [] K B C 0 0 (e_is (some (q_I (bi (¬ M 12 m - takF M m 16 + cgL M m 16 < n)))) K B C) := by
  intro r
  induction r with
  | zero =>
    intro k z i h1 h2 h3
    have gt := takF_rg M m 16
    have gc := cgL_rg M m k
    refine e_iload dX10_canHaveRoom_10 rfl ?_
    refine e_bipush dX10_canHaveRoom_12 (by decide) ?_
    refine e_icmp_ge (tgt := 56) dX10_canHaveRoom_14 (by decide) ⟨by omega, by omega⟩ ⟨by omega, by omega⟩ (fun c_14 => ?_) (fun c_14 => ?_)
    · refine e_iload_n dX10_canHaveRoom_56 rfl ?_
      refine e_aload_n dX10_canHaveRoom_57 rfl ?_
      refine c_getI (by omega) dX10_canHaveRoom_58 f_X10_149 (Or.inl rfl) hx ?_
      rw [rm_4 hR (m := m) ⟨by omega, by omega⟩]
      have g_58 : 0 ≤ M 12 m ∧ M 12 m ≤ 200 := hW 12 m
      refine e_icmp_gt (tgt := 68) dX10_canHaveRoom_61 (by decide) ⟨by omega, by omega⟩ ⟨by omega, by omega⟩ (fun c_61 => ?_) (fun c_61 => ?_)
      · refine e_iconst dX10_canHaveRoom_68 ?_
        exact e_iret dX10_canHaveRoom_69 (Or.inr ⟨rfl, by omega⟩) (e_ok (by have e9 : k = 16 := (by omega); subst e9; unfold bi; split <;> first | rfl | (exfalso; omega)) rfl rfl)
      · refine e_iconst dX10_canHaveRoom_64 ?_
        refine e_goto (tgt := 69) dX10_canHaveRoom_65 (by decide) ?_
        exact e_iret dX10_canHaveRoom_69 (Or.inr ⟨rfl, by omega⟩) (e_ok (by have e9 : k = 16 := (by omega); subst e9; unfold bi; split <;> first | rfl | (exfalso; omega)) rfl rfl)
    · exfalso; omega
  | succ r ih =>
    intro k z i h1 h2 h3
    have gt := takF_rg M m 16
    have gc := cgL_rg M m k
    refine e_iload dX10_canHaveRoom_10 rfl ?_
    refine e_bipush dX10_canHaveRoom_12 (by decide) ?_
    refine e_icmp_ge (tgt := 56) dX10_canHaveRoom_14 (by decide) ⟨by omega, by omega⟩ ⟨by omega, by omega⟩ (fun c_14 => ?_) (fun c_14 => ?_)
    · exfalso; omega
    · refine e_aload_n dX10_canHaveRoom_17 rfl ?_
      refine c_getR (kt := (31, 16, (140 + m))) (by omega) (Or.inl (by omega)) dX10_canHaveRoom_18 f_X10_105 hx (kl_c ⟨by omega, by omega⟩) (Nat.succ_ne_zero _) (fun q_18 h_18 => ?_)
      refine e_iload dX10_canHaveRoom_21 rfl ?_
      refine c_aald (ci := 1) (kt := (2, 0, (200 + (16 * m + i)))) (by omega) (Or.inl (by omega)) dX10_canHaveRoom_23 h_18 (by decide) (by omega) (by omega) (kl_p ⟨by omega, by omega⟩ ⟨by omega, by omega⟩) (Nat.succ_ne_zero _) (fun q_23 h_23 => ?_)
      refine e_astore (ls2 := [_, _, _, _, _, _]) dX10_canHaveRoom_24 (Nat.le_of_ble_eq_true rfl) rfl ?_
      refine e_iload_n dX10_canHaveRoom_26 rfl ?_
      refine e_aload_n dX10_canHaveRoom_27 rfl ?_
      refine e_aload dX10_canHaveRoom_28 rfl ?_
      refine e_cV (as := [_]) (ci := 10) dX10_canHaveRoom_30 k_X10_canPutAway l_X10_348 i_X10_canPutAway v_X10_canPutAway hT rfl (by decide) ⟨_, _, rfl⟩ rfl rfl rfl rfl (Nat.le_of_ble_eq_true rfl) ⟨by decide, by decide⟩ (Nat.le_of_ble_eq_true rfl) (by decide) (c_10_canPutAway hT h_23 ⟨by omega, by omega⟩ hR hI hW) ?_
      refine e_if_eq (tgt := 47) dX10_canHaveRoom_33 (by decide) bi_iI (fun c_33 => ?_) (fun c_33 => ?_)
      · simp only [bi_z, Classical.not_not] at c_33
        refine e_iconst dX10_canHaveRoom_47 ?_
        refine e_isub dX10_canHaveRoom_48 ?_
        refine e_istore_n (ls2 := [_, _, _, _, _, _]) dX10_canHaveRoom_49 (Nat.le_of_ble_eq_true rfl) rfl ?_
        refine e_iinc (ls2 := [_, _, _, _, _, _]) dX10_canHaveRoom_50 rfl (Nat.le_of_ble_eq_true rfl) rfl ?_
        refine e_goto (tgt := 10) dX10_canHaveRoom_53 (by decide) ?_
        refine e_drop (k := 5) (ls2 := [_, _, _, _, _, _]) rfl ?_
        exact ih (k + 1) _ _ (by omega) (by simp only [cgL, ← h3]; (first | rw [if_pos c_33] | rw [if_neg c_33]); omega) (by omega)
      · simp only [bi_z, Classical.not_not] at c_33
        refine e_aload dX10_canHaveRoom_36 rfl ?_
        have hv_38 : vcode (M 3 (16 * m + i)) := mi_3 hI ⟨by omega, by omega⟩
        have hg_38 := hv_38.1
        refine c_getR (kt := (1, 0, (1000000 + 3 * M 3 (16 * m + i)))) (by omega) (Or.inl (by omega)) dX10_canHaveRoom_38 f_X10_165 h_23 (kl_pc ⟨by omega, by omega⟩ (by omega) (rp_2 hR ⟨by omega, by omega⟩)) (Nat.succ_ne_zero _) (fun q_38 h_38 => ?_)
        refine c_getI (by omega) dX10_canHaveRoom_41 f_X10_204 (Or.inl rfl) h_38 ?_
        rw [cc_0 (rc_C hR) (c := M 3 (16 * m + i)) (by assumption)]
        have g_41 := mlen_nn (M 3 (16 * m + i))
        refine e_goto (tgt := 48) dX10_canHaveRoom_44 (by decide) ?_
        refine e_isub dX10_canHaveRoom_48 ?_
        refine e_istore_n (ls2 := [_, _, _, _, _, _]) dX10_canHaveRoom_49 (Nat.le_of_ble_eq_true rfl) rfl ?_
        refine e_iinc (ls2 := [_, _, _, _, _, _]) dX10_canHaveRoom_50 rfl (Nat.le_of_ble_eq_true rfl) rfl ?_
        refine e_goto (tgt := 10) dX10_canHaveRoom_53 (by decide) ?_
        refine e_drop (k := 5) (ls2 := [_, _, _, _, _, _]) rfl ?_
        exact ih (k + 1) _ _ (by omega) (by simp only [cgL, ← h3]; (first | rw [if_pos c_33] | rw [if_neg c_33]); omega) (by omega)
set_option maxRecDepth 20000 in
set_option maxHeartbeats 4000000 in
theorem c_10_canHaveRoom {K : q_K} {B M C : q_S} {a : Nat} (hT : K a = (11, 0, 100)) {x : Nat} {m : Int} (hx : K x = (7, 0, 110 + m)) (hm : 0 ≤ m ∧ m ≤ 2) (hR : RC M C) (hI : MI M) (hW : WR M) {n : Int} (hn : 0 ≤ n ∧ n ≤ 100) : q_E mX10_canHaveRoom 0 [some (q_R a), some (q_R x), some (q_I n), none, none, none] [] K B C 0 0 (e_is (some (q_I (bi (¬ M 12 m - takF M m 16 + cgL M m 16 < n)))) K B C) := by
  have gt := takF_rg M m 16
  refine e_aload_n dX10_canHaveRoom_0 rfl ?_
  refine e_cV (as := []) (ci := 6) dX10_canHaveRoom_1 k_X6_takenRoom l_X10_297 i_X6_takenRoom v_X6_takenRoom hx rfl (by decide) ⟨_, _, rfl⟩ rfl rfl rfl rfl (Nat.le_of_ble_eq_true rfl) ⟨by decide, by decide⟩ (Nat.le_of_ble_eq_true rfl) (by decide) (c_6_takenRoom hx hm hR hI hW) ?_
  refine e_iload_n dX10_canHaveRoom_4 rfl ?_
  refine e_iadd dX10_canHaveRoom_5 ?_
  refine e_istore_n (ls2 := [_, _, _, _, _, _]) dX10_canHaveRoom_6 (Nat.le_of_ble_eq_true rfl) rfl ?_
  refine e_iconst dX10_canHaveRoom_7 ?_
  refine e_istore (ls2 := [_, _, _, _, _, _]) dX10_canHaveRoom_8 (Nat.le_of_ble_eq_true rfl) rfl ?_
  exact c_10_canHaveRoom_l hT hx hm hR hI hW hn 16 0 _ _ (by omega) (by simp only [cgL]; omega) rfl
set_option maxRecDepth 20000 in
set_option maxHeartbeats 4000000 in
theorem c_8_find_l {K : q_K} {B M C : q_S} {l : Nat} (hL : K l = (9, 0, 105)) (hR : RC M C) (hI : MI M) (hW : WR M) {x : Int} (hx : 0 ≤ x ∧ x < 20000) : ∀ (r k : Nat) (i : Int), (k + r = (C 105 0).toNat) → (fiF C x k = -1) → (i = k) → q_E mX8_find 2 [some (q_R l), some (q_I x), some (q_I i)] [] K B C 0 0 (e_is (some (q_I (fi C x))) K B C) := by
  intro r
  induction r with
  | zero =>
    intro k i h1 h2 h3
    have hT8 := rc_T hR
    have hn8 := rt_n hT8
    refine e_iload_n dX8_find_2 rfl ?_
    refine e_aload_n dX8_find_3 rfl ?_
    refine c_getI (by decide) dX8_find_4 f_X8_9 (Or.inl rfl) hL ?_
    refine e_icmp_ge (tgt := 28) dX8_find_7 (by decide) ⟨by omega, by omega⟩ ⟨by omega, by omega⟩ (fun c_7 => ?_) (fun c_7 => ?_)
    · refine e_iconst dX8_find_28 ?_
      exact e_iret dX8_find_29 (Or.inl rfl) (e_ok (by show _ = some (q_I (fiF C x (C 105 0).toNat)); rw [show (C 105 0).toNat = k by omega, h2]) rfl rfl)
    · exfalso; omega
  | succ r ih =>
    intro k i h1 h2 h3
    have hT8 := rc_T hR
    have hn8 := rt_n hT8
    have hi8 : i < C 105 0 → 0 ≤ C 126 i ∧ C 126 i < 20000 := fun h => (rt_i hT8 (i := i) ⟨by omega, h⟩).1
    refine e_iload_n dX8_find_2 rfl ?_
    refine e_aload_n dX8_find_3 rfl ?_
    refine c_getI (by decide) dX8_find_4 f_X8_9 (Or.inl rfl) hL ?_
    refine e_icmp_ge (tgt := 28) dX8_find_7 (by decide) ⟨by omega, by omega⟩ ⟨by omega, by omega⟩ (fun c_7 => ?_) (fun c_7 => ?_)
    · exfalso; omega
    · have hi9 := hi8 (by omega)
      refine e_aload_n dX8_find_10 rfl ?_
      refine c_getR (kt := (20, 512, 126)) (by decide) (Or.inl (by decide)) dX8_find_11 f_X8_21 hL rfl (Nat.succ_ne_zero _) (fun q_11 h_11 => ?_)
      refine e_iload_n dX8_find_14 rfl ?_
      refine c_iald (by decide) dX8_find_15 h_11 (by omega) (by omega) ?_
      refine e_iload_n dX8_find_16 rfl ?_
      refine e_icmp_ne (tgt := 22) dX8_find_17 (by decide) ⟨by omega, by omega⟩ ⟨by omega, by omega⟩ (fun c_17 => ?_) (fun c_17 => ?_)
      · refine e_iinc (ls2 := [_, _, _]) dX8_find_22 rfl (Nat.le_of_ble_eq_true rfl) rfl ?_
        refine e_goto (tgt := 2) dX8_find_25 (by decide) ?_
        exact ih (k + 1) _ (by omega) (by simp only [fiF, ← h3]; rw [if_neg (by omega), if_neg c_17]) (by omega)
      · refine e_iload_n dX8_find_20 rfl ?_
        refine e_iret dX8_find_21 (Or.inl rfl) ?_
        have := fiF_stop (C := C) (x := x) (k := k) h2 (by rw [← h3]; exact c_17) ((C 105 0).toNat - (k + 1))
        rw [show k + 1 + ((C 105 0).toNat - (k + 1)) = (C 105 0).toNat by omega] at this
        exact e_ok (by show _ = some (q_I (fiF C x (C 105 0).toNat)); rw [this, h3]) rfl rfl
set_option maxRecDepth 20000 in
set_option maxHeartbeats 4000000 in
theorem c_8_find {K : q_K} {B M C : q_S} {l : Nat} (hL : K l = (9, 0, 105)) (hR : RC M C) (hI : MI M) (hW : WR M) {x : Int} (hx : 0 ≤ x ∧ x < 20000) : q_E mX8_find 0 [some (q_R l), some (q_I x), none] [] K B C 0 0 (e_is (some (q_I (fi C x))) K B C) := by
  have hn8 := rt_n (rc_T hR)
  refine e_iconst dX8_find_0 ?_
  refine e_istore_n (ls2 := [_, _, _]) dX8_find_1 (Nat.le_of_ble_eq_true rfl) rfl ?_
  exact c_8_find_l hL hR hI hW hx (C 105 0).toNat 0 0 (by omega) rfl rfl
set_option maxRecDepth 20000 in
set_option maxHeartbeats 4000000 in
theorem c_8_hasAll_l {K : q_K} {B M C : q_S} {l : Nat} (hL : K l = (9, 0, 105)) {y : Nat} {c : Int} (hy : K y = (1, 0, 1000000 + 3 * c)) (hc : vcode c) (hR : RC M C) (hI : MI M) (hW : WR M) : ∀ (r k : Nat) (i : Int), (k + r = (ncut c).toNat) → (haI M c k = 1) → (i = k) → q_E mX8_hasAll 2 [some (q_R l), some (q_R y), some (q_I i)] [] K B C 0 0 (e_is (some (q_I (haI M c (ncut c).toNat))) K B C) := by
  intro r
  induction r with
  | zero =>
    intro k i h1 h2 h3
    have hc0 := hc.1
    have hnc := ncut_rg c
    have hcl := vcode_len hc
    have hpr := pce_rg c i
    have hT8 := rc_T hR
    have hn8 := rt_n hT8
    have hfr := fi_rg hT8 (pce c i)
    have hfz := fi_z hT8 (x := pce c i) ⟨by omega, by omega⟩
    refine e_iload_n dX8_hasAll_2 rfl ?_
    refine e_aload_n dX8_hasAll_3 rfl ?_
    refine c_getI (by omega) dX8_hasAll_4 f_X8_38 (Or.inl rfl) hy ?_
    rw [cc_1 (rc_C hR) (c := c) (by assumption)]
    have g_4 := ncut_rg c
    refine e_icmp_ge (tgt := 31) dX8_hasAll_7 (by decide) ⟨by omega, by omega⟩ ⟨by omega, by omega⟩ (fun c_7 => ?_) (fun c_7 => ?_)
    · refine e_iconst dX8_hasAll_31 ?_
      exact e_iret dX8_hasAll_32 (Or.inr ⟨rfl, by omega⟩) (e_ok (by rw [show (ncut c).toNat = k by omega, h2]) rfl rfl)
    · exfalso; omega
  | succ r ih =>
    intro k i h1 h2 h3
    have hc0 := hc.1
    have hnc := ncut_rg c
    have hcl := vcode_len hc
    have hpr := pce_rg c i
    have hT8 := rc_T hR
    have hn8 := rt_n hT8
    have hfr := fi_rg hT8 (pce c i)
    have hfz := fi_z hT8 (x := pce c i) ⟨by omega, by omega⟩
    refine e_iload_n dX8_hasAll_2 rfl ?_
    refine e_aload_n dX8_hasAll_3 rfl ?_
    refine c_getI (by omega) dX8_hasAll_4 f_X8_38 (Or.inl rfl) hy ?_
    rw [cc_1 (rc_C hR) (c := c) (by assumption)]
    have g_4 := ncut_rg c
    refine e_icmp_ge (tgt := 31) dX8_hasAll_7 (by decide) ⟨by omega, by omega⟩ ⟨by omega, by omega⟩ (fun c_7 => ?_) (fun c_7 => ?_)
    · exfalso; omega
    · refine e_aload_n dX8_hasAll_10 rfl ?_
      refine e_aload_n dX8_hasAll_11 rfl ?_
      refine e_iload_n dX8_hasAll_12 rfl ?_
      refine e_cV (as := [_]) (ci := 0) dX8_hasAll_13 k_X0_pieceIn l_X8_43 i_X0_pieceIn v_X0_pieceIn hy rfl (by decide) ⟨_, _, rfl⟩ rfl rfl rfl rfl (Nat.le_of_ble_eq_true rfl) ⟨by decide, by decide⟩ (Nat.le_of_ble_eq_true rfl) (by decide) (c_0_pieceIn hy hc hR hI hW ⟨by omega, by omega⟩) ?_
      rw [if_pos ⟨by omega, by omega⟩]
      refine e_cV (as := [_]) (ci := 8) dX8_hasAll_16 k_X8_find l_X8_47 i_X8_find v_X8_find hL rfl (by decide) ⟨_, _, rfl⟩ rfl rfl rfl rfl (Nat.le_of_ble_eq_true rfl) ⟨by decide, by decide⟩ (Nat.le_of_ble_eq_true rfl) (by decide) (c_8_find hL hR hI hW ⟨by omega, by omega⟩) ?_
      refine e_iconst dX8_hasAll_19 ?_
      refine e_icmp_ne (tgt := 25) dX8_hasAll_20 (by decide) ⟨by omega, by omega⟩ ⟨by omega, by omega⟩ (fun c_20 => ?_) (fun c_20 => ?_)
      · refine e_iinc (ls2 := [_, _, _]) dX8_hasAll_25 rfl (Nat.le_of_ble_eq_true rfl) rfl ?_
        refine e_goto (tgt := 2) dX8_hasAll_28 (by decide) ?_
        exact ih (k + 1) _ (by omega) (by simp only [haI, ← h3]; rw [if_pos ⟨by omega, fun g => c_20 (hfz.mpr g)⟩]) (by omega)
      · refine e_iconst dX8_hasAll_23 ?_
        refine e_iret dX8_hasAll_24 (Or.inr ⟨rfl, by omega⟩) ?_
        have := haI_stop (M := M) (c := c) (k := k + 1) (by simp only [haI, ← h3]; rw [if_neg (fun g => g.2 (hfz.mp (by omega)))]) ((ncut c).toNat - (k + 1))
        rw [show k + 1 + ((ncut c).toNat - (k + 1)) = (ncut c).toNat by omega] at this
        exact e_ok (by rw [this]) rfl rfl
set_option maxRecDepth 20000 in
set_option maxHeartbeats 4000000 in
theorem c_8_hasAll {K : q_K} {B M C : q_S} {l : Nat} (hL : K l = (9, 0, 105)) {y : Nat} {c : Int} (hy : K y = (1, 0, 1000000 + 3 * c)) (hc : vcode c) (hR : RC M C) (hI : MI M) (hW : WR M) : q_E mX8_hasAll 0 [some (q_R l), some (q_R y), none] [] K B C 0 0 (e_is (some (q_I (haI M c (ncut c).toNat))) K B C) := by
  have hnc := ncut_rg c
  have hc0 := hc.1
  refine e_iconst dX8_hasAll_0 ?_
  refine e_istore_n (ls2 := [_, _, _]) dX8_hasAll_1 (Nat.le_of_ble_eq_true rfl) rfl ?_
  exact c_8_hasAll_l hL hy hc hR hI hW (ncut c).toNat 0 0 (by omega) rfl rfl
set_option maxRecDepth 20000 in
set_option maxHeartbeats 4000000 in
theorem c_8_hasAllWhole_l {K : q_K} {B M C : q_S} {l : Nat} (hL : K l = (9, 0, 105)) {y : Nat} {c : Int} (hy : K y = (1, 0, 1000000 + 3 * c)) (hc : vcode c) (hR : RC M C) (hI : MI M) (hW : WR M) : ∀ (r k : Nat) (i : Int), (k + r = (ncut c).toNat) → (whI M c k = 1) → (i = k) → q_E mX8_hasAllWhole 2 [some (q_R l), some (q_R y), some (q_I i), none] [] K B C 0 0 (e_is (some (q_I (whI M c (ncut c).toNat))) K B C) := by
  intro r
  induction r with
  | zero =>
    intro k i h1 h2 h3
    have hc0 := hc.1
    have hnc := ncut_rg c
    have hcl := vcode_len hc
    have hpr := pce_rg c i
    have hT8 := rc_T hR
    have hn8 := rt_n hT8
    have hfr := fi_rg hT8 (pce c i)
    have hfz := fi_z hT8 (x := pce c i) ⟨by omega, by omega⟩
    refine e_iload_n dX8_hasAllWhole_2 rfl ?_
    refine e_aload_n dX8_hasAllWhole_3 rfl ?_
    refine c_getI (by omega) dX8_hasAllWhole_4 f_X8_38 (Or.inl rfl) hy ?_
    rw [cc_1 (rc_C hR) (c := c) (by assumption)]
    have g_4 := ncut_rg c
    refine e_icmp_ge (tgt := 42) dX8_hasAllWhole_7 (by decide) ⟨by omega, by omega⟩ ⟨by omega, by omega⟩ (fun c_7 => ?_) (fun c_7 => ?_)
    · refine e_iconst dX8_hasAllWhole_42 ?_
      exact e_iret dX8_hasAllWhole_43 (Or.inr ⟨rfl, by omega⟩) (e_ok (by rw [show (ncut c).toNat = k by omega, h2]) rfl rfl)
    · exfalso; omega
  | succ r ih =>
    intro k i h1 h2 h3
    have hc0 := hc.1
    have hnc := ncut_rg c
    have hcl := vcode_len hc
    have hpr := pce_rg c i
    have hT8 := rc_T hR
    have hn8 := rt_n hT8
    have hfr := fi_rg hT8 (pce c i)
    have hfz := fi_z hT8 (x := pce c i) ⟨by omega, by omega⟩
    have hfv : ¬ fi C (pce c i) = -1 → (0 ≤ fi C (pce c i) ∧ fi C (pce c i) < 512) ∧ M 31 (pce c i) = C 127 (fi C (pce c i)) + 1 ∧ 0 ≤ C 127 (fi C (pce c i)) ∧ M 32 (pce c i) = C 128 (fi C (pce c i)) ∧ M 33 (pce c i) = C 129 (fi C (pce c i)) := fun h => ⟨⟨(fi_v hT8 h).1.1, by have := (fi_v hT8 h).1.2; omega⟩, (fi_v hT8 h).2.2⟩
    have h32 : 0 ≤ M 32 (pce c i) ∧ M 32 (pce c i) ≤ 1 := hW 32 _
    have h33 : 0 ≤ M 33 (pce c i) ∧ M 33 (pce c i) ≤ 1 := hW 33 _
    refine e_iload_n dX8_hasAllWhole_2 rfl ?_
    refine e_aload_n dX8_hasAllWhole_3 rfl ?_
    refine c_getI (by omega) dX8_hasAllWhole_4 f_X8_38 (Or.inl rfl) hy ?_
    rw [cc_1 (rc_C hR) (c := c) (by assumption)]
    have g_4 := ncut_rg c
    refine e_icmp_ge (tgt := 42) dX8_hasAllWhole_7 (by decide) ⟨by omega, by omega⟩ ⟨by omega, by omega⟩ (fun c_7 => ?_) (fun c_7 => ?_)
    · exfalso; omega
    · refine e_aload_n dX8_hasAllWhole_10 rfl ?_
      refine e_aload_n dX8_hasAllWhole_11 rfl ?_
      refine e_iload_n dX8_hasAllWhole_12 rfl ?_
      refine e_cV (as := [_]) (ci := 0) dX8_hasAllWhole_13 k_X0_pieceIn l_X8_43 i_X0_pieceIn v_X0_pieceIn hy rfl (by decide) ⟨_, _, rfl⟩ rfl rfl rfl rfl (Nat.le_of_ble_eq_true rfl) ⟨by decide, by decide⟩ (Nat.le_of_ble_eq_true rfl) (by decide) (c_0_pieceIn hy hc hR hI hW ⟨by omega, by omega⟩) ?_
      rw [if_pos ⟨by omega, by omega⟩]
      refine e_cV (as := [_]) (ci := 8) dX8_hasAllWhole_16 k_X8_find l_X8_47 i_X8_find v_X8_find hL rfl (by decide) ⟨_, _, rfl⟩ rfl rfl rfl rfl (Nat.le_of_ble_eq_true rfl) ⟨by decide, by decide⟩ (Nat.le_of_ble_eq_true rfl) (by decide) (c_8_find hL hR hI hW ⟨by omega, by omega⟩) ?_
      refine e_istore_n (ls2 := [_, _, _, _]) dX8_hasAllWhole_19 (Nat.le_of_ble_eq_true rfl) rfl ?_
      refine e_iload_n dX8_hasAllWhole_20 rfl ?_
      refine e_iconst dX8_hasAllWhole_21 ?_
      refine e_icmp_eq (tgt := 34) dX8_hasAllWhole_22 (by decide) ⟨by omega, by omega⟩ ⟨by omega, by omega⟩ (fun c_22 => ?_) (fun c_22 => ?_)
      · refine e_iconst dX8_hasAllWhole_34 ?_
        refine e_iret dX8_hasAllWhole_35 (Or.inr ⟨rfl, by omega⟩) ?_
        have := whI_stop (M := M) (c := c) (k := k + 1) (by simp only [whI, ← h3]; rw [if_neg (by omega)]) ((ncut c).toNat - (k + 1))
        rw [show k + 1 + ((ncut c).toNat - (k + 1)) = (ncut c).toNat by omega] at this
        exact e_ok (by rw [this]) rfl rfl
      · have hf9 := hfv c_22
        refine e_aload_n dX8_hasAllWhole_25 rfl ?_
        refine c_getR (kt := (22, 512, 128)) (by decide) (Or.inl (by decide)) dX8_hasAllWhole_26 f_X8_28 hL rfl (Nat.succ_ne_zero _) (fun q_26 h_26 => ?_)
        refine e_iload_n dX8_hasAllWhole_29 rfl ?_
        refine c_zald (by decide) dX8_hasAllWhole_30 h_26 (by omega) (by omega) ?_
        refine e_if_eq (tgt := 36) dX8_hasAllWhole_31 (by decide) ⟨by omega, by omega⟩ (fun c_31 => ?_) (fun c_31 => ?_)
        · refine e_iinc (ls2 := [_, _, _, _]) dX8_hasAllWhole_36 rfl (Nat.le_of_ble_eq_true rfl) rfl ?_
          refine e_goto (tgt := 2) dX8_hasAllWhole_39 (by decide) ?_
          refine e_drop (k := 3) (ls2 := [_, _, _, _]) rfl ?_
          exact ih (k + 1) _ (by omega) (by simp only [whI, ← h3]; rw [if_pos ⟨by omega, by omega, by omega⟩]) (by omega)
        · refine e_iconst dX8_hasAllWhole_34 ?_
          refine e_iret dX8_hasAllWhole_35 (Or.inr ⟨rfl, by omega⟩) ?_
          have := whI_stop (M := M) (c := c) (k := k + 1) (by simp only [whI, ← h3]; rw [if_neg (by omega)]) ((ncut c).toNat - (k + 1))
          rw [show k + 1 + ((ncut c).toNat - (k + 1)) = (ncut c).toNat by omega] at this
          exact e_ok (by rw [this]) rfl rfl
set_option maxRecDepth 20000 in
set_option maxHeartbeats 4000000 in
theorem c_8_hasAllWhole {K : q_K} {B M C : q_S} {l : Nat} (hL : K l = (9, 0, 105)) {y : Nat} {c : Int} (hy : K y = (1, 0, 1000000 + 3 * c)) (hc : vcode c) (hR : RC M C) (hI : MI M) (hW : WR M) : q_E mX8_hasAllWhole 0 [some (q_R l), some (q_R y), none, none] [] K B C 0 0 (e_is (some (q_I (whI M c (ncut c).toNat))) K B C) := by
  have hnc := ncut_rg c
  have hc0 := hc.1
  refine e_iconst dX8_hasAllWhole_0 ?_
  refine e_istore_n (ls2 := [_, _, _, _]) dX8_hasAllWhole_1 (Nat.le_of_ble_eq_true rfl) rfl ?_
  exact c_8_hasAllWhole_l hL hy hc hR hI hW (ncut c).toNat 0 0 (by omega) rfl rfl
set_option maxRecDepth 20000 in
set_option maxHeartbeats 4000000 in
theorem c_8_isWholeSomewhere_l {K : q_K} {B M C : q_S} {l : Nat} (hL : K l = (9, 0, 105)) {y : Nat} {c : Int} (hy : K y = (1, 0, 1000000 + 3 * c)) (hc : vcode c) (hR : RC M C) (hI : MI M) (hW : WR M) : ∀ (r k : Nat) (i : Int), (k + r = (ncut c).toNat) → (lsI M c k = 0) → (i = k) → q_E mX8_isWholeSomewhere 2 [some (q_R l), some (q_R y), some (q_I i), none] [] K B C 0 0 (e_is (some (q_I (1 - lsI M c (ncut c).toNat))) K B C) := by
  intro r
  induction r with
  | zero =>
    intro k i h1 h2 h3
    have hc0 := hc.1
    have hnc := ncut_rg c
    have hcl := vcode_len hc
    have hpr := pce_rg c i
    have hT8 := rc_T hR
    have hn8 := rt_n hT8
    have hfr := fi_rg hT8 (pce c i)
    have hfz := fi_z hT8 (x := pce c i) ⟨by omega, by omega⟩
    refine e_iload_n dX8_isWholeSomewhere_2 rfl ?_
    refine e_aload_n dX8_isWholeSomewhere_3 rfl ?_
    refine c_getI (by omega) dX8_isWholeSomewhere_4 f_X8_38 (Or.inl rfl) hy ?_
    rw [cc_1 (rc_C hR) (c := c) (by assumption)]
    have g_4 := ncut_rg c
    refine e_icmp_ge (tgt := 51) dX8_isWholeSomewhere_7 (by decide) ⟨by omega, by omega⟩ ⟨by omega, by omega⟩ (fun c_7 => ?_) (fun c_7 => ?_)
    · refine e_iconst dX8_isWholeSomewhere_51 ?_
      exact e_iret dX8_isWholeSomewhere_52 (Or.inr ⟨rfl, by omega⟩) (e_ok (by rw [show (ncut c).toNat = k by omega, h2]; rfl) rfl rfl)
    · exfalso; omega
  | succ r ih =>
    intro k i h1 h2 h3
    have hc0 := hc.1
    have hnc := ncut_rg c
    have hcl := vcode_len hc
    have hpr := pce_rg c i
    have hT8 := rc_T hR
    have hn8 := rt_n hT8
    have hfr := fi_rg hT8 (pce c i)
    have hfz := fi_z hT8 (x := pce c i) ⟨by omega, by omega⟩
    have hfv : ¬ fi C (pce c i) = -1 → (0 ≤ fi C (pce c i) ∧ fi C (pce c i) < 512) ∧ M 31 (pce c i) = C 127 (fi C (pce c i)) + 1 ∧ 0 ≤ C 127 (fi C (pce c i)) ∧ M 32 (pce c i) = C 128 (fi C (pce c i)) ∧ M 33 (pce c i) = C 129 (fi C (pce c i)) := fun h => ⟨⟨(fi_v hT8 h).1.1, by have := (fi_v hT8 h).1.2; omega⟩, (fi_v hT8 h).2.2⟩
    have h32 : 0 ≤ M 32 (pce c i) ∧ M 32 (pce c i) ≤ 1 := hW 32 _
    have h33 : 0 ≤ M 33 (pce c i) ∧ M 33 (pce c i) ≤ 1 := hW 33 _
    have h08 : M 31 (pce c i) = 0 → M 32 (pce c i) = 0 ∧ M 33 (pce c i) = 0 := hT8.2.2.2.2 _ (by omega) (by omega)
    refine e_iload_n dX8_isWholeSomewhere_2 rfl ?_
    refine e_aload_n dX8_isWholeSomewhere_3 rfl ?_
    refine c_getI (by omega) dX8_isWholeSomewhere_4 f_X8_38 (Or.inl rfl) hy ?_
    rw [cc_1 (rc_C hR) (c := c) (by assumption)]
    have g_4 := ncut_rg c
    refine e_icmp_ge (tgt := 51) dX8_isWholeSomewhere_7 (by decide) ⟨by omega, by omega⟩ ⟨by omega, by omega⟩ (fun c_7 => ?_) (fun c_7 => ?_)
    · exfalso; omega
    · refine e_aload_n dX8_isWholeSomewhere_10 rfl ?_
      refine e_aload_n dX8_isWholeSomewhere_11 rfl ?_
      refine e_iload_n dX8_isWholeSomewhere_12 rfl ?_
      refine e_cV (as := [_]) (ci := 0) dX8_isWholeSomewhere_13 k_X0_pieceIn l_X8_43 i_X0_pieceIn v_X0_pieceIn hy rfl (by decide) ⟨_, _, rfl⟩ rfl rfl rfl rfl (Nat.le_of_ble_eq_true rfl) ⟨by decide, by decide⟩ (Nat.le_of_ble_eq_true rfl) (by decide) (c_0_pieceIn hy hc hR hI hW ⟨by omega, by omega⟩) ?_
      rw [if_pos ⟨by omega, by omega⟩]
      refine e_cV (as := [_]) (ci := 8) dX8_isWholeSomewhere_16 k_X8_find l_X8_47 i_X8_find v_X8_find hL rfl (by decide) ⟨_, _, rfl⟩ rfl rfl rfl rfl (Nat.le_of_ble_eq_true rfl) ⟨by decide, by decide⟩ (Nat.le_of_ble_eq_true rfl) (by decide) (c_8_find hL hR hI hW ⟨by omega, by omega⟩) ?_
      refine e_istore_n (ls2 := [_, _, _, _]) dX8_isWholeSomewhere_19 (Nat.le_of_ble_eq_true rfl) rfl ?_
      refine e_iload_n dX8_isWholeSomewhere_20 rfl ?_
      refine e_iconst dX8_isWholeSomewhere_21 ?_
      refine e_icmp_eq (tgt := 43) dX8_isWholeSomewhere_22 (by decide) ⟨by omega, by omega⟩ ⟨by omega, by omega⟩ (fun c_22 => ?_) (fun c_22 => ?_)
      · refine e_iconst dX8_isWholeSomewhere_43 ?_
        refine e_iret dX8_isWholeSomewhere_44 (Or.inr ⟨rfl, by omega⟩) ?_
        have := lsI_stop (M := M) (c := c) (k := k + 1) (by simp only [lsI, ← h3]; rw [if_pos (by omega)]; decide) ((ncut c).toNat - (k + 1))
        rw [show k + 1 + ((ncut c).toNat - (k + 1)) = (ncut c).toNat by omega] at this
        have h01 := lsI_01 M c (ncut c).toNat
        exact e_ok (by congr 2; omega) rfl rfl
      · have hf9 := hfv c_22
        refine e_aload_n dX8_isWholeSomewhere_25 rfl ?_
        refine c_getR (kt := (22, 512, 128)) (by decide) (Or.inl (by decide)) dX8_isWholeSomewhere_26 f_X8_28 hL rfl (Nat.succ_ne_zero _) (fun q_26 h_26 => ?_)
        refine e_iload_n dX8_isWholeSomewhere_29 rfl ?_
        refine c_zald (by decide) dX8_isWholeSomewhere_30 h_26 (by omega) (by omega) ?_
        refine e_if_eq (tgt := 45) dX8_isWholeSomewhere_31 (by decide) ⟨by omega, by omega⟩ (fun c_31 => ?_) (fun c_31 => ?_)
        · refine e_iinc (ls2 := [_, _, _, _]) dX8_isWholeSomewhere_45 rfl (Nat.le_of_ble_eq_true rfl) rfl ?_
          refine e_goto (tgt := 2) dX8_isWholeSomewhere_48 (by decide) ?_
          refine e_drop (k := 3) (ls2 := [_, _, _, _]) rfl ?_
          exact ih (k + 1) _ (by omega) (by simp only [lsI, ← h3]; rw [if_neg (by omega)]) (by omega)
        · refine e_aload_n dX8_isWholeSomewhere_34 rfl ?_
          refine c_getR (kt := (22, 512, 129)) (by decide) (Or.inl (by decide)) dX8_isWholeSomewhere_35 f_X8_32 hL rfl (Nat.succ_ne_zero _) (fun q_35 h_35 => ?_)
          refine e_iload_n dX8_isWholeSomewhere_38 rfl ?_
          refine c_zald (by decide) dX8_isWholeSomewhere_39 h_35 (by omega) (by omega) ?_
          refine e_if_ne (tgt := 45) dX8_isWholeSomewhere_40 (by decide) ⟨by omega, by omega⟩ (fun c_40 => ?_) (fun c_40 => ?_)
          · refine e_iinc (ls2 := [_, _, _, _]) dX8_isWholeSomewhere_45 rfl (Nat.le_of_ble_eq_true rfl) rfl ?_
            refine e_goto (tgt := 2) dX8_isWholeSomewhere_48 (by decide) ?_
            refine e_drop (k := 3) (ls2 := [_, _, _, _]) rfl ?_
            exact ih (k + 1) _ (by omega) (by simp only [lsI, ← h3]; rw [if_neg (by omega)]) (by omega)
          · refine e_iconst dX8_isWholeSomewhere_43 ?_
            refine e_iret dX8_isWholeSomewhere_44 (Or.inr ⟨rfl, by omega⟩) ?_
            have := lsI_stop (M := M) (c := c) (k := k + 1) (by simp only [lsI, ← h3]; rw [if_pos (by omega)]; decide) ((ncut c).toNat - (k + 1))
            rw [show k + 1 + ((ncut c).toNat - (k + 1)) = (ncut c).toNat by omega] at this
            have h01 := lsI_01 M c (ncut c).toNat
            exact e_ok (by congr 2; omega) rfl rfl
set_option maxRecDepth 20000 in
set_option maxHeartbeats 4000000 in
theorem c_8_isWholeSomewhere {K : q_K} {B M C : q_S} {l : Nat} (hL : K l = (9, 0, 105)) {y : Nat} {c : Int} (hy : K y = (1, 0, 1000000 + 3 * c)) (hc : vcode c) (hR : RC M C) (hI : MI M) (hW : WR M) : q_E mX8_isWholeSomewhere 0 [some (q_R l), some (q_R y), none, none] [] K B C 0 0 (e_is (some (q_I (1 - lsI M c (ncut c).toNat))) K B C) := by
  have hnc := ncut_rg c
  have hc0 := hc.1
  refine e_iconst dX8_isWholeSomewhere_0 ?_
  refine e_istore_n (ls2 := [_, _, _, _]) dX8_isWholeSomewhere_1 (Nat.le_of_ble_eq_true rfl) rfl ?_
  exact c_8_isWholeSomewhere_l hL hy hc hR hI hW (ncut c).toNat 0 0 (by omega) rfl rfl
