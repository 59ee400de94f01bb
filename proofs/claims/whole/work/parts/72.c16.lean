set_option maxRecDepth 20000 in
set_option maxHeartbeats 4000000 in
theorem c_8_need {K : q_K} {B M C : q_S} {l : Nat} (hL : K l = (9, 0, 105)) {y : Nat} {c : Int} (hy : K y = (1, 0, 1000000 + 3 * c)) (hc : vcode c) (hR : RC M C) (hI : MI M) (hW : WR M) : q_E mX8_need 0 [some (q_R l), some (q_R y), none, none] [] K B C 0 0 (e_is (none) K B (ndC C c (ncut c).toNat)) := by
  have h16 := rs_16 hW
  have hc0 := hc.1
  have hcl := vcode_len hc
  have hnc := ncut_rg c
  have lp : ∀ (r k : Nat), k + r = (ncut c).toNat → q_E mX8_need 2 [some (q_R l), some (q_R y), some (q_I (k : Int)), none] [] K B (ndC C c k) 0 0 (e_is (none) K B (ndC C c (ncut c).toNat)) := by
    intro r
    induction r with
    | zero =>
      intro k h1
      have hpr := pce_rg c (k : Int)
      have hR9 : RC M (ndC C c k) := rc_130 hR h16.1 (fun t i g => ndC_o g k)
      have hT9 := rc_T hR9
      have hn9 := rt_n hT9
      have hfr := fi_rg hT9 (pce c (k : Int))
      rw [fi_nd] at hfr
      have ek : (ncut c).toNat = k := by omega
      refine e_iload_n dX8_need_2 rfl ?_
      refine e_aload_n dX8_need_3 rfl ?_
      refine c_getI (by omega) dX8_need_4 f_X8_38 (Or.inl rfl) hy ?_
      rw [cc_1 (rc_C hR9) (c := c) (by assumption)]
      have g_4 := ncut_rg c
      refine e_icmp_ge (tgt := 38) dX8_need_7 (by decide) ⟨by omega, by omega⟩ ⟨by omega, by omega⟩ (fun c_7 => ?_) (fun c_7 => ?_)
      · exact e_ret dX8_need_38 rfl (e_ok rfl rfl (by rw [ek]))
      · exfalso; omega
    | succ r ih =>
      intro k h1
      have hpr := pce_rg c (k : Int)
      have hR9 : RC M (ndC C c k) := rc_130 hR h16.1 (fun t i g => ndC_o g k)
      have hT9 := rc_T hR9
      have hn9 := rt_n hT9
      have hfr := fi_rg hT9 (pce c (k : Int))
      rw [fi_nd] at hfr
      have ihx := ih (k + 1) (by omega)
      rw [show ((k + 1 : Nat) : Int) = (k : Int) + 1 by omega] at ihx
      simp only [ndC] at ihx
      refine e_iload_n dX8_need_2 rfl ?_
      refine e_aload_n dX8_need_3 rfl ?_
      refine c_getI (by omega) dX8_need_4 f_X8_38 (Or.inl rfl) hy ?_
      rw [cc_1 (rc_C hR9) (c := c) (by assumption)]
      have g_4 := ncut_rg c
      refine e_icmp_ge (tgt := 38) dX8_need_7 (by decide) ⟨by omega, by omega⟩ ⟨by omega, by omega⟩ (fun c_7 => ?_) (fun c_7 => ?_)
      · exfalso; omega
      · refine e_aload_n dX8_need_10 rfl ?_
        refine e_aload_n dX8_need_11 rfl ?_
        refine e_iload_n dX8_need_12 rfl ?_
        refine e_cV (as := [_]) (ci := 0) dX8_need_13 k_X0_pieceIn l_X8_43 i_X0_pieceIn v_X0_pieceIn hy rfl (by decide) ⟨_, _, rfl⟩ rfl rfl rfl rfl (Nat.le_of_ble_eq_true rfl) ⟨by decide, by decide⟩ (Nat.le_of_ble_eq_true rfl) (by decide) (c_0_pieceIn hy hc hR9 hI hW ⟨by omega, by omega⟩) ?_
        rw [if_pos ⟨by omega, by omega⟩]
        refine e_cV (as := [_]) (ci := 8) dX8_need_16 k_X8_find l_X8_47 i_X8_find v_X8_find hL rfl (by decide) ⟨_, _, rfl⟩ rfl rfl rfl rfl (Nat.le_of_ble_eq_true rfl) ⟨by decide, by decide⟩ (Nat.le_of_ble_eq_true rfl) (by decide) (c_8_find hL hR9 hI hW ⟨by omega, by omega⟩) ?_
        rw [fi_nd]
        refine e_istore_n (ls2 := [_, _, _, _]) dX8_need_19 (Nat.le_of_ble_eq_true rfl) rfl ?_
        refine e_iload_n dX8_need_20 rfl ?_
        refine e_iconst dX8_need_21 ?_
        refine e_icmp_eq (tgt := 32) dX8_need_22 (by decide) ⟨by omega, by omega⟩ ⟨by omega, by omega⟩ (fun c_22 => ?_) (fun c_22 => ?_)
        · refine e_iinc (ls2 := [_, _, _, _]) dX8_need_32 rfl (Nat.le_of_ble_eq_true rfl) rfl ?_
          refine e_goto (tgt := 2) dX8_need_35 (by decide) ?_
          refine e_drop (k := 3) (ls2 := [_, _, _, _]) rfl ?_
          first
          | (rw [if_pos c_22] at ihx; exact ihx)
          | (rw [if_neg c_22] at ihx; exact ihx)
        · refine e_aload_n dX8_need_25 rfl ?_
          refine c_getR (kt := (22, 512, 130)) (by decide) (Or.inl (by decide)) dX8_need_26 f_X8_35 hL rfl (Nat.succ_ne_zero _) (fun q_26 h_26 => ?_)
          refine e_iload_n dX8_need_29 rfl ?_
          refine e_iconst dX8_need_30 ?_
          refine c_zast (by decide) dX8_need_31 h_26 (by omega) (by omega) (by decide) (by omega) ?_
          refine e_iinc (ls2 := [_, _, _, _]) dX8_need_32 rfl (Nat.le_of_ble_eq_true rfl) rfl ?_
          refine e_goto (tgt := 2) dX8_need_35 (by decide) ?_
          refine e_drop (k := 3) (ls2 := [_, _, _, _]) rfl ?_
          first
          | (rw [if_pos c_22] at ihx; exact ihx)
          | (rw [if_neg c_22] at ihx; exact ihx)
  refine e_iconst dX8_need_0 ?_
  refine e_istore_n (ls2 := [_, _, _, _]) dX8_need_1 (Nat.le_of_ble_eq_true rfl) rfl ?_
  exact lp (ncut c).toNat 0 (by omega)
set_option maxRecDepth 20000 in
set_option maxHeartbeats 4000000 in
theorem c_8_second {K : q_K} {B M : q_S} {l : Nat} (hL : K l = (9, 0, 105)) {y : Nat} {c : Int} (hy : K y = (1, 0, 1000000 + 3 * c)) (hc : vcode c) (hI : MI M) (hW : WR M) (hB : q_tb K (M 50 16)) {C : q_S} (hR : RC M C) : q_E mX8_copyToSecond 0 [some (q_R l), some (q_R y), none, none] [] K B C 0 0 (PX none (scn M c (ncut c).toNat) K B) := by
  have h16 := rs_16 hW
  have hc0 := hc.1
  have hcl := vcode_len hc
  have hnc := ncut_rg c
  have lp : ∀ (r k : Nat) (C : q_S), k + r = (ncut c).toNat → RC (scn M c k) C → q_E mX8_copyToSecond 2 [some (q_R l), some (q_R y), some (q_I (k : Int)), none] [] K B C 0 0 (PX none (scn M c (ncut c).toNat) K B) := by
    intro r
    induction r with
    | zero =>
      intro k C h1 hR9
      have hW9 : WR (scn M c k) := wr_scn hW c k
      have hI9 : MI (scn M c k) := mi_o hI (fun t j g => scn_o (by omega) k)
      have hpr := pce_rg c (k : Int)
      have hT9 := rc_T hR9
      have hn9 := rt_n hT9
      have hfr := fi_rg hT9 (pce c (k : Int))
      have hfz := fi_z hT9 (x := pce c (k : Int)) ⟨by omega, by omega⟩
      have hhi := st_hi hT9 hW9
      have hh2 : ¬ fi C (pce c (k : Int)) = -1 → (0 ≤ C 128 (fi C (pce c (k : Int))) ∧ C 128 (fi C (pce c (k : Int))) ≤ 1) := fun g => (hhi _ (by omega) (by omega)).2.1
      have ek : (ncut c).toNat = k := by omega
      refine e_iload_n dX8_copyToSecond_2 rfl ?_
      refine e_aload_n dX8_copyToSecond_3 rfl ?_
      refine c_getI (by omega) dX8_copyToSecond_4 f_X8_38 (Or.inl rfl) hy ?_
      rw [cc_1 (rc_C hR9) (c := c) (by assumption)]
      have g_4 := ncut_rg c
      refine e_icmp_ge (tgt := 47) dX8_copyToSecond_7 (by decide) ⟨by omega, by omega⟩ ⟨by omega, by omega⟩ (fun c_7 => ?_) (fun c_7 => ?_)
      · exact e_ret dX8_copyToSecond_47 rfl ⟨rfl, ⟨q_xt.rfl, by rw [scn_o (by decide)]; exact hB⟩, rfl, by rw [ek]; exact hR9⟩
      · exfalso; omega
    | succ r ih =>
      intro k C h1 hR9
      have hW9 : WR (scn M c k) := wr_scn hW c k
      have hI9 : MI (scn M c k) := mi_o hI (fun t j g => scn_o (by omega) k)
      have hpr := pce_rg c (k : Int)
      have hT9 := rc_T hR9
      have hn9 := rt_n hT9
      have hfr := fi_rg hT9 (pce c (k : Int))
      have hfz := fi_z hT9 (x := pce c (k : Int)) ⟨by omega, by omega⟩
      have hhi := st_hi hT9 hW9
      have hh2 : ¬ fi C (pce c (k : Int)) = -1 → (0 ≤ C 128 (fi C (pce c (k : Int))) ∧ C 128 (fi C (pce c (k : Int))) ≤ 1) := fun g => (hhi _ (by omega) (by omega)).2.1
      have ihx := fun C0 g => ih (k + 1) C0 (by omega) g
      rw [show ((k + 1 : Nat) : Int) = (k : Int) + 1 by omega] at ihx
      have sS : scn M c (k + 1) = q_us (scn M c k) 33 (pce c (k : Int)) (if 0 < (scn M c k) 31 (pce c (k : Int)) ∧ (scn M c k) 32 (pce c (k : Int)) = 0 then 1 else (scn M c k) 33 (pce c (k : Int))) := rfl
      refine e_iload_n dX8_copyToSecond_2 rfl ?_
      refine e_aload_n dX8_copyToSecond_3 rfl ?_
      refine c_getI (by omega) dX8_copyToSecond_4 f_X8_38 (Or.inl rfl) hy ?_
      rw [cc_1 (rc_C hR9) (c := c) (by assumption)]
      have g_4 := ncut_rg c
      refine e_icmp_ge (tgt := 47) dX8_copyToSecond_7 (by decide) ⟨by omega, by omega⟩ ⟨by omega, by omega⟩ (fun c_7 => ?_) (fun c_7 => ?_)
      · exfalso; omega
      · refine e_aload_n dX8_copyToSecond_10 rfl ?_
        refine e_aload_n dX8_copyToSecond_11 rfl ?_
        refine e_iload_n dX8_copyToSecond_12 rfl ?_
        refine e_cV (as := [_]) (ci := 0) dX8_copyToSecond_13 k_X0_pieceIn l_X8_43 i_X0_pieceIn v_X0_pieceIn hy rfl (by decide) ⟨_, _, rfl⟩ rfl rfl rfl rfl (Nat.le_of_ble_eq_true rfl) ⟨by decide, by decide⟩ (Nat.le_of_ble_eq_true rfl) (by decide) (c_0_pieceIn hy hc hR9 hI9 hW9 ⟨by omega, by omega⟩) ?_
        rw [if_pos ⟨by omega, by omega⟩]
        refine e_cV (as := [_]) (ci := 8) dX8_copyToSecond_16 k_X8_find l_X8_47 i_X8_find v_X8_find hL rfl (by decide) ⟨_, _, rfl⟩ rfl rfl rfl rfl (Nat.le_of_ble_eq_true rfl) ⟨by decide, by decide⟩ (Nat.le_of_ble_eq_true rfl) (by decide) (c_8_find hL hR9 hI9 hW9 ⟨by omega, by omega⟩) ?_
        refine e_istore_n (ls2 := [_, _, _, _]) dX8_copyToSecond_19 (Nat.le_of_ble_eq_true rfl) rfl ?_
        refine e_iload_n dX8_copyToSecond_20 rfl ?_
        refine e_iconst dX8_copyToSecond_21 ?_
        refine e_icmp_eq (tgt := 41) dX8_copyToSecond_22 (by decide) ⟨by omega, by omega⟩ ⟨by omega, by omega⟩ (fun c_22 => ?_) (fun c_22 => ?_)
        · refine e_iinc (ls2 := [_, _, _, _]) dX8_copyToSecond_41 rfl (Nat.le_of_ble_eq_true rfl) rfl ?_
          refine e_goto (tgt := 2) dX8_copyToSecond_44 (by decide) ?_
          refine e_drop (k := 3) (ls2 := [_, _, _, _]) rfl ?_
          refine ihx _ ?_
          rw [sS]
          first
          | (rw [if_pos (by have v := fi_v hT9 c_22; exact ⟨by omega, by omega⟩)]; exact rc_second hR9 hW9 ⟨by omega, by omega⟩ c_22)
          | (rw [if_neg (by first | (have v := hfz.mp c_22; omega) | (have v := fi_v hT9 c_22; omega)), us_same]; exact hR9)
        · have hh3 := hh2 c_22
          refine e_aload_n dX8_copyToSecond_25 rfl ?_
          refine c_getR (kt := (22, 512, 128)) (by decide) (Or.inl (by decide)) dX8_copyToSecond_26 f_X8_28 hL rfl (Nat.succ_ne_zero _) (fun q_26 h_26 => ?_)
          refine e_iload_n dX8_copyToSecond_29 rfl ?_
          refine c_zald (by decide) dX8_copyToSecond_30 h_26 (by omega) (by omega) ?_
          refine e_if_ne (tgt := 41) dX8_copyToSecond_31 (by decide) ⟨by omega, by omega⟩ (fun c_31 => ?_) (fun c_31 => ?_)
          · refine e_iinc (ls2 := [_, _, _, _]) dX8_copyToSecond_41 rfl (Nat.le_of_ble_eq_true rfl) rfl ?_
            refine e_goto (tgt := 2) dX8_copyToSecond_44 (by decide) ?_
            refine e_drop (k := 3) (ls2 := [_, _, _, _]) rfl ?_
            refine ihx _ ?_
            rw [sS]
            first
            | (rw [if_pos (by have v := fi_v hT9 c_22; exact ⟨by omega, by omega⟩)]; exact rc_second hR9 hW9 ⟨by omega, by omega⟩ c_22)
            | (rw [if_neg (by first | (have v := hfz.mp c_22; omega) | (have v := fi_v hT9 c_22; omega)), us_same]; exact hR9)
          · refine e_aload_n dX8_copyToSecond_34 rfl ?_
            refine c_getR (kt := (22, 512, 129)) (by decide) (Or.inl (by decide)) dX8_copyToSecond_35 f_X8_32 hL rfl (Nat.succ_ne_zero _) (fun q_35 h_35 => ?_)
            refine e_iload_n dX8_copyToSecond_38 rfl ?_
            refine e_iconst dX8_copyToSecond_39 ?_
            refine c_zast (by decide) dX8_copyToSecond_40 h_35 (by omega) (by omega) (by decide) (by omega) ?_
            refine e_iinc (ls2 := [_, _, _, _]) dX8_copyToSecond_41 rfl (Nat.le_of_ble_eq_true rfl) rfl ?_
            refine e_goto (tgt := 2) dX8_copyToSecond_44 (by decide) ?_
            refine e_drop (k := 3) (ls2 := [_, _, _, _]) rfl ?_
            refine ihx _ ?_
            rw [sS]
            first
            | (rw [if_pos (by have v := fi_v hT9 c_22; exact ⟨by omega, by omega⟩)]; exact rc_second hR9 hW9 ⟨by omega, by omega⟩ c_22)
            | (rw [if_neg (by first | (have v := hfz.mp c_22; omega) | (have v := fi_v hT9 c_22; omega)), us_same]; exact hR9)
  refine e_iconst dX8_copyToSecond_0 ?_
  refine e_istore_n (ls2 := [_, _, _, _]) dX8_copyToSecond_1 (Nat.le_of_ble_eq_true rfl) rfl ?_
  exact lp (ncut c).toNat 0 C (by omega) hR
set_option maxRecDepth 20000 in
set_option maxHeartbeats 4000000 in
theorem c_8_dropUnneeded {K : q_K} {B C : q_S} {l : Nat} (hL : K l = (9, 0, 105)) (hn8 : 0 ≤ C 105 0 ∧ C 105 0 ≤ 512) (h01 : ∀ i, 0 ≤ i → i < C 105 0 → 0 ≤ C 130 i ∧ C 130 i ≤ 1) (hrg : ∀ i, 0 ≤ i → i < C 105 0 → ((0 ≤ C 126 i ∧ C 126 i < 20000) ∧ 0 ≤ C 127 i ∧ C 127 i ≤ 1500) ∧ (0 ≤ C 128 i ∧ C 128 i ≤ 1) ∧ 0 ≤ C 129 i ∧ C 129 i ≤ 1) : q_E mX8_dropUnneeded 0 [some (q_R l), none, none] [] K B C 0 0 (e_is (none) K B (duC C)) := by
  have lp : ∀ (r k : Nat), k + r = (C 105 0).toNat → q_E mX8_dropUnneeded 4 [some (q_R l), some (q_I (kuE C k).1), some (q_I (k : Int))] [] K B (kuE C k).2 0 0 (e_is (none) K B (duC C)) := by
    intro r
    induction r with
    | zero =>
      intro k h1
      have sp := kuE_sp C k
      have s5 : (kuE C k).2 105 0 = C 105 0 := sp.2.1 105 0 (Or.inr (by decide))
      have sv : ∀ t, (kuE C k).2 t (k : Int) = C t (k : Int) := fun t => sp.2.1 t _ (Or.inl sp.1.2)
      have ek : (C 105 0).toNat = k := by omega
      refine e_iload_n dX8_dropUnneeded_4 rfl ?_
      refine e_aload_n dX8_dropUnneeded_5 rfl ?_
      refine c_getI (by decide) dX8_dropUnneeded_6 f_X8_9 (Or.inl rfl) hL ?_
      rw [s5]
      refine e_icmp_ge (tgt := 78) dX8_dropUnneeded_9 (by decide) ⟨by omega, by omega⟩ ⟨by omega, by omega⟩ (fun c_9 => ?_) (fun c_9 => ?_)
      · refine e_aload_n dX8_dropUnneeded_78 rfl ?_
        refine e_iload_n dX8_dropUnneeded_79 rfl ?_
        refine c_putI (by decide) dX8_dropUnneeded_80 f_X8_9 rfl hL (by decide) ⟨by omega, by omega⟩ ?_
        exact e_ret dX8_dropUnneeded_83 rfl (e_ok rfl rfl (by unfold duC; rw [ek]))
      · exfalso; omega
    | succ r ih =>
      intro k h1
      have sp := kuE_sp C k
      have s5 : (kuE C k).2 105 0 = C 105 0 := sp.2.1 105 0 (Or.inr (by decide))
      have sv : ∀ t, (kuE C k).2 t (k : Int) = C t (k : Int) := fun t => sp.2.1 t _ (Or.inl sp.1.2)
      have hi9 := hrg (k : Int) (by omega) (by omega)
      have hi8 := h01 (k : Int) (by omega) (by omega)
      have ihx := ih (k + 1) (by omega)
      rw [show ((k + 1 : Nat) : Int) = (k : Int) + 1 by omega] at ihx
      simp only [kuE] at ihx
      refine e_iload_n dX8_dropUnneeded_4 rfl ?_
      refine e_aload_n dX8_dropUnneeded_5 rfl ?_
      refine c_getI (by decide) dX8_dropUnneeded_6 f_X8_9 (Or.inl rfl) hL ?_
      rw [s5]
      refine e_icmp_ge (tgt := 78) dX8_dropUnneeded_9 (by decide) ⟨by omega, by omega⟩ ⟨by omega, by omega⟩ (fun c_9 => ?_) (fun c_9 => ?_)
      · exfalso; omega
      · refine e_aload_n dX8_dropUnneeded_12 rfl ?_
        refine c_getR (kt := (22, 512, 130)) (by decide) (Or.inl (by decide)) dX8_dropUnneeded_13 f_X8_35 hL rfl (Nat.succ_ne_zero _) (fun q_13 h_13 => ?_)
        refine e_iload_n dX8_dropUnneeded_16 rfl ?_
        refine c_zald (by decide) dX8_dropUnneeded_17 h_13 (by omega) (by omega) ?_
        rw [sv]
        refine e_if_eq (tgt := 72) dX8_dropUnneeded_18 (by decide) ⟨by omega, by omega⟩ (fun c_18 => ?_) (fun c_18 => ?_)
        · refine e_iinc (ls2 := [_, _, _]) dX8_dropUnneeded_72 rfl (Nat.le_of_ble_eq_true rfl) rfl ?_
          refine e_goto (tgt := 4) dX8_dropUnneeded_75 (by decide) ?_
          first
          | (rw [if_pos c_18] at ihx; unfold c4C at ihx; simp only [sv] at ihx; exact ihx)
          | (rw [if_neg (fun g => g c_18)] at ihx; exact ihx)
          | (rw [if_neg c_18] at ihx; exact ihx)
        · refine e_aload_n dX8_dropUnneeded_21 rfl ?_
          refine c_getR (kt := (20, 512, 126)) (by decide) (Or.inl (by decide)) dX8_dropUnneeded_22 f_X8_21 hL rfl (Nat.succ_ne_zero _) (fun q_22 h_22 => ?_)
          refine e_iload_n dX8_dropUnneeded_25 rfl ?_
          refine e_aload_n dX8_dropUnneeded_26 rfl ?_
          refine c_getR (kt := (20, 512, 126)) (by decide) (Or.inl (by decide)) dX8_dropUnneeded_27 f_X8_21 hL rfl (Nat.succ_ne_zero _) (fun q_27 h_27 => ?_)
          refine e_iload_n dX8_dropUnneeded_30 rfl ?_
          refine c_iald (by decide) dX8_dropUnneeded_31 h_27 (by omega) (by omega) ?_
          rw [sv]
          refine c_iast (by decide) dX8_dropUnneeded_32 h_22 (by omega) (by omega) (by decide) ⟨by omega, by omega⟩ ?_
          refine e_aload_n dX8_dropUnneeded_33 rfl ?_
          refine c_getR (kt := (20, 512, 127)) (by decide) (Or.inl (by decide)) dX8_dropUnneeded_34 f_X8_25 hL rfl (Nat.succ_ne_zero _) (fun q_34 h_34 => ?_)
          refine e_iload_n dX8_dropUnneeded_37 rfl ?_
          refine e_aload_n dX8_dropUnneeded_38 rfl ?_
          refine c_getR (kt := (20, 512, 127)) (by decide) (Or.inl (by decide)) dX8_dropUnneeded_39 f_X8_25 hL rfl (Nat.succ_ne_zero _) (fun q_39 h_39 => ?_)
          refine e_iload_n dX8_dropUnneeded_42 rfl ?_
          refine c_iald (by decide) dX8_dropUnneeded_43 h_39 (by omega) (by omega) ?_
          try simp only [q_us_ap, editsF_3, Int.reduceEq, Int.reduceNeg, false_and, and_false, and_self, if_true, if_false, true_and, and_true, ite_self]
          rw [sv]
          refine c_iast (by decide) dX8_dropUnneeded_44 h_34 (by omega) (by omega) (by decide) ⟨by omega, by omega⟩ ?_
          refine e_aload_n dX8_dropUnneeded_45 rfl ?_
          refine c_getR (kt := (22, 512, 128)) (by decide) (Or.inl (by decide)) dX8_dropUnneeded_46 f_X8_28 hL rfl (Nat.succ_ne_zero _) (fun q_46 h_46 => ?_)
          refine e_iload_n dX8_dropUnneeded_49 rfl ?_
          refine e_aload_n dX8_dropUnneeded_50 rfl ?_
          refine c_getR (kt := (22, 512, 128)) (by decide) (Or.inl (by decide)) dX8_dropUnneeded_51 f_X8_28 hL rfl (Nat.succ_ne_zero _) (fun q_51 h_51 => ?_)
          refine e_iload_n dX8_dropUnneeded_54 rfl ?_
          refine c_zald (by decide) dX8_dropUnneeded_55 h_51 (by omega) (by omega) ?_
          try simp only [q_us_ap, editsF_3, Int.reduceEq, Int.reduceNeg, false_and, and_false, and_self, if_true, if_false, true_and, and_true, ite_self]
          rw [sv]
          refine c_zast (by decide) dX8_dropUnneeded_56 h_46 (by omega) (by omega) (by decide) (by omega) ?_
          refine e_aload_n dX8_dropUnneeded_57 rfl ?_
          refine c_getR (kt := (22, 512, 129)) (by decide) (Or.inl (by decide)) dX8_dropUnneeded_58 f_X8_32 hL rfl (Nat.succ_ne_zero _) (fun q_58 h_58 => ?_)
          refine e_iload_n dX8_dropUnneeded_61 rfl ?_
          refine e_aload_n dX8_dropUnneeded_62 rfl ?_
          refine c_getR (kt := (22, 512, 129)) (by decide) (Or.inl (by decide)) dX8_dropUnneeded_63 f_X8_32 hL rfl (Nat.succ_ne_zero _) (fun q_63 h_63 => ?_)
          refine e_iload_n dX8_dropUnneeded_66 rfl ?_
          refine c_zald (by decide) dX8_dropUnneeded_67 h_63 (by omega) (by omega) ?_
          try simp only [q_us_ap, editsF_3, Int.reduceEq, Int.reduceNeg, false_and, and_false, and_self, if_true, if_false, true_and, and_true, ite_self]
          rw [sv]
          refine c_zast (by decide) dX8_dropUnneeded_68 h_58 (by omega) (by omega) (by decide) (by omega) ?_
          refine e_iinc (ls2 := [_, _, _]) dX8_dropUnneeded_69 rfl (Nat.le_of_ble_eq_true rfl) rfl ?_
          refine e_iinc (ls2 := [_, _, _]) dX8_dropUnneeded_72 rfl (Nat.le_of_ble_eq_true rfl) rfl ?_
          refine e_goto (tgt := 4) dX8_dropUnneeded_75 (by decide) ?_
          first
          | (rw [if_pos c_18] at ihx; unfold c4C at ihx; simp only [sv] at ihx; exact ihx)
          | (rw [if_neg (fun g => g c_18)] at ihx; exact ihx)
          | (rw [if_neg c_18] at ihx; exact ihx)
  refine e_iconst dX8_dropUnneeded_0 ?_
  refine e_istore_n (ls2 := [_, _, _]) dX8_dropUnneeded_1 (Nat.le_of_ble_eq_true rfl) rfl ?_
  refine e_iconst dX8_dropUnneeded_2 ?_
  refine e_istore_n (ls2 := [_, _, _]) dX8_dropUnneeded_3 (Nat.le_of_ble_eq_true rfl) rfl ?_
  exact lp (C 105 0).toNat 0 (by omega)
