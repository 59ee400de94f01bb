set_option maxRecDepth 20000 in
set_option maxHeartbeats 4000000 in
theorem c_10_needNoted {K : q_K} {B M C : q_S} {a : Nat} (hT : K a = (11, 0, 100)) {x : Nat} {m : Int} (hx : K x = (7, 0, 110 + m)) (hm : 0 ≤ m ∧ m ≤ 2) (hR : RC M C) (hI : MI M) (hW : WR M) : q_E mX10_needNotedContents 0 [some (q_R a), some (q_R x), none, none] [] K B C 0 0 (e_is (none) K B (nnC M C m (ntF M m 16).toNat)) := by
  have h16 := rs_16 hW
  have hnt := ntF_rg M m 16
  have rl := rc_L hR m hm.1 hm.2
  have lp : ∀ (r k : Nat), k + r = (ntF M m 16).toNat → q_E mX10_needNotedContents 2 [some (q_R a), some (q_R x), some (q_I (k : Int)), none] [] K B (nnC M C m k) 0 0 (e_is (none) K B (nnC M C m (ntF M m 16).toNat)) := by
    intro r
    induction r with
    | zero =>
      intro k h1
      have hR9 : RC M (nnC M C m k) := rc_130 hR h16.1 (fun t i g => nnC_o g k)
      have s19 : (nnC M C m k) (150 + m) (k : Int) = (C (150 + m) (k : Int)) := nnC_o (by omega) k
      have ek : (ntF M m 16).toNat = k := by omega
      refine e_iload_n dX10_needNotedContents_2 rfl ?_
      refine e_aload_n dX10_needNotedContents_3 rfl ?_
      refine c_getI (by omega) dX10_needNotedContents_4 f_X10_138 (Or.inl rfl) hx ?_
      rw [rm_2 hR9 (m := m) ⟨by omega, by omega⟩]
      have g_4 := ntF_rg M m 16
      refine e_icmp_ge (tgt := 47) dX10_needNotedContents_7 (by decide) ⟨by omega, by omega⟩ ⟨by omega, by omega⟩ (fun c_7 => ?_) (fun c_7 => ?_)
      · exact e_ret dX10_needNotedContents_47 rfl (e_ok rfl rfl (by rw [ek]))
      · exfalso; omega
    | succ r ih =>
      intro k h1
      have hR9 : RC M (nnC M C m k) := rc_130 hR h16.1 (fun t i g => nnC_o g k)
      have s19 : (nnC M C m k) (150 + m) (k : Int) = (C (150 + m) (k : Int)) := nnC_o (by omega) k
      have r2 := rl.2.1 (k : Int) (by omega) (by omega)
      have ihx := ih (k + 1) (by omega)
      rw [show ((k + 1 : Nat) : Int) = (k : Int) + 1 by omega] at ihx
      simp only [nnC] at ihx
      refine e_iload_n dX10_needNotedContents_2 rfl ?_
      refine e_aload_n dX10_needNotedContents_3 rfl ?_
      refine c_getI (by omega) dX10_needNotedContents_4 f_X10_138 (Or.inl rfl) hx ?_
      rw [rm_2 hR9 (m := m) ⟨by omega, by omega⟩]
      have g_4 := ntF_rg M m 16
      refine e_icmp_ge (tgt := 47) dX10_needNotedContents_7 (by decide) ⟨by omega, by omega⟩ ⟨by omega, by omega⟩ (fun c_7 => ?_) (fun c_7 => ?_)
      · exfalso; omega
      · refine e_aload_n dX10_needNotedContents_10 rfl ?_
        refine c_getR (kt := (31, 16, (140 + m))) (by omega) (Or.inl (by omega)) dX10_needNotedContents_11 f_X10_105 hx (kl_c ⟨by omega, by omega⟩) (Nat.succ_ne_zero _) (fun q_11 h_11 => ?_)
        refine e_aload_n dX10_needNotedContents_14 rfl ?_
        refine c_getR (kt := (20, 16, (150 + m))) (by omega) (Or.inl (by omega)) dX10_needNotedContents_15 f_X10_162 hx (kl_l ⟨by omega, by omega⟩) (Nat.succ_ne_zero _) (fun q_15 h_15 => ?_)
        refine e_iload_n dX10_needNotedContents_18 rfl ?_
        refine c_iald (by omega) dX10_needNotedContents_19 h_15 (by omega) (by omega) ?_
        rw [s19]
        refine c_aald (ci := 1) (kt := (2, 0, (200 + (16 * m + (C (150 + m) (k : Int)))))) (by omega) (Or.inl (by omega)) dX10_needNotedContents_20 h_11 (by decide) (by omega) (by omega) (kl_p ⟨by omega, by omega⟩ ⟨by omega, by omega⟩) (Nat.succ_ne_zero _) (fun q_20 h_20 => ?_)
        refine e_astore_n (ls2 := [_, _, _, _]) dX10_needNotedContents_21 (Nat.le_of_ble_eq_true rfl) rfl ?_
        refine e_aload_n dX10_needNotedContents_22 rfl ?_
        refine c_getI (by omega) dX10_needNotedContents_23 f_X10_109 (Or.inl rfl) h_20 ?_
        rw [rp_0 hR9 (p := (16 * m + (C (150 + m) (k : Int)))) ⟨by omega, by omega⟩]
        have g_23 : 0 ≤ M 2 (16 * m + (C (150 + m) (k : Int))) ∧ M 2 (16 * m + (C (150 + m) (k : Int))) ≤ 2 := hW 2 (16 * m + (C (150 + m) (k : Int)))
        refine e_iconst dX10_needNotedContents_26 ?_
        refine e_icmp_ne (tgt := 41) dX10_needNotedContents_27 (by decide) ⟨by omega, by omega⟩ ⟨by omega, by omega⟩ (fun c_27 => ?_) (fun c_27 => ?_)
        · refine e_iinc (ls2 := [_, _, _, _]) dX10_needNotedContents_41 rfl (Nat.le_of_ble_eq_true rfl) rfl ?_
          refine e_goto (tgt := 2) dX10_needNotedContents_44 (by decide) ?_
          refine e_drop (k := 3) (ls2 := [_, _, _, _]) rfl ?_
          first
          | (rw [if_pos c_27] at ihx; exact ihx)
          | (rw [if_neg c_27] at ihx; exact ihx)
        · refine e_aload_n dX10_needNotedContents_30 rfl ?_
          refine c_getR (kt := (9, 0, 105)) (by decide) (Or.inl (by decide)) dX10_needNotedContents_31 f_X10_29 hT rfl (Nat.succ_ne_zero _) (fun q_31 h_31 => ?_)
          refine e_aload_n dX10_needNotedContents_34 rfl ?_
          have hv_35 : vcode (M 3 (16 * m + (C (150 + m) (k : Int)))) := mi_3 hI ⟨by omega, by omega⟩
          have hg_35 := hv_35.1
          refine c_getR (kt := (1, 0, (1000000 + 3 * M 3 (16 * m + (C (150 + m) (k : Int)))))) (by omega) (Or.inl (by omega)) dX10_needNotedContents_35 f_X10_165 h_20 (kl_pc ⟨by omega, by omega⟩ (by omega) (rp_2 hR9 ⟨by omega, by omega⟩)) (Nat.succ_ne_zero _) (fun q_35 h_35 => ?_)
          refine e_cV (as := [_]) (ci := 8) dX10_needNotedContents_38 k_X8_need l_X10_401 i_X8_need v_X8_need h_31 rfl (by decide) ⟨_, _, rfl⟩ rfl rfl rfl rfl (Nat.le_of_ble_eq_true rfl) ⟨by decide, by decide⟩ (Nat.le_of_ble_eq_true rfl) (by decide) (c_8_need h_31 h_35 hv_35 hR9 hI hW) ?_
          refine e_iinc (ls2 := [_, _, _, _]) dX10_needNotedContents_41 rfl (Nat.le_of_ble_eq_true rfl) rfl ?_
          refine e_goto (tgt := 2) dX10_needNotedContents_44 (by decide) ?_
          refine e_drop (k := 3) (ls2 := [_, _, _, _]) rfl ?_
          first
          | (rw [if_pos c_27] at ihx; exact ihx)
          | (rw [if_neg c_27] at ihx; exact ihx)
  refine e_iconst dX10_needNotedContents_0 ?_
  refine e_istore_n (ls2 := [_, _, _, _]) dX10_needNotedContents_1 (Nat.le_of_ble_eq_true rfl) rfl ?_
  exact lp (ntF M m 16).toNat 0 (by omega)
set_option maxRecDepth 20000 in
set_option maxHeartbeats 4000000 in
theorem c_10_dropPieces {K : q_K} {B M C : q_S} {a : Nat} (hT : K a = (11, 0, 100)) (hR : RC M C) (hI : MI M) (hW : WR M) : q_E mX10_dropPieces 0 [some (q_R a), none, none] [] K B C 0 0 (e_is (none) K B (dpC M C)) := by
  have h16 := rs_16 hW
  have hT0 := rc_T hR
  have hn8 := rt_n hT0
  have hhi := st_hi hT0 hW
  have f0 : ∀ t i, t ≠ 130 → (pwC C 130 0 (fun _ => 1) (C 105 0).toNat) t i = C t i := fun t i g => pw_o (Or.inl g)
  have f1 : ∀ t i, t ≠ 130 → (nvC M (pwC C 130 0 (fun _ => 1) (C 105 0).toNat) (M 50 16).toNat) t i = C t i := fun t i g => by rw [nvC_o g]; exact f0 t i g
  have f2 : ∀ t i, t ≠ 130 → (nmC M (nvC M (pwC C 130 0 (fun _ => 1) (C 105 0).toNat) (M 50 16).toNat) 3) t i = C t i := fun t i g => by rw [nmC_o g]; exact f1 t i g
  have lp2 : ∀ (r k : Nat), k + r = 3 → q_E mX10_dropPieces 55 [some (q_R a), some (q_I (k : Int)), none] [] K B (nmC M (nvC M (pwC C 130 0 (fun _ => 1) (C 105 0).toNat) (M 50 16).toNat) k) 0 0 (e_is (none) K B (dpC M C)) := by
    intro r
    induction r with
    | zero =>
      intro k h1
      have ek : k = 3 := by omega
      subst ek
      have hR9 : RC M (nmC M (nvC M (pwC C 130 0 (fun _ => 1) (C 105 0).toNat) (M 50 16).toNat) 3) := rc_130 hR h16.1 f2
      refine e_iload_n dX10_dropPieces_55 rfl ?_
      refine e_iconst dX10_dropPieces_56 ?_
      refine e_icmp_ge (tgt := 76) dX10_dropPieces_57 (by decide) ⟨by omega, by omega⟩ ⟨by omega, by omega⟩ (fun c_57 => ?_) (fun c_57 => ?_)
      · refine e_aload_n dX10_dropPieces_76 rfl ?_
        refine c_getR (kt := (9, 0, 105)) (by decide) (Or.inl (by decide)) dX10_dropPieces_77 f_X10_29 hT rfl (Nat.succ_ne_zero _) (fun q_77 h_77 => ?_)
        refine e_cV (as := []) (ci := 8) dX10_dropPieces_80 k_X8_dropUnneeded l_X10_408 i_X8_dropUnneeded v_X8_dropUnneeded h_77 rfl (by decide) ⟨_, _, rfl⟩ rfl rfl rfl rfl (Nat.le_of_ble_eq_true rfl) ⟨by decide, by decide⟩ (Nat.le_of_ble_eq_true rfl) (by decide) (c_8_dropUnneeded h_77 (by rw [f2 105 0 (by decide)]; exact hn8) (fun i a b => nmC_01 (nvC_01 (by rw [f2 105 0 (by decide)] at b; rw [show (pwC C 130 0 (fun _ => 1) (C 105 0).toNat) 130 i = 0 from if_pos ⟨rfl, by omega, show ¬ (1 : Int) = 0 by decide⟩]; exact ⟨by decide, by decide⟩) _) _) (fun i a b => by rw [f2 105 0 (by decide)] at b; rw [f2 126 i (by decide), f2 127 i (by decide), f2 128 i (by decide), f2 129 i (by decide)]; have g := hhi i a b; exact ⟨⟨(rt_i hT0 ⟨a, b⟩).1, g.1⟩, g.2.1, g.2.2⟩)) ?_
        exact e_ret dX10_dropPieces_83 rfl (e_ok rfl rfl rfl)
      · exfalso; omega
    | succ r ih =>
      intro k h1
      have hR9 : RC M (nmC M (nvC M (pwC C 130 0 (fun _ => 1) (C 105 0).toNat) (M 50 16).toNat) k) := rc_130 hR h16.1 (fun t i g => by rw [nmC_o g]; exact f1 t i g)
      have ihx := ih (k + 1) (by omega)
      rw [show ((k + 1 : Nat) : Int) = (k : Int) + 1 by omega] at ihx
      simp only [nmC] at ihx
      refine e_iload_n dX10_dropPieces_55 rfl ?_
      refine e_iconst dX10_dropPieces_56 ?_
      refine e_icmp_ge (tgt := 76) dX10_dropPieces_57 (by decide) ⟨by omega, by omega⟩ ⟨by omega, by omega⟩ (fun c_57 => ?_) (fun c_57 => ?_)
      · exfalso; omega
      · refine e_aload_n dX10_dropPieces_60 rfl ?_
        refine e_aload_n dX10_dropPieces_61 rfl ?_
        refine c_getR (kt := (36, 3, 102)) (by decide) (Or.inl (by decide)) dX10_dropPieces_62 f_X10_15 hT rfl (Nat.succ_ne_zero _) (fun q_62 h_62 => ?_)
        refine e_iload_n dX10_dropPieces_65 rfl ?_
        refine c_aald (ci := 6) (kt := (7, 0, (110 + (k : Int)))) (by decide) (Or.inl (by decide)) dX10_dropPieces_66 h_62 (by decide) (by omega) (by omega) (kl_m ⟨by omega, by omega⟩) (Nat.succ_ne_zero _) (fun q_66 h_66 => ?_)
        refine e_cV (as := [_]) (ci := 10) dX10_dropPieces_67 k_X10_needNotedContents l_X10_404 i_X10_needNotedContents v_X10_needNotedContents hT rfl (by decide) ⟨_, _, rfl⟩ rfl rfl rfl rfl (Nat.le_of_ble_eq_true rfl) ⟨by decide, by decide⟩ (Nat.le_of_ble_eq_true rfl) (by decide) (c_10_needNoted hT h_66 ⟨by omega, by omega⟩ hR9 hI hW) ?_
        refine e_iinc (ls2 := [_, _, _]) dX10_dropPieces_70 rfl (Nat.le_of_ble_eq_true rfl) rfl ?_
        refine e_goto (tgt := 55) dX10_dropPieces_73 (by decide) ?_
        exact ihx
  have lp1 : ∀ (r k : Nat), k + r = (M 50 16).toNat → q_E mX10_dropPieces 9 [some (q_R a), some (q_I (k : Int)), none] [] K B (nvC M (pwC C 130 0 (fun _ => 1) (C 105 0).toNat) k) 0 0 (e_is (none) K B (dpC M C)) := by
    intro r
    induction r with
    | zero =>
      intro k h1
      have ek : k = (M 50 16).toNat := by omega
      subst ek
      have hR9 : RC M (nvC M (pwC C 130 0 (fun _ => 1) (C 105 0).toNat) (M 50 16).toNat) := rc_130 hR h16.1 f1
      refine e_iload_n dX10_dropPieces_9 rfl ?_
      refine e_aload_n dX10_dropPieces_10 rfl ?_
      refine c_getR (kt := (6, 0, 104)) (by decide) (Or.inl (by decide)) dX10_dropPieces_11 f_X10_83 hT rfl (Nat.succ_ne_zero _) (fun q_11 h_11 => ?_)
      refine c_getI (by decide) dX10_dropPieces_14 f_X10_159 (Or.inl rfl) h_11 ?_
      rw [rs_made hR9]
      have g_14 := rs_16 hW
      refine e_icmp_ge (tgt := 53) dX10_dropPieces_17 (by decide) ⟨by omega, by omega⟩ ⟨by omega, by omega⟩ (fun c_17 => ?_) (fun c_17 => ?_)
      · refine e_iconst dX10_dropPieces_53 ?_
        refine e_istore_n (ls2 := [_, _, _]) dX10_dropPieces_54 (Nat.le_of_ble_eq_true rfl) rfl ?_
        exact lp2 3 0 (by omega)
      · exfalso; omega
    | succ r ih =>
      intro k h1
      have hR9 : RC M (nvC M (pwC C 130 0 (fun _ => 1) (C 105 0).toNat) k) := rc_130 hR h16.1 (fun t i g => by rw [nvC_o g]; exact f0 t i g)
      have hvt := vtag_rg (v := (k : Int)) (by omega)
      have g22 : 0 ≤ M 22 (k : Int) ∧ M 22 (k : Int) ≤ 1 := hW 22 _
      have evc : vco M (k : Int) = M 21 (k : Int) := by unfold vco; rw [if_neg (by omega)]
      have ihx := ih (k + 1) (by omega)
      rw [show ((k + 1 : Nat) : Int) = (k : Int) + 1 by omega] at ihx
      simp only [nvC] at ihx
      rw [← evc] at ihx
      refine e_iload_n dX10_dropPieces_9 rfl ?_
      refine e_aload_n dX10_dropPieces_10 rfl ?_
      refine c_getR (kt := (6, 0, 104)) (by decide) (Or.inl (by decide)) dX10_dropPieces_11 f_X10_83 hT rfl (Nat.succ_ne_zero _) (fun q_11 h_11 => ?_)
      refine c_getI (by decide) dX10_dropPieces_14 f_X10_159 (Or.inl rfl) h_11 ?_
      rw [rs_made hR9]
      have g_14 := rs_16 hW
      refine e_icmp_ge (tgt := 53) dX10_dropPieces_17 (by decide) ⟨by omega, by omega⟩ ⟨by omega, by omega⟩ (fun c_17 => ?_) (fun c_17 => ?_)
      · exfalso; omega
      · refine e_aload_n dX10_dropPieces_20 rfl ?_
        refine c_getR (kt := (6, 0, 104)) (by decide) (Or.inl (by decide)) dX10_dropPieces_21 f_X10_83 hT rfl (Nat.succ_ne_zero _) (fun q_21 h_21 => ?_)
        refine e_iload_n dX10_dropPieces_24 rfl ?_
        refine e_cVR (as := [_]) (ci := 5) (kr := (10, 0, (vtag (k : Int)))) dX10_dropPieces_25 k_X5_at l_X10_186 i_X5_at v_X5_at h_21 rfl (by decide) ⟨_, _, rfl⟩ rfl rfl rfl rfl (Nat.le_of_ble_eq_true rfl) ⟨by decide, by decide⟩ (Nat.le_of_ble_eq_true rfl) (by decide) (c_5_at h_21 hR9 hI hW ⟨by omega, by omega⟩) (fun q_25 h_25 => ?_)
        refine e_astore_n (ls2 := [_, _, _]) dX10_dropPieces_28 (Nat.le_of_ble_eq_true rfl) rfl ?_
        refine e_aload_n dX10_dropPieces_29 rfl ?_
        refine c_getI (by have := vtag_rg (v := (k : Int)) (by omega); omega) dX10_dropPieces_30 f_X10_241 (Or.inr rfl) h_25 ?_
        rw [rw_5 hR9 (v := (k : Int)) ⟨by omega, by omega⟩]
        have g_30 : 0 ≤ M 22 (k : Int) ∧ M 22 (k : Int) ≤ 1 := hW 22 (k : Int)
        refine e_if_eq (tgt := 47) dX10_dropPieces_33 (by decide) ⟨by omega, by omega⟩ (fun c_33 => ?_) (fun c_33 => ?_)
        · refine e_iinc (ls2 := [_, _, _]) dX10_dropPieces_47 rfl (Nat.le_of_ble_eq_true rfl) rfl ?_
          refine e_goto (tgt := 9) dX10_dropPieces_50 (by decide) ?_
          refine e_drop (k := 2) (ls2 := [_, _, _]) rfl ?_
          first
          | (rw [if_pos (by omega)] at ihx; exact ihx)
          | (rw [if_neg (by omega)] at ihx; exact ihx)
        · refine e_aload_n dX10_dropPieces_36 rfl ?_
          refine c_getR (kt := (9, 0, 105)) (by decide) (Or.inl (by decide)) dX10_dropPieces_37 f_X10_29 hT rfl (Nat.succ_ne_zero _) (fun q_37 h_37 => ?_)
          refine e_aload_n dX10_dropPieces_40 rfl ?_
          have hv_41 : vcode (vco M (k : Int)) := vco_ok hI ⟨by omega, by omega⟩
          have hg_41 := hv_41.1
          refine c_getR (kt := (1, 0, (1000000 + 3 * vco M (k : Int)))) (by have := vtag_rg (v := (k : Int)) (by omega); omega) (Or.inl (by have := vtag_rg (v := (k : Int)) (by omega); omega)) dX10_dropPieces_41 f_X10_269 h_25 (kl_vc ⟨by omega, by omega⟩ (by omega) (rv_4 hR9 ⟨by omega, by omega⟩)) (Nat.succ_ne_zero _) (fun q_41 h_41 => ?_)
          refine e_cV (as := [_]) (ci := 8) dX10_dropPieces_44 k_X8_need l_X10_401 i_X8_need v_X8_need h_37 rfl (by decide) ⟨_, _, rfl⟩ rfl rfl rfl rfl (Nat.le_of_ble_eq_true rfl) ⟨by decide, by decide⟩ (Nat.le_of_ble_eq_true rfl) (by decide) (c_8_need h_37 h_41 hv_41 hR9 hI hW) ?_
          refine e_iinc (ls2 := [_, _, _]) dX10_dropPieces_47 rfl (Nat.le_of_ble_eq_true rfl) rfl ?_
          refine e_goto (tgt := 9) dX10_dropPieces_50 (by decide) ?_
          refine e_drop (k := 2) (ls2 := [_, _, _]) rfl ?_
          first
          | (rw [if_pos (by omega)] at ihx; exact ihx)
          | (rw [if_neg (by omega)] at ihx; exact ihx)
  refine e_aload_n dX10_dropPieces_0 rfl ?_
  refine c_getR (kt := (9, 0, 105)) (by decide) (Or.inl (by decide)) dX10_dropPieces_1 f_X10_29 hT rfl (Nat.succ_ne_zero _) (fun q_1 h_1 => ?_)
  refine e_cV (as := []) (ci := 8) dX10_dropPieces_4 k_X8_needNothing l_X10_398 i_X8_needNothing v_X8_needNothing h_1 rfl (by decide) ⟨_, _, rfl⟩ rfl rfl rfl rfl (Nat.le_of_ble_eq_true rfl) ⟨by decide, by decide⟩ (Nat.le_of_ble_eq_true rfl) (by decide) (c_8_needNothing h_1 hn8) ?_
  refine e_iconst dX10_dropPieces_7 ?_
  refine e_istore_n (ls2 := [_, _, _]) dX10_dropPieces_8 (Nat.le_of_ble_eq_true rfl) rfl ?_
  exact lp1 (M 50 16).toNat 0 (by omega)
