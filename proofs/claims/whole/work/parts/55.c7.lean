set_option maxRecDepth 20000 in
set_option maxHeartbeats 4000000 in
theorem c_10_sendEvent {K : q_K} {B M C : q_S} {a : Nat} (hT : K a = (11, 0, 100)) (hR : RC M C) (hI : MI M) (hW : WR M) {m f : Int} (hm : 0 ≤ m ∧ m ≤ 2) (hf : 0 ≤ f ∧ f ≤ 15) (hev : M 50 13 < 512) : q_E mX10_sendEvent 0 [some (q_R a), some (q_I m), some (q_I f), none] [] K B C 0 0 (e_is (none) K B (seC M C m f)) := by
  have h01 := rs_1 hW
  have h13 := (rc_E hR).1
  refine e_aload_n dX10_sendEvent_0 rfl ?_
  refine c_getR (kt := (36, 3, 102)) (by decide) (Or.inl (by decide)) dX10_sendEvent_1 f_X10_15 hT rfl (Nat.succ_ne_zero _) (fun q_1 h_1 => ?_)
  refine e_iload_n dX10_sendEvent_4 rfl ?_
  refine c_aald (ci := 6) (kt := (7, 0, (110 + m))) (by decide) (Or.inl (by decide)) dX10_sendEvent_5 h_1 (by decide) (by omega) (by omega) (kl_m ⟨by omega, by omega⟩) (Nat.succ_ne_zero _) (fun q_5 h_5 => ?_)
  refine c_getI (by omega) dX10_sendEvent_6 f_X10_131 (Or.inl rfl) h_5 ?_
  rw [rm_3 hR (m := m) ⟨by omega, by omega⟩]
  have g_6 : 0 ≤ M 11 m ∧ M 11 m ≤ 50 := hW 11 m
  refine e_istore_n (ls2 := [_, _, _, _]) dX10_sendEvent_9 (Nat.le_of_ble_eq_true rfl) rfl ?_
  refine e_iload_n dX10_sendEvent_10 rfl ?_
  refine e_if_ne (tgt := 27) dX10_sendEvent_11 (by decide) ⟨by omega, by omega⟩ (fun c_11 => ?_) (fun c_11 => ?_)
  · refine e_aload_n dX10_sendEvent_27 rfl ?_
    refine c_getR (kt := (3, 0, 103)) (by decide) (Or.inl (by decide)) dX10_sendEvent_28 f_X10_22 hT rfl (Nat.succ_ne_zero _) (fun q_28 h_28 => ?_)
    refine e_iload_n dX10_sendEvent_31 rfl ?_
    refine e_iload_n dX10_sendEvent_32 rfl ?_
    refine e_aload_n dX10_sendEvent_33 rfl ?_
    refine c_getI (by decide) dX10_sendEvent_34 f_X10_58 (Or.inl rfl) hT ?_
    rw [rs_now hR]
    have g_34 := rs_1 hW
    refine e_iload_n dX10_sendEvent_37 rfl ?_
    refine e_iadd dX10_sendEvent_38 ?_
    refine e_cV (as := [_, _, _]) (ci := 2) dX10_sendEvent_39 k_X2_add l_X10_336 i_X2_add v_X2_add h_28 rfl (by decide) ⟨_, _, rfl⟩ rfl rfl rfl rfl (Nat.le_of_ble_eq_true rfl) ⟨by decide, by decide⟩ (Nat.le_of_ble_eq_true rfl) (by decide) (c_2_add h_28 (rc_E hR) hW (by omega) hm hf ⟨by omega, by omega⟩) ?_
    exact e_ret dX10_sendEvent_42 rfl (e_ok rfl rfl (by unfold seC; first | rw [if_pos c_11] | rw [if_neg c_11]))
  · refine e_aload_n dX10_sendEvent_14 rfl ?_
    refine c_getR (kt := (36, 3, 102)) (by decide) (Or.inl (by decide)) dX10_sendEvent_15 f_X10_15 hT rfl (Nat.succ_ne_zero _) (fun q_15 h_15 => ?_)
    refine e_iload_n dX10_sendEvent_18 rfl ?_
    refine c_aald (ci := 6) (kt := (7, 0, (110 + m))) (by decide) (Or.inl (by decide)) dX10_sendEvent_19 h_15 (by decide) (by omega) (by omega) (kl_m ⟨by omega, by omega⟩) (Nat.succ_ne_zero _) (fun q_19 h_19 => ?_)
    refine e_iload_n dX10_sendEvent_20 rfl ?_
    refine e_cV (as := [_]) (ci := 6) dX10_sendEvent_21 k_X6_note l_X10_145 i_X6_note v_X6_note h_19 rfl (by decide) ⟨_, _, rfl⟩ rfl rfl rfl rfl (Nat.le_of_ble_eq_true rfl) ⟨by decide, by decide⟩ (Nat.le_of_ble_eq_true rfl) (by decide) (c_6_note h_19 hm (rc_L hR) hW hf) ?_
    refine e_goto (tgt := 42) dX10_sendEvent_24 (by decide) ?_
    exact e_ret dX10_sendEvent_42 rfl (e_ok rfl rfl (by unfold seC; first | rw [if_pos c_11] | rw [if_neg c_11]))
theorem rc_lose {M C : q_S} (h : RC M C) (hW : WR M) (m : Int) : RC (loF (thr M 0) m (M 50 13).toNat).2 (doC C m) := by
  have g := (re_lose (M := thr M 0) (RE_fr (rc_E h) (fun _ => rfl) (fun _ => rfl) rfl rfl (fun _ => rfl) (fun _ => rfl) (fun _ => rfl)) m).1
  have lo := loF_sp (thr M 0) m (M 50 13).toNat
  refine rc_fr_E h (rs_16 hW).1 (fun t j x => ?_) (fun t j x => ?_) g
  · rw [lo.1, if_neg (by omega)]; simp only [q_us_ap]; rw [if_neg (by omega)]
  · unfold doC; simp only [q_us_ap]; rw [if_neg (by omega)]; exact (kpE_sp C m _).2.1 t j (Or.inr (by omega))
theorem lose_41 (M : q_S) (m : Int) (k : Nat) : (loF (thr M 0) m k).2 50 41 = 0 ∧ (loF (thr M 0) m k).2 50 16 = M 50 16 := by
  have lo := loF_sp (thr M 0) m k
  exact ⟨by rw [lo.1, if_neg (by omega)]; rfl, by rw [lo.1, if_neg (by omega)]; rfl⟩
set_option maxRecDepth 20000 in
set_option maxHeartbeats 4000000 in
theorem c_10_lose {K : q_K} {B M C : q_S} {a : Nat} (hT : K a = (11, 0, 100)) (hR : RC M C) (hI : MI M) (hW : WR M) (hB : q_tb K (M 50 16)) {c s : Nat} (hc : 1 ≤ c) (hs : 6 ≤ s) {m : Int} (hm : q_iI m) (hev : M 50 13 ≤ 512) : q_E mX10_lose 0 [some (q_R a), some (q_I m)] [] K B C c s (PB (loseF M m) "java/lang/IndexOutOfBoundsException" "" "" K B) := by
  have h13 := (rc_E hR).1
  have hm1 := hm.1
  have hm2 := hm.2
  by_cases e0 : 0 ≤ m ∧ m < 3
  · refine e_iload_n dX10_lose_0 rfl ?_
    refine e_iconst dX10_lose_1 ?_
    refine e_cS (as := [_, _]) dX10_lose_2 k_X10_needIndex l_X10_99 s_X10_needIndex rfl rfl rfl rfl (Nat.le_of_ble_eq_true rfl) ⟨by decide, by decide⟩ (Nat.le_of_ble_eq_true rfl) (by decide) (c_nI1 hm ⟨by decide, by decide⟩ (by omega)) ?_
    refine e_aload_n dX10_lose_5 rfl ?_
    refine c_getR (kt := (3, 0, 103)) (by decide) (Or.inl (by decide)) dX10_lose_6 f_X10_22 hT rfl (Nat.succ_ne_zero _) (fun q_6 h_6 => ?_)
    refine e_iload_n dX10_lose_9 rfl ?_
    refine e_cV (as := [_]) (ci := 2) dX10_lose_10 k_X2_dropOf l_X10_134 i_X2_dropOf v_X2_dropOf h_6 rfl (by decide) ⟨_, _, rfl⟩ rfl rfl rfl rfl (Nat.le_of_ble_eq_true rfl) ⟨by decide, by decide⟩ (Nat.le_of_ble_eq_true rfl) (by decide) (c_2_dropOf h_6 (rc_E hR) hW (by omega) ⟨by omega, by omega⟩) ?_
    exact e_iret dX10_lose_13 (Or.inl rfl) (pbm0 (X := (loF (thr M 0) m (M 50 13).toNat).2) (by unfold loseF; rw [if_neg (by omega)]; exact Prod.ext (re_lose (M := thr M 0) (RE_fr (rc_E hR) (fun _ => rfl) (fun _ => rfl) rfl rfl (fun _ => rfl) (fun _ => rfl) (fun _ => rfl)) m).2 rfl) (by rw [(lose_41 M m _).2]; exact hB) (lose_41 M m _).1 (rc_lose hR hW m))
  · refine e_iload_n dX10_lose_0 rfl ?_
    refine e_iconst dX10_lose_1 ?_
    exact e_cST (as := [_, _]) dX10_lose_2 k_X10_needIndex l_X10_99 s_X10_needIndex rfl rfl rfl rfl (Nat.le_of_ble_eq_true rfl) ⟨by decide, by decide⟩ (Nat.le_of_ble_eq_true rfl) (by decide) (c_nI0 hm ⟨by decide, by decide⟩ hc hs (by omega)) (pbq1 hB hR (by unfold loseF; rw [if_pos (by omega)]))
def puC (C : q_S) (p st fo c : Int) : q_S := q_us (q_us (q_us C (200 + p) 0 st) (200 + p) 1 fo) (200 + p) 2 (1000000 + 3 * c)
theorem puC_ap {C : q_S} {p st fo c t j : Int} : puC C p st fo c t j = if t = 200 + p ∧ j = 2 then 1000000 + 3 * c else if t = 200 + p ∧ j = 1 then fo else if t = 200 + p ∧ j = 0 then st else C t j := rfl
set_option maxRecDepth 20000 in
set_option maxHeartbeats 4000000 in
theorem c_1_put {K : q_K} {B C : q_S} {x : Nat} {p : Int} (hx : K x = (2, 0, 200 + p)) (hp : 0 ≤ p ∧ p < 48) {y : Nat} {c : Int} (hy : K y = (1, 0, 1000000 + 3 * c)) (hc : 0 ≤ c) {fo : Int} (hfo : q_iI fo) : q_E mX1_put 0 [some (q_R x), some (q_I fo), some (q_R y)] [] K B C 0 0 (e_is none K B (puC C p 2 fo c)) := by
  refine e_aload_n dX1_put_0 rfl ?_
  refine e_iconst dX1_put_1 ?_
  refine c_putI (by omega) dX1_put_2 f_X1_9 rfl hx (by omega) ⟨by omega, by omega⟩ ?_
  refine e_aload_n dX1_put_5 rfl ?_
  refine e_iload_n dX1_put_6 rfl ?_
  refine c_putI (by omega) dX1_put_7 f_X1_15 rfl hx (by omega) hfo ?_
  refine e_aload_n dX1_put_10 rfl ?_
  refine e_aload_n dX1_put_11 rfl ?_
  refine c_putR (1000000 + 3 * c) (by omega) dX1_put_12 f_X1_32 rfl hx (by omega) hy (Nat.succ_ne_zero _) (kl_pc ⟨by omega, by omega⟩ (by omega) rfl) (Or.inl (ls_pc ⟨by omega, by omega⟩ (by omega))) ?_
  exact e_ret dX1_put_15 rfl (e_ok rfl rfl rfl)
set_option maxRecDepth 20000 in
set_option maxHeartbeats 4000000 in
theorem c_1_clear {K : q_K} {B C : q_S} {x : Nat} {p : Int} (hx : K x = (2, 0, 200 + p)) (hp : 0 ≤ p ∧ p < 48) : q_E mX1_clear 0 [some (q_R x)] [] K B C 0 0 (e_is none K B (puC C p 0 (-1) 0)) := by
  refine e_aload_n dX1_clear_0 rfl ?_
  refine e_iconst dX1_clear_1 ?_
  refine c_putI (by omega) dX1_clear_2 f_X1_9 rfl hx (by omega) ⟨by omega, by omega⟩ ?_
  refine e_aload_n dX1_clear_5 rfl ?_
  refine e_iconst dX1_clear_6 ?_
  refine c_putI (by omega) dX1_clear_7 f_X1_15 rfl hx (by omega) ⟨by omega, by omega⟩ ?_
  refine e_aload_n dX1_clear_10 rfl ?_
  refine e_aload_n dX1_clear_11 rfl ?_
  refine c_getR (kt := (1, 0, (1000000 + 3 * 0))) (by omega) (Or.inl (by omega)) dX1_clear_12 f_X1_28 hx (kl_pe ⟨by omega, by omega⟩) (Nat.succ_ne_zero _) (fun q_12 h_12 => ?_)
  refine c_putR (1000000 + 3 * 0) (by omega) dX1_clear_15 f_X1_32 rfl hx (by omega) h_12 (Nat.succ_ne_zero _) (kl_pc ⟨by omega, by omega⟩ (by omega) rfl) (Or.inl (ls_pc ⟨by omega, by omega⟩ (by omega))) ?_
  exact e_ret dX1_clear_18 rfl (e_ok rfl rfl rfl)
