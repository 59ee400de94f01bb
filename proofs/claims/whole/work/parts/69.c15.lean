theorem sumF_01 {g : Int → Int} (h : ∀ i, g i = 0 ∨ g i = 1) : ∀ k : Nat, 0 ≤ sumF g k ∧ sumF g k ≤ k := by
  intro k
  induction k with
  | zero => exact ⟨Int.le_refl _, Int.le_refl _⟩
  | succ k ih => simp only [sumF]; have := h k; omega
theorem dg_01 (C : q_S) (w i : Int) : dg' C w i = 0 ∨ dg' C w i = 1 := by unfold dg'; split; exact Or.inr rfl; exact Or.inl rfl
theorem mdg_01 (C : q_S) (i : Int) : mdg' C i = 0 ∨ mdg' C i = 1 := by unfold mdg'; split; exact Or.inr rfl; exact Or.inl rfl
set_option maxRecDepth 20000 in
set_option maxHeartbeats 4000000 in
theorem c_8_damagePack {K : q_K} {B C : q_S} {l : Nat} (hL : K l = (9, 0, 105)) {w : Int} (hw : 0 ≤ w ∧ w ≤ 1500) (hn8 : 0 ≤ C 105 0 ∧ C 105 0 ≤ 512) (hi8 : ∀ i, 0 ≤ i → i < C 105 0 → (0 ≤ C 127 i ∧ C 127 i ≤ 1500) ∧ (0 ≤ C 128 i ∧ C 128 i ≤ 1) ∧ (0 ≤ C 129 i ∧ C 129 i ≤ 1)) : q_E mX8_damagePack 0 [some (q_R l), some (q_I w), none, none] [] K B C 0 0 (e_is (some (q_I (sumF (dg' C w) (C 105 0).toNat))) K B (pwC C 128 1 (dg' C w) (C 105 0).toNat)) := by
  have lp : ∀ (r k : Nat), k + r = (C 105 0).toNat → q_E mX8_damagePack 4 [some (q_R l), some (q_I w), some (q_I (sumF (dg' C w) k)), some (q_I (k : Int))] [] K B (pwC C 128 1 (dg' C w) k) 0 0 (e_is (some (q_I (sumF (dg' C w) (C 105 0).toNat))) K B (pwC C 128 1 (dg' C w) (C 105 0).toNat)) := by
    intro r
    induction r with
    | zero =>
      intro k h1
      have s5 : (pwC C 128 1 (dg' C w) k) 105 0 = C 105 0 := pw_o (Or.inl (by decide))
      have s7 : (pwC C 128 1 (dg' C w) k) 127 (k : Int) = C 127 (k : Int) := pw_o (Or.inl (by decide))
      have s8 : (pwC C 128 1 (dg' C w) k) 128 (k : Int) = C 128 (k : Int) := pw_o (Or.inr (Int.le_refl _))
      have s9 : (pwC C 128 1 (dg' C w) k) 129 (k : Int) = C 129 (k : Int) := pw_o (Or.inl (by decide))
      have ek : (C 105 0).toNat = k := by omega
      have gs : 0 ≤ sumF (dg' C w) k ∧ sumF (dg' C w) k ≤ k := sumF_01 (fun i => dg_01 C w i) k
      refine e_iload_n dX8_damagePack_4 rfl ?_
      refine e_aload_n dX8_damagePack_5 rfl ?_
      refine c_getI (by decide) dX8_damagePack_6 f_X8_9 (Or.inl rfl) hL ?_
      rw [s5]
      refine e_icmp_ge (tgt := 47) dX8_damagePack_9 (by decide) ⟨by omega, by omega⟩ ⟨by omega, by omega⟩ (fun c_9 => ?_) (fun c_9 => ?_)
      · refine e_iload_n dX8_damagePack_47 rfl ?_
        exact e_iret dX8_damagePack_48 (Or.inl rfl) (e_ok (by rw [ek]) rfl (by rw [ek]))
      · exfalso; omega
    | succ r ih =>
      intro k h1
      have s5 : (pwC C 128 1 (dg' C w) k) 105 0 = C 105 0 := pw_o (Or.inl (by decide))
      have s7 : (pwC C 128 1 (dg' C w) k) 127 (k : Int) = C 127 (k : Int) := pw_o (Or.inl (by decide))
      have s8 : (pwC C 128 1 (dg' C w) k) 128 (k : Int) = C 128 (k : Int) := pw_o (Or.inr (Int.le_refl _))
      have s9 : (pwC C 128 1 (dg' C w) k) 129 (k : Int) = C 129 (k : Int) := pw_o (Or.inl (by decide))
      have hi9 := hi8 (k : Int) (by omega) (by omega)
      have gs : 0 ≤ sumF (dg' C w) k ∧ sumF (dg' C w) k ≤ k := sumF_01 (fun i => dg_01 C w i) k
      refine e_iload_n dX8_damagePack_4 rfl ?_
      refine e_aload_n dX8_damagePack_5 rfl ?_
      refine c_getI (by decide) dX8_damagePack_6 f_X8_9 (Or.inl rfl) hL ?_
      rw [s5]
      refine e_icmp_ge (tgt := 47) dX8_damagePack_9 (by decide) ⟨by omega, by omega⟩ ⟨by omega, by omega⟩ (fun c_9 => ?_) (fun c_9 => ?_)
      · exfalso; omega
      · refine e_aload_n dX8_damagePack_12 rfl ?_
        refine c_getR (kt := (20, 512, 127)) (by decide) (Or.inl (by decide)) dX8_damagePack_13 f_X8_25 hL rfl (Nat.succ_ne_zero _) (fun q_13 h_13 => ?_)
        refine e_iload_n dX8_damagePack_16 rfl ?_
        refine c_iald (by decide) dX8_damagePack_17 h_13 (by omega) (by omega) ?_
        refine e_iload_n dX8_damagePack_18 rfl ?_
        refine e_icmp_ne (tgt := 41) dX8_damagePack_19 (by decide) ⟨by omega, by omega⟩ ⟨by omega, by omega⟩ (fun c_19 => ?_) (fun c_19 => ?_)
        · refine e_iinc (ls2 := [_, _, _, _]) dX8_damagePack_41 rfl (Nat.le_of_ble_eq_true rfl) rfl ?_
          refine e_goto (tgt := 4) dX8_damagePack_44 (by decide) ?_
          have e19 : ((k + 1 : Nat) : Int) = (k : Int) + 1 := by omega
          have ihx := ih (k + 1) (by omega)
          rw [e19] at ihx
          simp only [sumF] at ihx
          first
          | (have e1 : (dg' C w) k = 1 := by unfold dg'; rw [if_pos ⟨by omega, by omega⟩]
             rw [pw_s1 (by rw [e1]; decide)]
             rw [e1] at ihx
             exact ihx)
          | (have e1 : (dg' C w) k = 0 := by unfold dg'; rw [if_neg (fun g => by have g1 := g.1; have g2 := g.2; omega)]
             rw [pw_s0 e1]
             rw [e1, Int.add_zero] at ihx
             exact ihx)
        · refine e_aload_n dX8_damagePack_22 rfl ?_
          refine c_getR (kt := (22, 512, 128)) (by decide) (Or.inl (by decide)) dX8_damagePack_23 f_X8_28 hL rfl (Nat.succ_ne_zero _) (fun q_23 h_23 => ?_)
          refine e_iload_n dX8_damagePack_26 rfl ?_
          refine c_zald (by decide) dX8_damagePack_27 h_23 (by omega) (by omega) ?_
          rw [s8]
          refine e_if_ne (tgt := 41) dX8_damagePack_28 (by decide) ⟨by omega, by omega⟩ (fun c_28 => ?_) (fun c_28 => ?_)
          · refine e_iinc (ls2 := [_, _, _, _]) dX8_damagePack_41 rfl (Nat.le_of_ble_eq_true rfl) rfl ?_
            refine e_goto (tgt := 4) dX8_damagePack_44 (by decide) ?_
            have e19 : ((k + 1 : Nat) : Int) = (k : Int) + 1 := by omega
            have ihx := ih (k + 1) (by omega)
            rw [e19] at ihx
            simp only [sumF] at ihx
            first
            | (have e1 : (dg' C w) k = 1 := by unfold dg'; rw [if_pos ⟨by omega, by omega⟩]
               rw [pw_s1 (by rw [e1]; decide)]
               rw [e1] at ihx
               exact ihx)
            | (have e1 : (dg' C w) k = 0 := by unfold dg'; rw [if_neg (fun g => by have g1 := g.1; have g2 := g.2; omega)]
               rw [pw_s0 e1]
               rw [e1, Int.add_zero] at ihx
               exact ihx)
          · refine e_aload_n dX8_damagePack_31 rfl ?_
            refine c_getR (kt := (22, 512, 128)) (by decide) (Or.inl (by decide)) dX8_damagePack_32 f_X8_28 hL rfl (Nat.succ_ne_zero _) (fun q_32 h_32 => ?_)
            refine e_iload_n dX8_damagePack_35 rfl ?_
            refine e_iconst dX8_damagePack_36 ?_
            refine c_zast (by decide) dX8_damagePack_37 h_32 (by omega) (by omega) (by decide) (by omega) ?_
            refine e_iinc (ls2 := [_, _, _, _]) dX8_damagePack_38 rfl (Nat.le_of_ble_eq_true rfl) rfl ?_
            refine e_iinc (ls2 := [_, _, _, _]) dX8_damagePack_41 rfl (Nat.le_of_ble_eq_true rfl) rfl ?_
            refine e_goto (tgt := 4) dX8_damagePack_44 (by decide) ?_
            have e19 : ((k + 1 : Nat) : Int) = (k : Int) + 1 := by omega
            have ihx := ih (k + 1) (by omega)
            rw [e19] at ihx
            simp only [sumF] at ihx
            first
            | (have e1 : (dg' C w) k = 1 := by unfold dg'; rw [if_pos ⟨by omega, by omega⟩]
               rw [pw_s1 (by rw [e1]; decide)]
               rw [e1] at ihx
               exact ihx)
            | (have e1 : (dg' C w) k = 0 := by unfold dg'; rw [if_neg (fun g => by have g1 := g.1; have g2 := g.2; omega)]
               rw [pw_s0 e1]
               rw [e1, Int.add_zero] at ihx
               exact ihx)
  refine e_iconst dX8_damagePack_0 ?_
  refine e_istore_n (ls2 := [_, _, _, _]) dX8_damagePack_1 (Nat.le_of_ble_eq_true rfl) rfl ?_
  refine e_iconst dX8_damagePack_2 ?_
  refine e_istore_n (ls2 := [_, _, _, _]) dX8_damagePack_3 (Nat.le_of_ble_eq_true rfl) rfl ?_
  have e0 := lp (C 105 0).toNat 0 (by omega)
  rw [pw_0] at e0
  exact e0
set_option maxRecDepth 20000 in
set_option maxHeartbeats 4000000 in
theorem c_8_mend {K : q_K} {B C : q_S} {l : Nat} (hL : K l = (9, 0, 105))  (hn8 : 0 ≤ C 105 0 ∧ C 105 0 ≤ 512) (hi8 : ∀ i, 0 ≤ i → i < C 105 0 → (0 ≤ C 127 i ∧ C 127 i ≤ 1500) ∧ (0 ≤ C 128 i ∧ C 128 i ≤ 1) ∧ (0 ≤ C 129 i ∧ C 129 i ≤ 1)) : q_E mX8_mend 0 [some (q_R l), none, none] [] K B C 0 0 (e_is (some (q_I (sumF (mdg' C) (C 105 0).toNat))) K B (pwC C 128 0 (mdg' C) (C 105 0).toNat)) := by
  have lp : ∀ (r k : Nat), k + r = (C 105 0).toNat → q_E mX8_mend 4 [some (q_R l), some (q_I (sumF (mdg' C) k)), some (q_I (k : Int))] [] K B (pwC C 128 0 (mdg' C) k) 0 0 (e_is (some (q_I (sumF (mdg' C) (C 105 0).toNat))) K B (pwC C 128 0 (mdg' C) (C 105 0).toNat)) := by
    intro r
    induction r with
    | zero =>
      intro k h1
      have s5 : (pwC C 128 0 (mdg' C) k) 105 0 = C 105 0 := pw_o (Or.inl (by decide))
      have s7 : (pwC C 128 0 (mdg' C) k) 127 (k : Int) = C 127 (k : Int) := pw_o (Or.inl (by decide))
      have s8 : (pwC C 128 0 (mdg' C) k) 128 (k : Int) = C 128 (k : Int) := pw_o (Or.inr (Int.le_refl _))
      have s9 : (pwC C 128 0 (mdg' C) k) 129 (k : Int) = C 129 (k : Int) := pw_o (Or.inl (by decide))
      have ek : (C 105 0).toNat = k := by omega
      have gs : 0 ≤ sumF (mdg' C) k ∧ sumF (mdg' C) k ≤ k := sumF_01 (fun i => mdg_01 C i) k
      refine e_iload_n dX8_mend_4 rfl ?_
      refine e_aload_n dX8_mend_5 rfl ?_
      refine c_getI (by decide) dX8_mend_6 f_X8_9 (Or.inl rfl) hL ?_
      rw [s5]
      refine e_icmp_ge (tgt := 46) dX8_mend_9 (by decide) ⟨by omega, by omega⟩ ⟨by omega, by omega⟩ (fun c_9 => ?_) (fun c_9 => ?_)
      · refine e_iload_n dX8_mend_46 rfl ?_
        exact e_iret dX8_mend_47 (Or.inl rfl) (e_ok (by rw [ek]) rfl (by rw [ek]))
      · exfalso; omega
    | succ r ih =>
      intro k h1
      have s5 : (pwC C 128 0 (mdg' C) k) 105 0 = C 105 0 := pw_o (Or.inl (by decide))
      have s7 : (pwC C 128 0 (mdg' C) k) 127 (k : Int) = C 127 (k : Int) := pw_o (Or.inl (by decide))
      have s8 : (pwC C 128 0 (mdg' C) k) 128 (k : Int) = C 128 (k : Int) := pw_o (Or.inr (Int.le_refl _))
      have s9 : (pwC C 128 0 (mdg' C) k) 129 (k : Int) = C 129 (k : Int) := pw_o (Or.inl (by decide))
      have hi9 := hi8 (k : Int) (by omega) (by omega)
      have gs : 0 ≤ sumF (mdg' C) k ∧ sumF (mdg' C) k ≤ k := sumF_01 (fun i => mdg_01 C i) k
      refine e_iload_n dX8_mend_4 rfl ?_
      refine e_aload_n dX8_mend_5 rfl ?_
      refine c_getI (by decide) dX8_mend_6 f_X8_9 (Or.inl rfl) hL ?_
      rw [s5]
      refine e_icmp_ge (tgt := 46) dX8_mend_9 (by decide) ⟨by omega, by omega⟩ ⟨by omega, by omega⟩ (fun c_9 => ?_) (fun c_9 => ?_)
      · exfalso; omega
      · refine e_aload_n dX8_mend_12 rfl ?_
        refine c_getR (kt := (22, 512, 128)) (by decide) (Or.inl (by decide)) dX8_mend_13 f_X8_28 hL rfl (Nat.succ_ne_zero _) (fun q_13 h_13 => ?_)
        refine e_iload_n dX8_mend_16 rfl ?_
        refine c_zald (by decide) dX8_mend_17 h_13 (by omega) (by omega) ?_
        rw [s8]
        refine e_if_eq (tgt := 40) dX8_mend_18 (by decide) ⟨by omega, by omega⟩ (fun c_18 => ?_) (fun c_18 => ?_)
        · refine e_iinc (ls2 := [_, _, _]) dX8_mend_40 rfl (Nat.le_of_ble_eq_true rfl) rfl ?_
          refine e_goto (tgt := 4) dX8_mend_43 (by decide) ?_
          have e19 : ((k + 1 : Nat) : Int) = (k : Int) + 1 := by omega
          have ihx := ih (k + 1) (by omega)
          rw [e19] at ihx
          simp only [sumF] at ihx
          first
          | (have e1 : (mdg' C) k = 1 := by unfold mdg'; rw [if_pos ⟨by omega, by omega⟩]
             rw [pw_s1 (by rw [e1]; decide)]
             rw [e1] at ihx
             exact ihx)
          | (have e1 : (mdg' C) k = 0 := by unfold mdg'; rw [if_neg (fun g => by have g1 := g.1; have g2 := g.2; omega)]
             rw [pw_s0 e1]
             rw [e1, Int.add_zero] at ihx
             exact ihx)
        · refine e_aload_n dX8_mend_21 rfl ?_
          refine c_getR (kt := (22, 512, 129)) (by decide) (Or.inl (by decide)) dX8_mend_22 f_X8_32 hL rfl (Nat.succ_ne_zero _) (fun q_22 h_22 => ?_)
          refine e_iload_n dX8_mend_25 rfl ?_
          refine c_zald (by decide) dX8_mend_26 h_22 (by omega) (by omega) ?_
          rw [s9]
          refine e_if_eq (tgt := 40) dX8_mend_27 (by decide) ⟨by omega, by omega⟩ (fun c_27 => ?_) (fun c_27 => ?_)
          · refine e_iinc (ls2 := [_, _, _]) dX8_mend_40 rfl (Nat.le_of_ble_eq_true rfl) rfl ?_
            refine e_goto (tgt := 4) dX8_mend_43 (by decide) ?_
            have e19 : ((k + 1 : Nat) : Int) = (k : Int) + 1 := by omega
            have ihx := ih (k + 1) (by omega)
            rw [e19] at ihx
            simp only [sumF] at ihx
            first
            | (have e1 : (mdg' C) k = 1 := by unfold mdg'; rw [if_pos ⟨by omega, by omega⟩]
               rw [pw_s1 (by rw [e1]; decide)]
               rw [e1] at ihx
               exact ihx)
            | (have e1 : (mdg' C) k = 0 := by unfold mdg'; rw [if_neg (fun g => by have g1 := g.1; have g2 := g.2; omega)]
               rw [pw_s0 e1]
               rw [e1, Int.add_zero] at ihx
               exact ihx)
          · refine e_aload_n dX8_mend_30 rfl ?_
            refine c_getR (kt := (22, 512, 128)) (by decide) (Or.inl (by decide)) dX8_mend_31 f_X8_28 hL rfl (Nat.succ_ne_zero _) (fun q_31 h_31 => ?_)
            refine e_iload_n dX8_mend_34 rfl ?_
            refine e_iconst dX8_mend_35 ?_
            refine c_zast (by decide) dX8_mend_36 h_31 (by omega) (by omega) (by decide) (by omega) ?_
            refine e_iinc (ls2 := [_, _, _]) dX8_mend_37 rfl (Nat.le_of_ble_eq_true rfl) rfl ?_
            refine e_iinc (ls2 := [_, _, _]) dX8_mend_40 rfl (Nat.le_of_ble_eq_true rfl) rfl ?_
            refine e_goto (tgt := 4) dX8_mend_43 (by decide) ?_
            have e19 : ((k + 1 : Nat) : Int) = (k : Int) + 1 := by omega
            have ihx := ih (k + 1) (by omega)
            rw [e19] at ihx
            simp only [sumF] at ihx
            first
            | (have e1 : (mdg' C) k = 1 := by unfold mdg'; rw [if_pos ⟨by omega, by omega⟩]
               rw [pw_s1 (by rw [e1]; decide)]
               rw [e1] at ihx
               exact ihx)
            | (have e1 : (mdg' C) k = 0 := by unfold mdg'; rw [if_neg (fun g => by have g1 := g.1; have g2 := g.2; omega)]
               rw [pw_s0 e1]
               rw [e1, Int.add_zero] at ihx
               exact ihx)
  refine e_iconst dX8_mend_0 ?_
  refine e_istore_n (ls2 := [_, _, _]) dX8_mend_1 (Nat.le_of_ble_eq_true rfl) rfl ?_
  refine e_iconst dX8_mend_2 ?_
  refine e_istore_n (ls2 := [_, _, _]) dX8_mend_3 (Nat.le_of_ble_eq_true rfl) rfl ?_
  have e0 := lp (C 105 0).toNat 0 (by omega)
  rw [pw_0] at e0
  exact e0
set_option maxRecDepth 20000 in
set_option maxHeartbeats 4000000 in
theorem c_8_needNothing {K : q_K} {B C : q_S} {l : Nat} (hL : K l = (9, 0, 105))  (hn8 : 0 ≤ C 105 0 ∧ C 105 0 ≤ 512)  : q_E mX8_needNothing 0 [some (q_R l), none] [] K B C 0 0 (e_is (none) K B (pwC C 130 0 (fun _ => 1) (C 105 0).toNat)) := by
  have lp : ∀ (r k : Nat), k + r = (C 105 0).toNat → q_E mX8_needNothing 2 [some (q_R l), some (q_I (k : Int))] [] K B (pwC C 130 0 (fun _ => 1) k) 0 0 (e_is (none) K B (pwC C 130 0 (fun _ => 1) (C 105 0).toNat)) := by
    intro r
    induction r with
    | zero =>
      intro k h1
      have s5 : (pwC C 130 0 (fun _ => 1) k) 105 0 = C 105 0 := pw_o (Or.inl (by decide))
      have s7 : (pwC C 130 0 (fun _ => 1) k) 127 (k : Int) = C 127 (k : Int) := pw_o (Or.inl (by decide))
      have s8 : (pwC C 130 0 (fun _ => 1) k) 128 (k : Int) = C 128 (k : Int) := pw_o (Or.inr (Int.le_refl _))
      have s9 : (pwC C 130 0 (fun _ => 1) k) 129 (k : Int) = C 129 (k : Int) := pw_o (Or.inl (by decide))
      have ek : (C 105 0).toNat = k := by omega
      refine e_iload_n dX8_needNothing_2 rfl ?_
      refine e_aload_n dX8_needNothing_3 rfl ?_
      refine c_getI (by decide) dX8_needNothing_4 f_X8_9 (Or.inl rfl) hL ?_
      rw [s5]
      refine e_icmp_ge (tgt := 23) dX8_needNothing_7 (by decide) ⟨by omega, by omega⟩ ⟨by omega, by omega⟩ (fun c_7 => ?_) (fun c_7 => ?_)
      · exact e_ret dX8_needNothing_23 rfl (e_ok rfl rfl (by rw [ek]))
      · exfalso; omega
    | succ r ih =>
      intro k h1
      have s5 : (pwC C 130 0 (fun _ => 1) k) 105 0 = C 105 0 := pw_o (Or.inl (by decide))
      have s7 : (pwC C 130 0 (fun _ => 1) k) 127 (k : Int) = C 127 (k : Int) := pw_o (Or.inl (by decide))
      have s8 : (pwC C 130 0 (fun _ => 1) k) 128 (k : Int) = C 128 (k : Int) := pw_o (Or.inr (Int.le_refl _))
      have s9 : (pwC C 130 0 (fun _ => 1) k) 129 (k : Int) = C 129 (k : Int) := pw_o (Or.inl (by decide))
      refine e_iload_n dX8_needNothing_2 rfl ?_
      refine e_aload_n dX8_needNothing_3 rfl ?_
      refine c_getI (by decide) dX8_needNothing_4 f_X8_9 (Or.inl rfl) hL ?_
      rw [s5]
      refine e_icmp_ge (tgt := 23) dX8_needNothing_7 (by decide) ⟨by omega, by omega⟩ ⟨by omega, by omega⟩ (fun c_7 => ?_) (fun c_7 => ?_)
      · exfalso; omega
      · refine e_aload_n dX8_needNothing_10 rfl ?_
        refine c_getR (kt := (22, 512, 130)) (by decide) (Or.inl (by decide)) dX8_needNothing_11 f_X8_35 hL rfl (Nat.succ_ne_zero _) (fun q_11 h_11 => ?_)
        refine e_iload_n dX8_needNothing_14 rfl ?_
        refine e_iconst dX8_needNothing_15 ?_
        refine c_zast (by decide) dX8_needNothing_16 h_11 (by omega) (by omega) (by decide) (by omega) ?_
        refine e_iinc (ls2 := [_, _]) dX8_needNothing_17 rfl (Nat.le_of_ble_eq_true rfl) rfl ?_
        refine e_goto (tgt := 2) dX8_needNothing_20 (by decide) ?_
        have e19 : ((k + 1 : Nat) : Int) = (k : Int) + 1 := by omega
        have ihx := ih (k + 1) (by omega)
        rw [e19] at ihx
        first
        | (rw [pw_s1 (by decide)]; exact ihx)
  refine e_iconst dX8_needNothing_0 ?_
  refine e_istore_n (ls2 := [_, _]) dX8_needNothing_1 (Nat.le_of_ble_eq_true rfl) rfl ?_
  have e0 := lp (C 105 0).toNat 0 (by omega)
  rw [pw_0] at e0
  exact e0
theorem st_hi {M C : q_S} (h : RT M C) (hW : WR M) : ∀ i, 0 ≤ i → i < C 105 0 → (0 ≤ C 127 i ∧ C 127 i ≤ 1500) ∧ (0 ≤ C 128 i ∧ C 128 i ≤ 1) ∧ (0 ≤ C 129 i ∧ C 129 i ≤ 1) := fun i a b => by
  have k := rt_i h ⟨a, b⟩
  have w1 : 0 ≤ M 31 (C 126 i) ∧ M 31 (C 126 i) ≤ 1500 := hW 31 _
  have w2 : 0 ≤ M 32 (C 126 i) ∧ M 32 (C 126 i) ≤ 1 := hW 32 _
  have w3 : 0 ≤ M 33 (C 126 i) ∧ M 33 (C 126 i) ≤ 1 := hW 33 _
  omega
set_option maxRecDepth 20000 in
set_option maxHeartbeats 4000000 in
theorem c_8_add {K : q_K} {B M C : q_S} {l : Nat} (hL : K l = (9, 0, 105)) (hR : RC M C) (hI : MI M) (hW : WR M) (hP : PMI M) {x : Int} (hx : 0 ≤ x ∧ x < 20000) (hn : C 105 0 < 512) (hpk : pkF M ≤ 1500) : q_E mX8_add 0 [some (q_R l), some (q_I x)] [] K B C 0 0 (e_is (none) K B (asC C (C 105 0) x (pkF M))) := by
  have hn8 := rt_n (rc_T hR)
  have h34 := rs_34 hW
  have ep : C 105 1 = M 50 34 := rs_packs hR
  have e35 : ¬ M 50 34 = 0 → M 35 (M 50 34 - 1) = cnt M (M 50 34 - 1 + 1) 20000 := fun h => hP.1 _ (by omega)
  have hcn := cnt_nn M (M 50 34 - 1 + 1) 20000
  have ePk : pkF M = M 50 34 + 1 ∨ pkF M = M 50 34 := by unfold pkF; split; exact Or.inl rfl; exact Or.inr rfl
  refine e_aload_n dX8_add_0 rfl ?_
  refine c_getI (by decide) dX8_add_1 f_X8_15 (Or.inl rfl) hL ?_
  rw [rs_packs hR]
  have g_1 := rs_34 hW
  refine e_if_eq (tgt := 21) dX8_add_4 (by decide) ⟨by omega, by omega⟩ (fun c_4 => ?_) (fun c_4 => ?_)
  · refine e_aload_n dX8_add_21 rfl ?_
    refine e_dup dX8_add_22 rfl ?_
    refine c_getI (by decide) dX8_add_23 f_X8_15 (Or.inl rfl) hL ?_
    rw [rs_packs hR]
    have g_23 := rs_34 hW
    refine e_iconst dX8_add_26 ?_
    refine e_iadd dX8_add_27 ?_
    refine c_putI (by decide) dX8_add_28 f_X8_15 rfl hL (by decide) ⟨by omega, by omega⟩ ?_
    refine e_aload_n dX8_add_31 rfl ?_
    refine c_getR (kt := (20, 512, 126)) (by decide) (Or.inl (by decide)) dX8_add_32 f_X8_21 hL rfl (Nat.succ_ne_zero _) (fun q_32 h_32 => ?_)
    refine e_aload_n dX8_add_35 rfl ?_
    refine c_getI (by decide) dX8_add_36 f_X8_9 (Or.inl rfl) hL ?_
    try simp only [q_us_ap, editsF_3, Int.reduceEq, Int.reduceNeg, false_and, and_false, and_self, if_true, if_false, true_and, and_true, ite_self]
    refine e_iload_n dX8_add_39 rfl ?_
    refine c_iast (by decide) dX8_add_40 h_32 (by omega) (by omega) (by decide) ⟨by omega, by omega⟩ ?_
    refine e_aload_n dX8_add_41 rfl ?_
    refine c_getR (kt := (20, 512, 127)) (by decide) (Or.inl (by decide)) dX8_add_42 f_X8_25 hL rfl (Nat.succ_ne_zero _) (fun q_42 h_42 => ?_)
    refine e_aload_n dX8_add_45 rfl ?_
    refine c_getI (by decide) dX8_add_46 f_X8_9 (Or.inl rfl) hL ?_
    try simp only [q_us_ap, editsF_3, Int.reduceEq, Int.reduceNeg, false_and, and_false, and_self, if_true, if_false, true_and, and_true, ite_self]
    refine e_aload_n dX8_add_49 rfl ?_
    refine c_getI (by decide) dX8_add_50 f_X8_15 (Or.inl rfl) hL ?_
    try simp only [q_us_ap, editsF_3, Int.reduceEq, Int.reduceNeg, false_and, and_false, and_self, if_true, if_false, true_and, and_true, ite_self]
    refine e_iconst dX8_add_53 ?_
    refine e_isub dX8_add_54 ?_
    refine c_iast (by decide) dX8_add_55 h_42 (by omega) (by omega) (by decide) ⟨by omega, by omega⟩ ?_
    refine e_aload_n dX8_add_56 rfl ?_
    refine c_getR (kt := (22, 512, 128)) (by decide) (Or.inl (by decide)) dX8_add_57 f_X8_28 hL rfl (Nat.succ_ne_zero _) (fun q_57 h_57 => ?_)
    refine e_aload_n dX8_add_60 rfl ?_
    refine c_getI (by decide) dX8_add_61 f_X8_9 (Or.inl rfl) hL ?_
    try simp only [q_us_ap, editsF_3, Int.reduceEq, Int.reduceNeg, false_and, and_false, and_self, if_true, if_false, true_and, and_true, ite_self]
    refine e_iconst dX8_add_64 ?_
    refine c_zast (by decide) dX8_add_65 h_57 (by omega) (by omega) (by decide) (by omega) ?_
    refine e_aload_n dX8_add_66 rfl ?_
    refine c_getR (kt := (22, 512, 129)) (by decide) (Or.inl (by decide)) dX8_add_67 f_X8_32 hL rfl (Nat.succ_ne_zero _) (fun q_67 h_67 => ?_)
    refine e_aload_n dX8_add_70 rfl ?_
    refine c_getI (by decide) dX8_add_71 f_X8_9 (Or.inl rfl) hL ?_
    try simp only [q_us_ap, editsF_3, Int.reduceEq, Int.reduceNeg, false_and, and_false, and_self, if_true, if_false, true_and, and_true, ite_self]
    refine e_iconst dX8_add_74 ?_
    refine c_zast (by decide) dX8_add_75 h_67 (by omega) (by omega) (by decide) (by omega) ?_
    refine e_aload_n dX8_add_76 rfl ?_
    refine e_dup dX8_add_77 rfl ?_
    refine c_getI (by decide) dX8_add_78 f_X8_9 (Or.inl rfl) hL ?_
    try simp only [q_us_ap, editsF_3, Int.reduceEq, Int.reduceNeg, false_and, and_false, and_self, if_true, if_false, true_and, and_true, ite_self]
    refine e_iconst dX8_add_81 ?_
    refine e_iadd dX8_add_82 ?_
    refine c_putI (by decide) dX8_add_83 f_X8_9 rfl hL (by decide) ⟨by omega, by omega⟩ ?_
    refine e_ret dX8_add_86 rfl ?_
    refine e_ok rfl rfl ?_
    unfold asC
    by_cases ec : M 50 34 = 0 ∨ 5 ≤ M 35 (M 50 34 - 1)
    · have e1 : pkF M = M 50 34 + 1 := if_pos ec
      rw [e1] <;> first
      | rfl
      | (exfalso
         rcases ec with g | g
         · omega
         · have := e35 (by omega); omega)
    · have e1 : pkF M = M 50 34 := if_neg ec
      rw [e1] <;> first
      | (exfalso
         have ec1 : ¬ M 50 34 = 0 := fun g => ec (Or.inl g)
         have ec2 : ¬ 5 ≤ M 35 (M 50 34 - 1) := fun g => ec (Or.inr g)
         have := e35 ec1
         omega)
      | (rw [show q_us C 105 1 (M 50 34) = C from by rw [← ep]; exact us_same _ _ _])
  · refine e_aload_n dX8_add_7 rfl ?_
    refine e_aload_n dX8_add_8 rfl ?_
    refine c_getI (by decide) dX8_add_9 f_X8_15 (Or.inl rfl) hL ?_
    rw [rs_packs hR]
    have g_9 := rs_34 hW
    refine e_iconst dX8_add_12 ?_
    refine e_isub dX8_add_13 ?_
    refine e_cV (as := [_]) (ci := 8) dX8_add_14 k_X8_countInPack l_X8_54 i_X8_countInPack v_X8_countInPack hL rfl (by decide) ⟨_, _, rfl⟩ rfl rfl rfl rfl (Nat.le_of_ble_eq_true rfl) ⟨by decide, by decide⟩ (Nat.le_of_ble_eq_true rfl) (by decide) (c_8_countInPack hL hR hI hW ⟨by omega, by omega⟩) ?_
    refine e_iconst dX8_add_17 ?_
    refine e_icmp_lt (tgt := 31) dX8_add_18 (by decide) ⟨by omega, by omega⟩ ⟨by omega, by omega⟩ (fun c_18 => ?_) (fun c_18 => ?_)
    · refine e_aload_n dX8_add_31 rfl ?_
      refine c_getR (kt := (20, 512, 126)) (by decide) (Or.inl (by decide)) dX8_add_32 f_X8_21 hL rfl (Nat.succ_ne_zero _) (fun q_32 h_32 => ?_)
      refine e_aload_n dX8_add_35 rfl ?_
      refine c_getI (by decide) dX8_add_36 f_X8_9 (Or.inl rfl) hL ?_
      refine e_iload_n dX8_add_39 rfl ?_
      refine c_iast (by decide) dX8_add_40 h_32 (by omega) (by omega) (by decide) ⟨by omega, by omega⟩ ?_
      refine e_aload_n dX8_add_41 rfl ?_
      refine c_getR (kt := (20, 512, 127)) (by decide) (Or.inl (by decide)) dX8_add_42 f_X8_25 hL rfl (Nat.succ_ne_zero _) (fun q_42 h_42 => ?_)
      refine e_aload_n dX8_add_45 rfl ?_
      refine c_getI (by decide) dX8_add_46 f_X8_9 (Or.inl rfl) hL ?_
      try simp only [q_us_ap, editsF_3, Int.reduceEq, Int.reduceNeg, false_and, and_false, and_self, if_true, if_false, true_and, and_true, ite_self]
      refine e_aload_n dX8_add_49 rfl ?_
      refine c_getI (by decide) dX8_add_50 f_X8_15 (Or.inl rfl) hL ?_
      try simp only [q_us_ap, editsF_3, Int.reduceEq, Int.reduceNeg, false_and, and_false, and_self, if_true, if_false, true_and, and_true, ite_self]
      rw [rs_packs hR]
      have g_50 := rs_34 hW
      refine e_iconst dX8_add_53 ?_
      refine e_isub dX8_add_54 ?_
      refine c_iast (by decide) dX8_add_55 h_42 (by omega) (by omega) (by decide) ⟨by omega, by omega⟩ ?_
      refine e_aload_n dX8_add_56 rfl ?_
      refine c_getR (kt := (22, 512, 128)) (by decide) (Or.inl (by decide)) dX8_add_57 f_X8_28 hL rfl (Nat.succ_ne_zero _) (fun q_57 h_57 => ?_)
      refine e_aload_n dX8_add_60 rfl ?_
      refine c_getI (by decide) dX8_add_61 f_X8_9 (Or.inl rfl) hL ?_
      try simp only [q_us_ap, editsF_3, Int.reduceEq, Int.reduceNeg, false_and, and_false, and_self, if_true, if_false, true_and, and_true, ite_self]
      refine e_iconst dX8_add_64 ?_
      refine c_zast (by decide) dX8_add_65 h_57 (by omega) (by omega) (by decide) (by omega) ?_
      refine e_aload_n dX8_add_66 rfl ?_
      refine c_getR (kt := (22, 512, 129)) (by decide) (Or.inl (by decide)) dX8_add_67 f_X8_32 hL rfl (Nat.succ_ne_zero _) (fun q_67 h_67 => ?_)
      refine e_aload_n dX8_add_70 rfl ?_
      refine c_getI (by decide) dX8_add_71 f_X8_9 (Or.inl rfl) hL ?_
      try simp only [q_us_ap, editsF_3, Int.reduceEq, Int.reduceNeg, false_and, and_false, and_self, if_true, if_false, true_and, and_true, ite_self]
      refine e_iconst dX8_add_74 ?_
      refine c_zast (by decide) dX8_add_75 h_67 (by omega) (by omega) (by decide) (by omega) ?_
      refine e_aload_n dX8_add_76 rfl ?_
      refine e_dup dX8_add_77 rfl ?_
      refine c_getI (by decide) dX8_add_78 f_X8_9 (Or.inl rfl) hL ?_
      try simp only [q_us_ap, editsF_3, Int.reduceEq, Int.reduceNeg, false_and, and_false, and_self, if_true, if_false, true_and, and_true, ite_self]
      refine e_iconst dX8_add_81 ?_
      refine e_iadd dX8_add_82 ?_
      refine c_putI (by decide) dX8_add_83 f_X8_9 rfl hL (by decide) ⟨by omega, by omega⟩ ?_
      refine e_ret dX8_add_86 rfl ?_
      refine e_ok rfl rfl ?_
      unfold asC
      by_cases ec : M 50 34 = 0 ∨ 5 ≤ M 35 (M 50 34 - 1)
      · have e1 : pkF M = M 50 34 + 1 := if_pos ec
        rw [e1] <;> first
        | rfl
        | (exfalso
           rcases ec with g | g
           · omega
           · have := e35 (by omega); omega)
      · have e1 : pkF M = M 50 34 := if_neg ec
        rw [e1] <;> first
        | (exfalso
           have ec1 : ¬ M 50 34 = 0 := fun g => ec (Or.inl g)
           have ec2 : ¬ 5 ≤ M 35 (M 50 34 - 1) := fun g => ec (Or.inr g)
           have := e35 ec1
           omega)
        | (rw [show q_us C 105 1 (M 50 34) = C from by rw [← ep]; exact us_same _ _ _])
    · refine e_aload_n dX8_add_21 rfl ?_
      refine e_dup dX8_add_22 rfl ?_
      refine c_getI (by decide) dX8_add_23 f_X8_15 (Or.inl rfl) hL ?_
      rw [rs_packs hR]
      have g_23 := rs_34 hW
      refine e_iconst dX8_add_26 ?_
      refine e_iadd dX8_add_27 ?_
      refine c_putI (by decide) dX8_add_28 f_X8_15 rfl hL (by decide) ⟨by omega, by omega⟩ ?_
      refine e_aload_n dX8_add_31 rfl ?_
      refine c_getR (kt := (20, 512, 126)) (by decide) (Or.inl (by decide)) dX8_add_32 f_X8_21 hL rfl (Nat.succ_ne_zero _) (fun q_32 h_32 => ?_)
      refine e_aload_n dX8_add_35 rfl ?_
      refine c_getI (by decide) dX8_add_36 f_X8_9 (Or.inl rfl) hL ?_
      try simp only [q_us_ap, editsF_3, Int.reduceEq, Int.reduceNeg, false_and, and_false, and_self, if_true, if_false, true_and, and_true, ite_self]
      refine e_iload_n dX8_add_39 rfl ?_
      refine c_iast (by decide) dX8_add_40 h_32 (by omega) (by omega) (by decide) ⟨by omega, by omega⟩ ?_
      refine e_aload_n dX8_add_41 rfl ?_
      refine c_getR (kt := (20, 512, 127)) (by decide) (Or.inl (by decide)) dX8_add_42 f_X8_25 hL rfl (Nat.succ_ne_zero _) (fun q_42 h_42 => ?_)
      refine e_aload_n dX8_add_45 rfl ?_
      refine c_getI (by decide) dX8_add_46 f_X8_9 (Or.inl rfl) hL ?_
      try simp only [q_us_ap, editsF_3, Int.reduceEq, Int.reduceNeg, false_and, and_false, and_self, if_true, if_false, true_and, and_true, ite_self]
      refine e_aload_n dX8_add_49 rfl ?_
      refine c_getI (by decide) dX8_add_50 f_X8_15 (Or.inl rfl) hL ?_
      try simp only [q_us_ap, editsF_3, Int.reduceEq, Int.reduceNeg, false_and, and_false, and_self, if_true, if_false, true_and, and_true, ite_self]
      refine e_iconst dX8_add_53 ?_
      refine e_isub dX8_add_54 ?_
      refine c_iast (by decide) dX8_add_55 h_42 (by omega) (by omega) (by decide) ⟨by omega, by omega⟩ ?_
      refine e_aload_n dX8_add_56 rfl ?_
      refine c_getR (kt := (22, 512, 128)) (by decide) (Or.inl (by decide)) dX8_add_57 f_X8_28 hL rfl (Nat.succ_ne_zero _) (fun q_57 h_57 => ?_)
      refine e_aload_n dX8_add_60 rfl ?_
      refine c_getI (by decide) dX8_add_61 f_X8_9 (Or.inl rfl) hL ?_
      try simp only [q_us_ap, editsF_3, Int.reduceEq, Int.reduceNeg, false_and, and_false, and_self, if_true, if_false, true_and, and_true, ite_self]
      refine e_iconst dX8_add_64 ?_
      refine c_zast (by decide) dX8_add_65 h_57 (by omega) (by omega) (by decide) (by omega) ?_
      refine e_aload_n dX8_add_66 rfl ?_
      refine c_getR (kt := (22, 512, 129)) (by decide) (Or.inl (by decide)) dX8_add_67 f_X8_32 hL rfl (Nat.succ_ne_zero _) (fun q_67 h_67 => ?_)
      refine e_aload_n dX8_add_70 rfl ?_
      refine c_getI (by decide) dX8_add_71 f_X8_9 (Or.inl rfl) hL ?_
      try simp only [q_us_ap, editsF_3, Int.reduceEq, Int.reduceNeg, false_and, and_false, and_self, if_true, if_false, true_and, and_true, ite_self]
      refine e_iconst dX8_add_74 ?_
      refine c_zast (by decide) dX8_add_75 h_67 (by omega) (by omega) (by decide) (by omega) ?_
      refine e_aload_n dX8_add_76 rfl ?_
      refine e_dup dX8_add_77 rfl ?_
      refine c_getI (by decide) dX8_add_78 f_X8_9 (Or.inl rfl) hL ?_
      try simp only [q_us_ap, editsF_3, Int.reduceEq, Int.reduceNeg, false_and, and_false, and_self, if_true, if_false, true_and, and_true, ite_self]
      refine e_iconst dX8_add_81 ?_
      refine e_iadd dX8_add_82 ?_
      refine c_putI (by decide) dX8_add_83 f_X8_9 rfl hL (by decide) ⟨by omega, by omega⟩ ?_
      refine e_ret dX8_add_86 rfl ?_
      refine e_ok rfl rfl ?_
      unfold asC
      by_cases ec : M 50 34 = 0 ∨ 5 ≤ M 35 (M 50 34 - 1)
      · have e1 : pkF M = M 50 34 + 1 := if_pos ec
        rw [e1] <;> first
        | rfl
        | (exfalso
           rcases ec with g | g
           · omega
           · have := e35 (by omega); omega)
      · have e1 : pkF M = M 50 34 := if_neg ec
        rw [e1] <;> first
        | (exfalso
           have ec1 : ¬ M 50 34 = 0 := fun g => ec (Or.inl g)
           have ec2 : ¬ 5 ≤ M 35 (M 50 34 - 1) := fun g => ec (Or.inr g)
           have := e35 ec1
           omega)
        | (rw [show q_us C 105 1 (M 50 34) = C from by rw [← ep]; exact us_same _ _ _])
set_option maxRecDepth 20000 in
set_option maxHeartbeats 4000000 in
theorem c_10_damage {K : q_K} {B M C : q_S} {a : Nat} (hT : K a = (11, 0, 100)) (hR : RC M C) (hI : MI M) (hW : WR M) (hB : q_tb K (M 50 16)) {c s : Nat} (hc : 1 ≤ c) (hs : 6 ≤ s) {pk : Int} (hpk : q_iI pk)  : q_E mX10_damage 0 [some (q_R a), some (q_I pk)] [] K B C c s (PB (damageF M pk) "java/lang/IndexOutOfBoundsException" "" "" K B) := by
  have h34 := rs_34 hW
  have hn8 := rt_n (rc_T hR)
  have hpk1 := hpk.1
  have hpk2 := hpk.2
  by_cases e0 : 0 ≤ pk ∧ pk < M 50 34
  · refine e_iload_n dX10_damage_0 rfl ?_
    refine e_aload_n dX10_damage_1 rfl ?_
    refine c_getR (kt := (9, 0, 105)) (by decide) (Or.inl (by decide)) dX10_damage_2 f_X10_29 hT rfl (Nat.succ_ne_zero _) (fun q_2 h_2 => ?_)
    refine c_getI (by decide) dX10_damage_5 f_X10_259 (Or.inl rfl) h_2 ?_
    rw [rs_packs hR]
    have g_5 := rs_34 hW
    refine e_cS (as := [_, _]) dX10_damage_8 k_X10_needIndex l_X10_99 s_X10_needIndex rfl rfl rfl rfl (Nat.le_of_ble_eq_true rfl) ⟨by decide, by decide⟩ (Nat.le_of_ble_eq_true rfl) (by decide) (c_nI1 hpk ⟨by omega, by omega⟩ (by omega)) ?_
    refine e_aload_n dX10_damage_11 rfl ?_
    refine c_getR (kt := (9, 0, 105)) (by decide) (Or.inl (by decide)) dX10_damage_12 f_X10_29 hT rfl (Nat.succ_ne_zero _) (fun q_12 h_12 => ?_)
    refine e_iload_n dX10_damage_15 rfl ?_
    refine e_cV (as := [_]) (ci := 8) dX10_damage_16 k_X8_damagePack l_X10_262 i_X8_damagePack v_X8_damagePack h_12 rfl (by decide) ⟨_, _, rfl⟩ rfl rfl rfl rfl (Nat.le_of_ble_eq_true rfl) ⟨by decide, by decide⟩ (Nat.le_of_ble_eq_true rfl) (by decide) (c_8_damagePack h_12 ⟨by omega, by omega⟩ hn8 (st_hi (rc_T hR) hW)) ?_
    exact e_iret dX10_damage_19 (Or.inl rfl) (pbm0 (X := (daF (thr M 0) pk 20000).2) (by unfold damageF; rw [if_neg (by omega), ← (rc_damage (rc_thr hR 0) (hW.thr ⟨by decide, by decide⟩) e0.1).2]) (by rw [daF_sp]; exact hB) (by rw [daF_sp]; rfl) (rc_damage (rc_thr hR 0) (hW.thr ⟨by decide, by decide⟩) e0.1).1)
  · refine e_iload_n dX10_damage_0 rfl ?_
    refine e_aload_n dX10_damage_1 rfl ?_
    refine c_getR (kt := (9, 0, 105)) (by decide) (Or.inl (by decide)) dX10_damage_2 f_X10_29 hT rfl (Nat.succ_ne_zero _) (fun q_2 h_2 => ?_)
    refine c_getI (by decide) dX10_damage_5 f_X10_259 (Or.inl rfl) h_2 ?_
    rw [rs_packs hR]
    have g_5 := rs_34 hW
    exact e_cST (as := [_, _]) dX10_damage_8 k_X10_needIndex l_X10_99 s_X10_needIndex rfl rfl rfl rfl (Nat.le_of_ble_eq_true rfl) ⟨by decide, by decide⟩ (Nat.le_of_ble_eq_true rfl) (by decide) (c_nI0 hpk ⟨by omega, by omega⟩ hc hs (by omega)) (pbq1 hB hR (by unfold damageF; rw [if_pos (by omega)]))
set_option maxRecDepth 20000 in
set_option maxHeartbeats 4000000 in
theorem c_10_scrub {K : q_K} {B M C : q_S} {a : Nat} (hT : K a = (11, 0, 100)) (hR : RC M C) (hI : MI M) (hW : WR M) (hB : q_tb K (M 50 16)) {c s : Nat} (hc : 1 ≤ c) (hs : 6 ≤ s)   : q_E mX10_scrub 0 [some (q_R a)] [] K B C c s (PB (scrubF M) "" "" "" K B) := by
  have hn8 := rt_n (rc_T hR)
  refine e_aload_n dX10_scrub_0 rfl ?_
  refine c_getR (kt := (9, 0, 105)) (by decide) (Or.inl (by decide)) dX10_scrub_1 f_X10_29 hT rfl (Nat.succ_ne_zero _) (fun q_1 h_1 => ?_)
  refine e_cV (as := []) (ci := 8) dX10_scrub_4 k_X8_mend l_X10_265 i_X8_mend v_X8_mend h_1 rfl (by decide) ⟨_, _, rfl⟩ rfl rfl rfl rfl (Nat.le_of_ble_eq_true rfl) ⟨by decide, by decide⟩ (Nat.le_of_ble_eq_true rfl) (by decide) (c_8_mend h_1 hn8 (st_hi (rc_T hR) hW)) ?_
  exact e_iret dX10_scrub_7 (Or.inl rfl) (pbm0 (X := (srF (thr M 0) 20000).2) (by unfold scrubF; rw [← (rc_mend (rc_thr hR 0) (hW.thr ⟨by decide, by decide⟩)).2]) (by rw [srF_sp]; exact hB) (by rw [srF_sp]; rfl) (rc_mend (rc_thr hR 0) (hW.thr ⟨by decide, by decide⟩)).1)
