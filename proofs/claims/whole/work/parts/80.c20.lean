set_option maxRecDepth 20000 in
set_option maxHeartbeats 4000000 in
theorem c_8_addMissing {K : q_K} {B M : q_S} {l : Nat} (hL : K l = (9, 0, 105)) {y : Nat} {c : Int} (hy : K y = (1, 0, 1000000 + 3 * c)) (hc : vcode c) (hI : MI M) (hW : WR M) (hP : PMI M) (hB : q_tb K (M 50 16)) {C : q_S} (hR : RC M C) {p : Int} (hp : 0 ≤ p ∧ p ≤ 100) (hC : CT (sendsF M c p).2) (hsz : C 105 0 ≤ 500) : q_E mX8_addMissing 0 [some (q_R l), some (q_R y), some (q_I p), none, none] [] K B C 0 0 (PX (some (q_I ((seF M p c (ncut c).toNat).2 50 39 - M 50 39))) (sendsF M c p).2 K B) := by
  have h16 := rs_16 hW
  have hc0 := hc.1
  have hcl := vcode_len hc
  have hnc := ncut_rg c
  have cg := (seF_cg (A := cutS M c) (B := M) (fun t j g => cutS_o g) p c (ncut c).toNat).2
  have hC2 : CT (seF M p c (ncut c).toNat).2 := by
    have w : CT (seF (cutS M c) p c (ncut c).toNat).2 := hC
    unfold CT at w ⊢
    rw [cg 50 34 (by decide), cg 50 37 (by decide), cg 50 38 (by decide), cg 50 39 (by decide), cg 50 16 (by decide)] at w
    exact w
  have sele : ∀ k : Nat, k ≤ (ncut c).toNat → LE (seF M p c k).2 (seF M p c (ncut c).toNat).2 := fun k hk => by
    have w := seF_le2 M p c k ((ncut c).toNat - k)
    rw [show k + ((ncut c).toNat - k) = (ncut c).toNat by omega] at w
    exact w
  have ctk : ∀ k : Nat, k ≤ (ncut c).toNat → CT (seF M p c k).2 := fun k hk => (sele k hk).ct hC2
  have lp : ∀ (r k : Nat) (C : q_S), k + r = (ncut c).toNat → ¬ (seF M p c k).1 = -1 → RC (amF M p c k) C → C 105 0 ≤ 500 + k → q_E mX8_addMissing 5 [some (q_R l), some (q_R y), some (q_I p), some (q_I (p - (seF M p c k).1)), some (q_I (k : Int))] [] K B C 0 0 (PX (some (q_I ((seF M p c (ncut c).toNat).2 50 39 - M 50 39))) (sendsF M c p).2 K B) := by
    intro r
    induction r with
    | zero =>
      intro k C h1 hk1 hRk hs
      have okk := am_ok (k := k) hW hI hP ((ctk k (by omega)))
      have hWk := okk.1
      have hIk := okk.2.1
      have hTk := rc_T hRk
      have hnk := rt_n hTk
      have hpr := pce_rg c (k : Int)
      have e39 := seF_39 hp.1 c (S := M) k
      rw [if_neg hk1] at e39
      have h39 := rs_39 hW
      have h39n := (ctk (ncut c).toNat (Nat.le_refl _)).2.2.2.1
      have le39 := (sele k (by omega)).2.2.2.1
      have hfz := fi_z hTk (x := pce c (k : Int)) ⟨by omega, by omega⟩
      have hfr := fi_rg hTk (pce c (k : Int))
      have e31 : amF M p c k 31 (pce c (k : Int)) = (seF M p c k).2 31 (pce c (k : Int)) := am_31
      refine e_iload dX8_addMissing_5 rfl ?_
      refine e_aload_n dX8_addMissing_7 rfl ?_
      refine c_getI (by omega) dX8_addMissing_8 f_X8_38 (Or.inl rfl) hy ?_
      rw [cc_1 (rc_C hRk) (c := c) (by assumption)]
      have g_8 := ncut_rg c
      skip
      refine e_icmp_ge (tgt := 62) dX8_addMissing_11 (by decide) ⟨by omega, by omega⟩ ⟨by omega, by omega⟩ (fun c_11 => ?_) (fun c_11 => ?_)
      · refine e_aload_n dX8_addMissing_62 rfl ?_
        refine e_dup dX8_addMissing_63 rfl ?_
        refine c_getI (by decide) dX8_addMissing_64 f_X8_18 (Or.inl rfl) hL ?_
        rw [(show C 105 2 = M 50 39 from (rs_upl hRk).trans am_39)]
        refine e_iload_n dX8_addMissing_67 rfl ?_
        refine e_iadd dX8_addMissing_68 ?_
        refine c_putI (by decide) dX8_addMissing_69 f_X8_18 rfl hL (by decide) ⟨by omega, by omega⟩ ?_
        refine e_iload_n dX8_addMissing_72 rfl ?_
        refine e_iret dX8_addMissing_73 (Or.inl rfl) ?_
        have ez : (seF M p c (ncut c).toNat).2 = (seF M p c k).2 ∧ (seF M p c (ncut c).toNat).2 50 39 = M 50 39 + (p - (seF M p c k).1) := by
          first
          | (have ek : (ncut c).toNat = k := by omega
             rw [ek]; exact ⟨rfl, e39.1⟩)
          | (have z := seF_zero (S := M) (p := p) (c := c) (k := k) (by omega) ((ncut c).toNat - k)
             rw [show k + ((ncut c).toNat - k) = (ncut c).toNat by omega] at z
             exact ⟨z.2, by rw [z.2]; exact e39.1⟩)
        have rE := am_end hRk h16.1 ez.1
        rw [ez.2] at rE
        rw [ez.2]
        refine ⟨by rw [show M 50 39 + (p - (seF M p c k).1) - M 50 39 = p - (seF M p c k).1 by omega], ⟨q_xt.rfl, by rw [sends_o (by decide) (by decide)]; exact hB⟩, rfl, rE⟩
      · exfalso; omega
    | succ r ih =>
      intro k C h1 hk1 hRk hs
      have okk := am_ok (k := k) hW hI hP ((ctk k (by omega)))
      have hWk := okk.1
      have hIk := okk.2.1
      have hTk := rc_T hRk
      have hnk := rt_n hTk
      have hpr := pce_rg c (k : Int)
      have e39 := seF_39 hp.1 c (S := M) k
      rw [if_neg hk1] at e39
      have h39 := rs_39 hW
      have h39n := (ctk (ncut c).toNat (Nat.le_refl _)).2.2.2.1
      have le39 := (sele k (by omega)).2.2.2.1
      have hfz := fi_z hTk (x := pce c (k : Int)) ⟨by omega, by omega⟩
      have hfr := fi_rg hTk (pce c (k : Int))
      have e31 : amF M p c k 31 (pce c (k : Int)) = (seF M p c k).2 31 (pce c (k : Int)) := am_31
      refine e_iload dX8_addMissing_5 rfl ?_
      refine e_aload_n dX8_addMissing_7 rfl ?_
      refine c_getI (by omega) dX8_addMissing_8 f_X8_38 (Or.inl rfl) hy ?_
      rw [cc_1 (rc_C hRk) (c := c) (by assumption)]
      have g_8 := ncut_rg c
      skip
      refine e_icmp_ge (tgt := 62) dX8_addMissing_11 (by decide) ⟨by omega, by omega⟩ ⟨by omega, by omega⟩ (fun c_11 => ?_) (fun c_11 => ?_)
      · exfalso; omega
      · refine e_iload_n dX8_addMissing_14 rfl ?_
        refine e_iload_n dX8_addMissing_15 rfl ?_
        refine e_icmp_ge (tgt := 62) dX8_addMissing_16 (by decide) ⟨by omega, by omega⟩ ⟨by omega, by omega⟩ (fun c_16 => ?_) (fun c_16 => ?_)
        · refine e_aload_n dX8_addMissing_62 rfl ?_
          refine e_dup dX8_addMissing_63 rfl ?_
          refine c_getI (by decide) dX8_addMissing_64 f_X8_18 (Or.inl rfl) hL ?_
          rw [(show C 105 2 = M 50 39 from (rs_upl hRk).trans am_39)]
          refine e_iload_n dX8_addMissing_67 rfl ?_
          refine e_iadd dX8_addMissing_68 ?_
          refine c_putI (by decide) dX8_addMissing_69 f_X8_18 rfl hL (by decide) ⟨by omega, by omega⟩ ?_
          refine e_iload_n dX8_addMissing_72 rfl ?_
          refine e_iret dX8_addMissing_73 (Or.inl rfl) ?_
          have ez : (seF M p c (ncut c).toNat).2 = (seF M p c k).2 ∧ (seF M p c (ncut c).toNat).2 50 39 = M 50 39 + (p - (seF M p c k).1) := by
            first
            | (have ek : (ncut c).toNat = k := by omega
               rw [ek]; exact ⟨rfl, e39.1⟩)
            | (have z := seF_zero (S := M) (p := p) (c := c) (k := k) (by omega) ((ncut c).toNat - k)
               rw [show k + ((ncut c).toNat - k) = (ncut c).toNat by omega] at z
               exact ⟨z.2, by rw [z.2]; exact e39.1⟩)
          have rE := am_end hRk h16.1 ez.1
          rw [ez.2] at rE
          rw [ez.2]
          refine ⟨by rw [show M 50 39 + (p - (seF M p c k).1) - M 50 39 = p - (seF M p c k).1 by omega], ⟨q_xt.rfl, by rw [sends_o (by decide) (by decide)]; exact hB⟩, rfl, rE⟩
        · refine e_aload_n dX8_addMissing_19 rfl ?_
          refine c_getI (by decide) dX8_addMissing_20 f_X8_9 (Or.inl rfl) hL ?_
          refine e_sipush dX8_addMissing_23 (by decide) ?_
          refine e_icmp_ge (tgt := 62) dX8_addMissing_26 (by decide) ⟨by omega, by omega⟩ ⟨by omega, by omega⟩ (fun c_26 => ?_) (fun c_26 => ?_)
          · exfalso; omega
          · refine e_aload_n dX8_addMissing_29 rfl ?_
            refine e_aload_n dX8_addMissing_30 rfl ?_
            refine e_iload dX8_addMissing_31 rfl ?_
            refine e_cV (as := [_]) (ci := 0) dX8_addMissing_33 k_X0_pieceIn l_X8_43 i_X0_pieceIn v_X0_pieceIn hy rfl (by decide) ⟨_, _, rfl⟩ rfl rfl rfl rfl (Nat.le_of_ble_eq_true rfl) ⟨by decide, by decide⟩ (Nat.le_of_ble_eq_true rfl) (by decide) (c_0_pieceIn hy hc hRk hIk hWk ⟨by omega, by omega⟩) ?_
            rw [if_pos ⟨by omega, by omega⟩]
            refine e_cV (as := [_]) (ci := 8) dX8_addMissing_36 k_X8_find l_X8_47 i_X8_find v_X8_find hL rfl (by decide) ⟨_, _, rfl⟩ rfl rfl rfl rfl (Nat.le_of_ble_eq_true rfl) ⟨by decide, by decide⟩ (Nat.le_of_ble_eq_true rfl) (by decide) (c_8_find hL hRk hIk hWk ⟨by omega, by omega⟩) ?_
            refine e_iconst dX8_addMissing_39 ?_
            refine e_icmp_ne (tgt := 56) dX8_addMissing_40 (by decide) ⟨by omega, by omega⟩ ⟨by omega, by omega⟩ (fun c_40 => ?_) (fun c_40 => ?_)
            · refine e_iinc (ls2 := [_, _, _, _, _]) dX8_addMissing_56 rfl (Nat.le_of_ble_eq_true rfl) rfl ?_
              refine e_goto (tgt := 5) dX8_addMissing_59 (by decide) ?_
              first
              | (have z : fi C (pce c (k : Int)) = -1 := c_40
                 have s31 : (seF M p c k).2 31 (pce c (k : Int)) = 0 := by rw [← e31]; exact hfz.mp z
                 have st := am_step hk1 s31 (by omega)
                 have en : asC C (C 105 0) (pce c (k : Int)) (pkF (amF M p c k)) 105 0 = C 105 0 + 1 := by simp only [asC_ap, and_self, if_true]
                 rw [show p - (seF M p c k).1 + 1 = p - (seF M p c (k + 1)).1 by rw [st.2]; omega, show (k : Int) + 1 = ((k + 1 : Nat) : Int) by omega]
                 exact ih (k + 1) _ (by omega) (by rw [st.2]; omega) (by rw [st.1]; exact rc_add hRk hWk ⟨by omega, by omega⟩ (by rw [e31]; exact s31) (by omega) am_39.symm) (by rw [en]; omega))
              | (have z : ¬ fi C (pce c (k : Int)) = -1 := c_40
                 have s31 : ¬ (seF M p c k).2 31 (pce c (k : Int)) = 0 := by rw [← e31]; exact fun g => z (hfz.mpr g)
                 have st := am_same (M := M) (p := p) s31
                 rw [show p - (seF M p c k).1 = p - (seF M p c (k + 1)).1 by rw [st.2], show (k : Int) + 1 = ((k + 1 : Nat) : Int) by omega]
                 exact ih (k + 1) _ (by omega) (by rw [st.2]; exact hk1) (by rw [st.1]; exact hRk) (by omega))
            · refine e_aload_n dX8_addMissing_43 rfl ?_
              refine e_aload_n dX8_addMissing_44 rfl ?_
              refine e_iload dX8_addMissing_45 rfl ?_
              refine e_cV (as := [_]) (ci := 0) dX8_addMissing_47 k_X0_pieceIn l_X8_43 i_X0_pieceIn v_X0_pieceIn hy rfl (by decide) ⟨_, _, rfl⟩ rfl rfl rfl rfl (Nat.le_of_ble_eq_true rfl) ⟨by decide, by decide⟩ (Nat.le_of_ble_eq_true rfl) (by decide) (c_0_pieceIn hy hc hRk hIk hWk ⟨by omega, by omega⟩) ?_
              rw [if_pos ⟨by omega, by omega⟩]
              refine e_cV (as := [_]) (ci := 8) dX8_addMissing_50 k_X8_add l_X8_50 i_X8_add v_X8_add hL rfl (by decide) ⟨_, _, rfl⟩ rfl rfl rfl rfl (Nat.le_of_ble_eq_true rfl) ⟨by decide, by decide⟩ (Nat.le_of_ble_eq_true rfl) (by decide) (c_8_add hL hRk hIk hWk okk.2.2 ⟨by omega, by omega⟩ (by omega) (am_pk hk1 (by rw [← e31]; exact hfz.mp c_40) (by omega) (ctk (k + 1) (by omega)))) ?_
              refine e_iinc (ls2 := [_, _, _, _, _]) dX8_addMissing_53 rfl (Nat.le_of_ble_eq_true rfl) rfl ?_
              refine e_iinc (ls2 := [_, _, _, _, _]) dX8_addMissing_56 rfl (Nat.le_of_ble_eq_true rfl) rfl ?_
              refine e_goto (tgt := 5) dX8_addMissing_59 (by decide) ?_
              first
              | (have z : fi C (pce c (k : Int)) = -1 := c_40
                 have s31 : (seF M p c k).2 31 (pce c (k : Int)) = 0 := by rw [← e31]; exact hfz.mp z
                 have st := am_step hk1 s31 (by omega)
                 have en : asC C (C 105 0) (pce c (k : Int)) (pkF (amF M p c k)) 105 0 = C 105 0 + 1 := by simp only [asC_ap, and_self, if_true]
                 rw [show p - (seF M p c k).1 + 1 = p - (seF M p c (k + 1)).1 by rw [st.2]; omega, show (k : Int) + 1 = ((k + 1 : Nat) : Int) by omega]
                 exact ih (k + 1) _ (by omega) (by rw [st.2]; omega) (by rw [st.1]; exact rc_add hRk hWk ⟨by omega, by omega⟩ (by rw [e31]; exact s31) (by omega) am_39.symm) (by rw [en]; omega))
              | (have z : ¬ fi C (pce c (k : Int)) = -1 := c_40
                 have s31 : ¬ (seF M p c k).2 31 (pce c (k : Int)) = 0 := by rw [← e31]; exact fun g => z (hfz.mpr g)
                 have st := am_same (M := M) (p := p) s31
                 rw [show p - (seF M p c k).1 = p - (seF M p c (k + 1)).1 by rw [st.2], show (k : Int) + 1 = ((k + 1 : Nat) : Int) by omega]
                 exact ih (k + 1) _ (by omega) (by rw [st.2]; exact hk1) (by rw [st.1]; exact hRk) (by omega))
  refine e_iconst dX8_addMissing_0 ?_
  refine e_istore_n (ls2 := [_, _, _, _, _]) dX8_addMissing_1 (Nat.le_of_ble_eq_true rfl) rfl ?_
  refine e_iconst dX8_addMissing_2 ?_
  refine e_istore (ls2 := [_, _, _, _, _]) dX8_addMissing_3 (Nat.le_of_ble_eq_true rfl) rfl ?_
  have e0 := lp (ncut c).toNat 0 C (by omega) (show ¬ p = -1 by omega) (by have w : amF M p c 0 = M := us_same M 50 39; rw [w]; exact hR) (by omega)
  rw [show p - (seF M p c 0).1 = 0 from Int.sub_self p] at e0
  exact e0
