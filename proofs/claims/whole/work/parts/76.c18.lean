set_option maxRecDepth 20000 in
set_option maxHeartbeats 4000000 in
theorem c_10_thin_l {K : q_K} {B M0 : q_S} {a : Nat} (hT : K a = (11, 0, 100)) (hW0 : WR M0) (hB : q_tb K (M0 50 16)) {c s : Nat} : ∀ (r k : Nat) (n i : Int) (M C : q_S), k + r = (M0 50 16).toNat → i = k → thF (thr M0 0) k = (n, M) → (0 ≤ n ∧ n ≤ k) → RC M C → MI M → q_E mX10_thin 4 [some (q_R a), some (q_I n), some (q_I i), none] [] K B C c s (PB (thinF M0) "" "" "" K B) := by
  intro r
  induction r with
  | zero =>
    intro k n i M C h1 h2 ea hn hR hI
    have hW : WR M := by have w := thF_ok (hW0.thr (z := 0) ⟨by decide, by decide⟩) k; rw [ea] at w; exact w
    have f0 : ∀ t j, t ≠ 22 → M t j = thr M0 0 t j := fun t j g => by have w := thF_o (M := thr M0 0) (j := j) g k; rw [ea] at w; exact w
    have em16 : M 50 16 = M0 50 16 := f0 50 16 (by decide)
    have h16 := rs_16 hW
    have ek : (M0 50 16).toNat = k := by omega
    have e41 : M 50 41 = 0 := f0 50 41 (by decide)
    refine e_iload_n dX10_thin_4 rfl ?_
    refine e_aload_n dX10_thin_5 rfl ?_
    refine c_getR (kt := (6, 0, 104)) (by decide) (Or.inl (by decide)) dX10_thin_6 f_X10_83 hT rfl (Nat.succ_ne_zero _) (fun q_6 h_6 => ?_)
    refine c_getI (by decide) dX10_thin_9 f_X10_159 (Or.inl rfl) h_6 ?_
    rw [rs_made hR]
    have g_9 := rs_16 hW
    refine e_icmp_ge (tgt := 54) dX10_thin_12 (by decide) ⟨by omega, by omega⟩ ⟨by omega, by omega⟩ (fun c_12 => ?_) (fun c_12 => ?_)
    · refine e_aload_n dX10_thin_54 rfl ?_
      refine e_cV (as := []) (ci := 10) dX10_thin_55 k_X10_dropPieces l_X10_249 i_X10_dropPieces v_X10_dropPieces hT rfl (by decide) ⟨_, _, rfl⟩ rfl rfl rfl rfl (Nat.le_of_ble_eq_true rfl) ⟨by decide, by decide⟩ (Nat.le_of_ble_eq_true rfl) (by decide) (c_10_dropPieces hT hR hI hW) ?_
      refine e_iload_n dX10_thin_58 rfl ?_
      exact e_iret dX10_thin_59 (Or.inl rfl) (pbm0 (X := dropsF M) (by unfold thinF; rw [ek, ea]) (by rw [dropsF_o (by decide) (by decide) (by decide) (by decide) (by decide) (by decide), em16]; exact hB) (by rw [dropsF_o (by decide) (by decide) (by decide) (by decide) (by decide) (by decide)]; exact e41) (rc_drops hR hW))
    · exfalso; omega
  | succ r ih =>
    intro k n i M C h1 h2 ea hn hR hI
    have hW : WR M := by have w := thF_ok (hW0.thr (z := 0) ⟨by decide, by decide⟩) k; rw [ea] at w; exact w
    have f0 : ∀ t j, t ≠ 22 → M t j = thr M0 0 t j := fun t j g => by have w := thF_o (M := thr M0 0) (j := j) g k; rw [ea] at w; exact w
    have em16 : M 50 16 = M0 50 16 := f0 50 16 (by decide)
    have h16 := rs_16 hW
    have hvt := vtag_rg (v := i) (by omega)
    have g22 : 0 ≤ M 22 i ∧ M 22 i ≤ 1 := hW 22 _
    have st : thF (thr M0 0) (k + 1) = if M 22 i = 0 ∧ heldI M i (M 50 27).toNat = 0 ∧ oldP M i then (n + 1, q_us M 22 i 1) else (n, M) := by
      simp only [thF]; rw [ea, h2]
    refine e_iload_n dX10_thin_4 rfl ?_
    refine e_aload_n dX10_thin_5 rfl ?_
    refine c_getR (kt := (6, 0, 104)) (by decide) (Or.inl (by decide)) dX10_thin_6 f_X10_83 hT rfl (Nat.succ_ne_zero _) (fun q_6 h_6 => ?_)
    refine c_getI (by decide) dX10_thin_9 f_X10_159 (Or.inl rfl) h_6 ?_
    rw [rs_made hR]
    have g_9 := rs_16 hW
    refine e_icmp_ge (tgt := 54) dX10_thin_12 (by decide) ⟨by omega, by omega⟩ ⟨by omega, by omega⟩ (fun c_12 => ?_) (fun c_12 => ?_)
    · exfalso; omega
    · refine e_aload_n dX10_thin_15 rfl ?_
      refine c_getR (kt := (6, 0, 104)) (by decide) (Or.inl (by decide)) dX10_thin_16 f_X10_83 hT rfl (Nat.succ_ne_zero _) (fun q_16 h_16 => ?_)
      refine e_iload_n dX10_thin_19 rfl ?_
      refine e_cVR (as := [_]) (ci := 5) (kr := (10, 0, (vtag i))) dX10_thin_20 k_X5_at l_X10_186 i_X5_at v_X5_at h_16 rfl (by decide) ⟨_, _, rfl⟩ rfl rfl rfl rfl (Nat.le_of_ble_eq_true rfl) ⟨by decide, by decide⟩ (Nat.le_of_ble_eq_true rfl) (by decide) (c_5_at h_16 hR hI hW ⟨by omega, by omega⟩) (fun q_20 h_20 => ?_)
      refine e_astore_n (ls2 := [_, _, _, _]) dX10_thin_23 (Nat.le_of_ble_eq_true rfl) rfl ?_
      refine e_aload_n dX10_thin_24 rfl ?_
      refine c_getI (by have := vtag_rg (v := i) (by omega); omega) dX10_thin_25 f_X10_241 (Or.inr rfl) h_20 ?_
      rw [rw_5 hR (v := i) ⟨by omega, by omega⟩]
      have g_25 : 0 ≤ M 22 i ∧ M 22 i ≤ 1 := hW 22 i
      refine e_if_eq (tgt := 48) dX10_thin_28 (by decide) ⟨by omega, by omega⟩ (fun c_28 => ?_) (fun c_28 => ?_)
      · refine e_iinc (ls2 := [_, _, _, _]) dX10_thin_48 rfl (Nat.le_of_ble_eq_true rfl) rfl ?_
        refine e_goto (tgt := 4) dX10_thin_51 (by decide) ?_
        refine e_drop (k := 3) (ls2 := [_, _, _, _]) rfl ?_
        first
        | exact ih (k + 1) _ _ _ _ (by omega) (by omega) (by rw [st, if_pos ⟨by omega, c_37⟩]) ⟨by omega, by omega⟩ (by rw [hvt.2]; exact rc_keep hR hW ⟨by omega, by omega⟩ (old_lat hI ⟨by omega, by omega⟩ c_37.2)) (mi_keep hI ⟨by omega, by omega⟩ (old_lat hI ⟨by omega, by omega⟩ c_37.2))
        | exact ih (k + 1) _ _ _ _ (by omega) (by omega) (by rw [st, if_neg (fun g => c_37 g.2)]) ⟨by omega, by omega⟩ hR hI
        | exact ih (k + 1) _ _ _ _ (by omega) (by omega) (by rw [st, if_neg (fun g => by have := g.1; omega)]) ⟨by omega, by omega⟩ hR hI
      · refine e_aload_n dX10_thin_31 rfl ?_
        refine e_iload_n dX10_thin_32 rfl ?_
        refine e_aload_n dX10_thin_33 rfl ?_
        refine e_cV (as := [_, _]) (ci := 10) dX10_thin_34 k_X10_isToBeDropped l_X10_246 i_X10_isToBeDropped v_X10_isToBeDropped hT rfl (by decide) ⟨_, _, rfl⟩ rfl rfl rfl rfl (Nat.le_of_ble_eq_true rfl) ⟨by decide, by decide⟩ (Nat.le_of_ble_eq_true rfl) (by decide) (c_10_isToBeDropped hT h_20 ⟨by omega, by omega⟩ hR hI hW (by omega)) ?_
        refine e_if_eq (tgt := 48) dX10_thin_37 (by decide) bi_iI (fun c_37 => ?_) (fun c_37 => ?_)
        · simp only [bi_z, Classical.not_not] at c_37
          refine e_iinc (ls2 := [_, _, _, _]) dX10_thin_48 rfl (Nat.le_of_ble_eq_true rfl) rfl ?_
          refine e_goto (tgt := 4) dX10_thin_51 (by decide) ?_
          refine e_drop (k := 3) (ls2 := [_, _, _, _]) rfl ?_
          first
          | exact ih (k + 1) _ _ _ _ (by omega) (by omega) (by rw [st, if_pos ⟨by omega, c_37⟩]) ⟨by omega, by omega⟩ (by rw [hvt.2]; exact rc_keep hR hW ⟨by omega, by omega⟩ (old_lat hI ⟨by omega, by omega⟩ c_37.2)) (mi_keep hI ⟨by omega, by omega⟩ (old_lat hI ⟨by omega, by omega⟩ c_37.2))
          | exact ih (k + 1) _ _ _ _ (by omega) (by omega) (by rw [st, if_neg (fun g => c_37 g.2)]) ⟨by omega, by omega⟩ hR hI
          | exact ih (k + 1) _ _ _ _ (by omega) (by omega) (by rw [st, if_neg (fun g => by have := g.1; omega)]) ⟨by omega, by omega⟩ hR hI
        · simp only [bi_z, Classical.not_not] at c_37
          refine e_aload_n dX10_thin_40 rfl ?_
          refine e_iconst dX10_thin_41 ?_
          refine c_putB (by omega) dX10_thin_42 f_X10_241 rfl h_20 (by omega) (by omega) ?_
          refine e_iinc (ls2 := [_, _, _, _]) dX10_thin_45 rfl (Nat.le_of_ble_eq_true rfl) rfl ?_
          refine e_iinc (ls2 := [_, _, _, _]) dX10_thin_48 rfl (Nat.le_of_ble_eq_true rfl) rfl ?_
          refine e_goto (tgt := 4) dX10_thin_51 (by decide) ?_
          refine e_drop (k := 3) (ls2 := [_, _, _, _]) rfl ?_
          first
          | exact ih (k + 1) _ _ _ _ (by omega) (by omega) (by rw [st, if_pos ⟨by omega, c_37⟩]) ⟨by omega, by omega⟩ (by rw [hvt.2]; exact rc_keep hR hW ⟨by omega, by omega⟩ (old_lat hI ⟨by omega, by omega⟩ c_37.2)) (mi_keep hI ⟨by omega, by omega⟩ (old_lat hI ⟨by omega, by omega⟩ c_37.2))
          | exact ih (k + 1) _ _ _ _ (by omega) (by omega) (by rw [st, if_neg (fun g => c_37 g.2)]) ⟨by omega, by omega⟩ hR hI
          | exact ih (k + 1) _ _ _ _ (by omega) (by omega) (by rw [st, if_neg (fun g => by have := g.1; omega)]) ⟨by omega, by omega⟩ hR hI
set_option maxRecDepth 20000 in
set_option maxHeartbeats 4000000 in
theorem c_10_thin {K : q_K} {B M C : q_S} {a : Nat} (hT : K a = (11, 0, 100)) (hR : RC M C) (hI : MI M) (hW : WR M) (hB : q_tb K (M 50 16)) {c s : Nat} (hc : 1 ≤ c) (hs : 6 ≤ s)   : q_E mX10_thin 0 [some (q_R a), none, none, none] [] K B C c s (PB (thinF M) "" "" "" K B) := by
  refine e_iconst dX10_thin_0 ?_
  refine e_istore_n (ls2 := [_, _, _, _]) dX10_thin_1 (Nat.le_of_ble_eq_true rfl) rfl ?_
  refine e_iconst dX10_thin_2 ?_
  refine e_istore_n (ls2 := [_, _, _, _]) dX10_thin_3 (Nat.le_of_ble_eq_true rfl) rfl ?_
  exact c_10_thin_l hT hW hB (M0 := M) (M 50 16).toNat 0 0 0 (thr M 0) C (by omega) rfl rfl ⟨by omega, by omega⟩ (rc_thr hR 0) (mi_thr hI 0)
set_option maxRecDepth 20000 in
set_option maxHeartbeats 4000000 in
theorem c_10_restore {K : q_K} {B M C : q_S} {a : Nat} (hT : K a = (11, 0, 100)) (hR : RC M C) (hI : MI M) (hW : WR M) (hB : q_tb K (M 50 16)) {c s : Nat} (hc : 1 ≤ c) (hs : 6 ≤ s) {f t : Int} (hf : q_iI f) (ht : q_iI t)  : q_E mX10_restore 0 [some (q_R a), some (q_I f), some (q_I t)] [] K B C c s (PB (restoreF M f t) "java/lang/IndexOutOfBoundsException" "java/lang/IllegalArgumentException" "java/lang/IllegalStateException" K B) := by
  have h16 := rs_16 hW
  have h01 := rs_1 hW
  have hf1 := hf.1
  have hf2 := hf.2
  have ht1 := ht.1
  have ht2 := ht.2
  by_cases e0 : 0 ≤ f ∧ f < 16
  · by_cases e1 : 0 ≤ t ∧ t ≤ M 50 1
    · by_cases e2 : M 50 16 ≤ 100
      · refine e_iload_n dX10_restore_0 rfl ?_
        refine e_bipush dX10_restore_1 (by decide) ?_
        refine e_cS (as := [_, _]) dX10_restore_3 k_X10_needIndex l_X10_99 s_X10_needIndex rfl rfl rfl rfl (Nat.le_of_ble_eq_true rfl) ⟨by decide, by decide⟩ (Nat.le_of_ble_eq_true rfl) (by decide) (c_nI1 hf ⟨by decide, by decide⟩ (by omega)) ?_
        refine e_iload_n dX10_restore_6 rfl ?_
        refine e_iconst dX10_restore_7 ?_
        refine e_aload_n dX10_restore_8 rfl ?_
        refine c_getI (by decide) dX10_restore_9 f_X10_58 (Or.inl rfl) hT ?_
        rw [rs_now hR]
        have g_9 := rs_1 hW
        refine e_cS (as := [_, _, _]) dX10_restore_12 k_X10_needRange l_X10_88 s_X10_needRange rfl rfl rfl rfl (Nat.le_of_ble_eq_true rfl) ⟨by decide, by decide⟩ (Nat.le_of_ble_eq_true rfl) (by decide) (c_nR1 ht ⟨by decide, by decide⟩ ⟨by omega, by omega⟩ (by omega)) ?_
        refine e_aload_n dX10_restore_15 rfl ?_
        refine e_cV (as := []) (ci := 10) dX10_restore_16 k_X10_needFewVersions l_X10_156 i_X10_needFewVersions v_X10_needFewVersions hT rfl (by decide) ⟨_, _, rfl⟩ rfl rfl rfl rfl (Nat.le_of_ble_eq_true rfl) ⟨by decide, by decide⟩ (Nat.le_of_ble_eq_true rfl) (by decide) (c_nF1 hT hR hI hW (by omega)) ?_
        refine e_aload_n dX10_restore_19 rfl ?_
        refine e_iload_n dX10_restore_20 rfl ?_
        refine e_iload_n dX10_restore_21 rfl ?_
        refine e_cVX (as := [_, _]) (ci := 10) (c1 := 1) (s1 := 6) (c2 := 0) (s2 := 0) dX10_restore_22 k_X10_makeAsOf l_X10_252 i_X10_makeAsOf v_X10_makeAsOf hT rfl (by decide) ⟨_, _, rfl⟩ rfl rfl rfl rfl (Nat.le_of_ble_eq_true rfl) ⟨by decide, by decide⟩ (by omega) (by omega) (Nat.le_of_ble_eq_true rfl) (by decide) (c_10_makeAsOf (M := thr M 0) hT (rc_thr hR 0) (mi_thr hI 0) (hW.thr ⟨by decide, by decide⟩) hB ⟨by omega, by omega⟩ ⟨by omega, by omega⟩ (by show M 50 16 < 120; omega)) (fun K2 C2 x2 hB2 hR2 => ?_)
        have ro := restores_ok (t := t) (hW.thr (z := 0) ⟨by decide, by decide⟩) (mi_thr hI 0) (f := f) ⟨by omega, by omega⟩ (by show M 50 16 < 120; omega)
        exact e_iret dX10_restore_25 (Or.inl rfl) (pbm1 (X := (restoresF (thr M 0) f t).2) (by unfold restoreF; rw [if_neg (by omega), if_neg (by omega), if_neg (by omega)]) x2 hB2 (by rw [ro.2.2.2.1]; rfl) hR2)
      · refine e_iload_n dX10_restore_0 rfl ?_
        refine e_bipush dX10_restore_1 (by decide) ?_
        refine e_cS (as := [_, _]) dX10_restore_3 k_X10_needIndex l_X10_99 s_X10_needIndex rfl rfl rfl rfl (Nat.le_of_ble_eq_true rfl) ⟨by decide, by decide⟩ (Nat.le_of_ble_eq_true rfl) (by decide) (c_nI1 hf ⟨by decide, by decide⟩ (by omega)) ?_
        refine e_iload_n dX10_restore_6 rfl ?_
        refine e_iconst dX10_restore_7 ?_
        refine e_aload_n dX10_restore_8 rfl ?_
        refine c_getI (by decide) dX10_restore_9 f_X10_58 (Or.inl rfl) hT ?_
        rw [rs_now hR]
        have g_9 := rs_1 hW
        refine e_cS (as := [_, _, _]) dX10_restore_12 k_X10_needRange l_X10_88 s_X10_needRange rfl rfl rfl rfl (Nat.le_of_ble_eq_true rfl) ⟨by decide, by decide⟩ (Nat.le_of_ble_eq_true rfl) (by decide) (c_nR1 ht ⟨by decide, by decide⟩ ⟨by omega, by omega⟩ (by omega)) ?_
        refine e_aload_n dX10_restore_15 rfl ?_
        exact e_cVT (as := []) (ci := 10) dX10_restore_16 k_X10_needFewVersions l_X10_156 i_X10_needFewVersions v_X10_needFewVersions hT rfl (by decide) ⟨_, _, rfl⟩ rfl rfl rfl rfl (Nat.le_of_ble_eq_true rfl) ⟨by decide, by decide⟩ (Nat.le_of_ble_eq_true rfl) (by decide) (c_nF0 hT hR hI hW hc hs (by omega)) (pbq3 hB hR (by unfold restoreF; rw [if_neg (by omega), if_neg (by omega), if_pos (by omega)]))
    · refine e_iload_n dX10_restore_0 rfl ?_
      refine e_bipush dX10_restore_1 (by decide) ?_
      refine e_cS (as := [_, _]) dX10_restore_3 k_X10_needIndex l_X10_99 s_X10_needIndex rfl rfl rfl rfl (Nat.le_of_ble_eq_true rfl) ⟨by decide, by decide⟩ (Nat.le_of_ble_eq_true rfl) (by decide) (c_nI1 hf ⟨by decide, by decide⟩ (by omega)) ?_
      refine e_iload_n dX10_restore_6 rfl ?_
      refine e_iconst dX10_restore_7 ?_
      refine e_aload_n dX10_restore_8 rfl ?_
      refine c_getI (by decide) dX10_restore_9 f_X10_58 (Or.inl rfl) hT ?_
      rw [rs_now hR]
      have g_9 := rs_1 hW
      exact e_cST (as := [_, _, _]) dX10_restore_12 k_X10_needRange l_X10_88 s_X10_needRange rfl rfl rfl rfl (Nat.le_of_ble_eq_true rfl) ⟨by decide, by decide⟩ (Nat.le_of_ble_eq_true rfl) (by decide) (c_nR0 ht ⟨by decide, by decide⟩ ⟨by omega, by omega⟩ hc hs (by omega)) (pbq2 hB hR (by unfold restoreF; rw [if_neg (by omega), if_pos (by omega)]))
  · refine e_iload_n dX10_restore_0 rfl ?_
    refine e_bipush dX10_restore_1 (by decide) ?_
    exact e_cST (as := [_, _]) dX10_restore_3 k_X10_needIndex l_X10_99 s_X10_needIndex rfl rfl rfl rfl (Nat.le_of_ble_eq_true rfl) ⟨by decide, by decide⟩ (Nat.le_of_ble_eq_true rfl) (by decide) (c_nI0 hf ⟨by decide, by decide⟩ hc hs (by omega)) (pbq1 hB hR (by unfold restoreF; rw [if_pos (by omega)]))
set_option maxRecDepth 20000 in
set_option maxHeartbeats 4000000 in
theorem c_10_rf_l {B M0 : q_S} {a : Nat} (hW0 : WR M0) (hI0 : MI M0) (h100 : M0 50 16 ≤ 100) {d t : Int} (hd : 0 ≤ d ∧ d ≤ 3) (ht : 0 ≤ t ∧ t ≤ M0 50 1) {b : Int} (hb : b = M0 50 16) : ∀ (r k : Nat) {K : q_K} (n i : Int) (M : q_S) {C : q_S} (hT : K a = (11, 0, 100)), k + r = 16 → i = k → rfF (thr M0 0) d t k = (n, M) → RC M C → q_tb K (M 50 16) → ∀ {c s : Nat}, r ≤ c → 6 * r ≤ s → q_E mX10_restoreFolder 29 [some (q_R a), some (q_I d), some (q_I t), some (q_I b), some (q_I i), none, none] [] K B C c s (PB (restoreFolderF M0 d t) "java/lang/IndexOutOfBoundsException" "java/lang/IllegalArgumentException" "java/lang/IllegalStateException" K B) := by
  have g01 := rs_1 hW0
  have g016 := rs_16 hW0
  intro r
  induction r with
  | zero =>
    intro k K n i M C hT h1 h2 ea hR hB c s hc hs
    have ok := rf_ok (hW0.thr (z := 0) ⟨by decide, by decide⟩) (mi_thr hI0 0) h100 d t k (by omega)
    rw [show (rfF (thr M0 0) d t k).2 = M from by rw [ea]] at ok
    have hW := ok.1
    have hI := ok.2.1
    have h16 := rs_16 hW
    have ok3 : n = M 50 16 - M0 50 16 := by have w := ok.2.2.1; rw [ea] at w; exact w
    have ok4 : M 50 16 ≤ M0 50 16 + k := ok.2.2.2.1
    have e41 : M 50 41 = 0 := ok.2.2.2.2.1
    have ek : k = 16 := by omega
    refine e_iload dX10_restoreFolder_29 rfl ?_
    refine e_bipush dX10_restoreFolder_31 (by decide) ?_
    refine e_icmp_ge (tgt := 105) dX10_restoreFolder_33 (by decide) ⟨by omega, by omega⟩ ⟨by omega, by omega⟩ (fun c_33 => ?_) (fun c_33 => ?_)
    · refine e_aload_n dX10_restoreFolder_105 rfl ?_
      refine c_getR (kt := (6, 0, 104)) (by decide) (Or.inl (by decide)) dX10_restoreFolder_106 f_X10_83 hT rfl (Nat.succ_ne_zero _) (fun q_106 h_106 => ?_)
      refine c_getI (by decide) dX10_restoreFolder_109 f_X10_159 (Or.inl rfl) h_106 ?_
      rw [rs_made hR]
      have g_109 := rs_16 hW
      refine e_iload_n dX10_restoreFolder_112 rfl ?_
      refine e_isub dX10_restoreFolder_113 ?_
      exact e_iret dX10_restoreFolder_114 (Or.inl rfl) (pbm0 (X := M) (by unfold restoreFolderF; rw [if_neg (by omega), if_neg (by omega), if_neg (by omega), ← ek, ea, ok3, hb]) hB e41 hR)
    · exfalso; omega
  | succ r ih =>
    intro k K n i M C hT h1 h2 ea hR hB c s hc hs
    have ok := rf_ok (hW0.thr (z := 0) ⟨by decide, by decide⟩) (mi_thr hI0 0) h100 d t k (by omega)
    rw [show (rfF (thr M0 0) d t k).2 = M from by rw [ea]] at ok
    have hW := ok.1
    have hI := ok.2.1
    have h16 := rs_16 hW
    have ok3 : n = M 50 16 - M0 50 16 := by have w := ok.2.2.1; rw [ea] at w; exact w
    have ok4 : M 50 16 ≤ M0 50 16 + k := ok.2.2.2.1
    have e41 : M 50 41 = 0 := ok.2.2.2.2.1
    have hia := asOfT_rg hW i t
    have hil := latestOf_rg hW i
    have va := vfo_d hW (v := (asOfT M i t)) hd.1
    have vl := vfo_d hW (v := (latestOf M i)) hd.1
    have gva := vfo_rg hW (asOfT M i t)
    have gvl := vfo_rg hW (latestOf M i)
    have st : rfF (thr M0 0) d t (k + 1) = if (isInP M (asOfT M i t) ∧ M 20 (asOfT M i t) = d) ∨ (isInP M (latestOf M i) ∧ M 20 (latestOf M i) = d) then (n + (if (restoresF M i t).1 = -1 then 0 else 1), (restoresF M i t).2) else (n, M) := by
      simp only [rfF]; rw [ea, h2]
    refine e_iload dX10_restoreFolder_29 rfl ?_
    refine e_bipush dX10_restoreFolder_31 (by decide) ?_
    refine e_icmp_ge (tgt := 105) dX10_restoreFolder_33 (by decide) ⟨by omega, by omega⟩ ⟨by omega, by omega⟩ (fun c_33 => ?_) (fun c_33 => ?_)
    · exfalso; omega
    · refine e_aload_n dX10_restoreFolder_36 rfl ?_
      refine c_getR (kt := (6, 0, 104)) (by decide) (Or.inl (by decide)) dX10_restoreFolder_37 f_X10_83 hT rfl (Nat.succ_ne_zero _) (fun q_37 h_37 => ?_)
      refine e_aload_n dX10_restoreFolder_40 rfl ?_
      refine c_getR (kt := (6, 0, 104)) (by decide) (Or.inl (by decide)) dX10_restoreFolder_41 f_X10_83 hT rfl (Nat.succ_ne_zero _) (fun q_41 h_41 => ?_)
      refine e_iload dX10_restoreFolder_44 rfl ?_
      refine e_iload_n dX10_restoreFolder_46 rfl ?_
      refine e_cV (as := [_, _]) (ci := 5) dX10_restoreFolder_47 k_X5_lastUpTo l_X10_255 i_X5_lastUpTo v_X5_lastUpTo h_41 rfl (by decide) ⟨_, _, rfl⟩ rfl rfl rfl rfl (Nat.le_of_ble_eq_true rfl) ⟨by decide, by decide⟩ (Nat.le_of_ble_eq_true rfl) (by decide) (c_5_lastUpTo h_41 hR hI hW ⟨by omega, by omega⟩ ⟨by omega, by omega⟩) ?_
      refine e_cVR (as := [_]) (ci := 5) (kr := (10, 0, (vtag (asOfT M i t)))) dX10_restoreFolder_50 k_X5_at l_X10_186 i_X5_at v_X5_at h_37 rfl (by decide) ⟨_, _, rfl⟩ rfl rfl rfl rfl (Nat.le_of_ble_eq_true rfl) ⟨by decide, by decide⟩ (Nat.le_of_ble_eq_true rfl) (by decide) (c_5_at h_37 hR hI hW ⟨by omega, by omega⟩) (fun q_50 h_50 => ?_)
      refine c_getI (by have := vtag_rg (v := (asOfT M i t)) (by omega); omega) dX10_restoreFolder_53 f_X10_258 (Or.inl rfl) h_50 ?_
      rw [rv_3 hR (v := (asOfT M i t)) ⟨by omega, by omega⟩]
      have g_53 := vfo_rg hW (asOfT M i t)
      refine e_istore (ls2 := [_, _, _, _, _, _, _]) dX10_restoreFolder_56 (Nat.le_of_ble_eq_true rfl) rfl ?_
      refine e_aload_n dX10_restoreFolder_58 rfl ?_
      refine c_getR (kt := (6, 0, 104)) (by decide) (Or.inl (by decide)) dX10_restoreFolder_59 f_X10_83 hT rfl (Nat.succ_ne_zero _) (fun q_59 h_59 => ?_)
      refine e_aload_n dX10_restoreFolder_62 rfl ?_
      refine c_getR (kt := (6, 0, 104)) (by decide) (Or.inl (by decide)) dX10_restoreFolder_63 f_X10_83 hT rfl (Nat.succ_ne_zero _) (fun q_63 h_63 => ?_)
      refine e_iload dX10_restoreFolder_66 rfl ?_
      refine e_cV (as := [_]) (ci := 5) dX10_restoreFolder_68 k_X5_latestOf l_X10_183 i_X5_latestOf v_X5_latestOf h_63 rfl (by decide) ⟨_, _, rfl⟩ rfl rfl rfl rfl (Nat.le_of_ble_eq_true rfl) ⟨by decide, by decide⟩ (Nat.le_of_ble_eq_true rfl) (by decide) (c_5_latestOf h_63 hR hI hW ⟨by omega, by omega⟩) ?_
      have g_68 := latestOf_rg hW i
      refine e_cVR (as := [_]) (ci := 5) (kr := (10, 0, (vtag (latestOf M i)))) dX10_restoreFolder_71 k_X5_at l_X10_186 i_X5_at v_X5_at h_59 rfl (by decide) ⟨_, _, rfl⟩ rfl rfl rfl rfl (Nat.le_of_ble_eq_true rfl) ⟨by decide, by decide⟩ (Nat.le_of_ble_eq_true rfl) (by decide) (c_5_at h_59 hR hI hW ⟨by omega, by omega⟩) (fun q_71 h_71 => ?_)
      refine c_getI (by have := vtag_rg (v := (latestOf M i)) (by omega); omega) dX10_restoreFolder_74 f_X10_258 (Or.inl rfl) h_71 ?_
      rw [rv_3 hR (v := (latestOf M i)) ⟨by omega, by omega⟩]
      have g_74 := vfo_rg hW (latestOf M i)
      refine e_istore (ls2 := [_, _, _, _, _, _, _]) dX10_restoreFolder_77 (Nat.le_of_ble_eq_true rfl) rfl ?_
      refine e_iload dX10_restoreFolder_79 rfl ?_
      refine e_iload_n dX10_restoreFolder_81 rfl ?_
      refine e_icmp_eq (tgt := 91) dX10_restoreFolder_82 (by decide) ⟨by omega, by omega⟩ ⟨by omega, by omega⟩ (fun c_82 => ?_) (fun c_82 => ?_)
      · refine e_aload_n dX10_restoreFolder_91 rfl ?_
        refine e_iload dX10_restoreFolder_92 rfl ?_
        refine e_iload_n dX10_restoreFolder_94 rfl ?_
        refine e_cVX (as := [_, _]) (ci := 10) (c1 := 1) (s1 := 6) (c2 := (c - 1)) (s2 := (s - 6)) dX10_restoreFolder_95 k_X10_makeAsOf l_X10_252 i_X10_makeAsOf v_X10_makeAsOf hT rfl (by decide) ⟨_, _, rfl⟩ rfl rfl rfl rfl (Nat.le_of_ble_eq_true rfl) ⟨by decide, by decide⟩ (by omega) (by omega) (Nat.le_of_ble_eq_true rfl) (by decide) (c_10_makeAsOf hT hR hI hW hB ⟨by omega, by omega⟩ ⟨by omega, by omega⟩ (by omega)) (fun K2 C2 x2 hB2 hR2 => ?_)
        have hT9 := xt_get x2 hT (Nat.succ_ne_zero _)
        refine e_pop dX10_restoreFolder_98 rfl ?_
        refine e_iinc (ls2 := [_, _, _, _, _, _, _]) dX10_restoreFolder_99 rfl (Nat.le_of_ble_eq_true rfl) rfl ?_
        refine e_goto (tgt := 29) dX10_restoreFolder_102 (by decide) ?_
        refine e_drop (k := 5) (ls2 := [_, _, _, _, _, _, _]) rfl ?_
        refine e_drop (k := 6) (ls2 := [_, _, _, _, _, _, _]) rfl ?_
        have ro := restores_ok (t := t) hW hI (f := i) ⟨by omega, by omega⟩ (by omega)
        refine e_conseq (fun _ _ _ _ g => pb_xt x2 g) (ih (k + 1) _ _ _ hT9 (by omega) (by omega) (by rw [st, if_pos (by first | exact Or.inl (va.mp c_82) | exact Or.inr (vl.mp (Classical.not_not.mp c_88)) | exact Or.inr (vl.mp c_88))]) hR2 hB2 (by omega) (by omega))
      · refine e_iload dX10_restoreFolder_85 rfl ?_
        refine e_iload_n dX10_restoreFolder_87 rfl ?_
        refine e_icmp_ne (tgt := 99) dX10_restoreFolder_88 (by decide) ⟨by omega, by omega⟩ ⟨by omega, by omega⟩ (fun c_88 => ?_) (fun c_88 => ?_)
        · refine e_iinc (ls2 := [_, _, _, _, _, _, _]) dX10_restoreFolder_99 rfl (Nat.le_of_ble_eq_true rfl) rfl ?_
          refine e_goto (tgt := 29) dX10_restoreFolder_102 (by decide) ?_
          refine e_drop (k := 5) (ls2 := [_, _, _, _, _, _, _]) rfl ?_
          refine e_drop (k := 6) (ls2 := [_, _, _, _, _, _, _]) rfl ?_
          exact ih (k + 1) _ _ _ hT (by omega) (by omega) (by rw [st, if_neg (fun g => g.elim (fun g => c_82 (va.mpr g)) (fun g => c_88 (vl.mpr g)))]) hR hB (by omega) (by omega)
        · refine e_aload_n dX10_restoreFolder_91 rfl ?_
          refine e_iload dX10_restoreFolder_92 rfl ?_
          refine e_iload_n dX10_restoreFolder_94 rfl ?_
          refine e_cVX (as := [_, _]) (ci := 10) (c1 := 1) (s1 := 6) (c2 := (c - 1)) (s2 := (s - 6)) dX10_restoreFolder_95 k_X10_makeAsOf l_X10_252 i_X10_makeAsOf v_X10_makeAsOf hT rfl (by decide) ⟨_, _, rfl⟩ rfl rfl rfl rfl (Nat.le_of_ble_eq_true rfl) ⟨by decide, by decide⟩ (by omega) (by omega) (Nat.le_of_ble_eq_true rfl) (by decide) (c_10_makeAsOf hT hR hI hW hB ⟨by omega, by omega⟩ ⟨by omega, by omega⟩ (by omega)) (fun K2 C2 x2 hB2 hR2 => ?_)
          have hT9 := xt_get x2 hT (Nat.succ_ne_zero _)
          refine e_pop dX10_restoreFolder_98 rfl ?_
          refine e_iinc (ls2 := [_, _, _, _, _, _, _]) dX10_restoreFolder_99 rfl (Nat.le_of_ble_eq_true rfl) rfl ?_
          refine e_goto (tgt := 29) dX10_restoreFolder_102 (by decide) ?_
          refine e_drop (k := 5) (ls2 := [_, _, _, _, _, _, _]) rfl ?_
          refine e_drop (k := 6) (ls2 := [_, _, _, _, _, _, _]) rfl ?_
          have ro := restores_ok (t := t) hW hI (f := i) ⟨by omega, by omega⟩ (by omega)
          refine e_conseq (fun _ _ _ _ g => pb_xt x2 g) (ih (k + 1) _ _ _ hT9 (by omega) (by omega) (by rw [st, if_pos (by first | exact Or.inl (va.mp c_82) | exact Or.inr (vl.mp (Classical.not_not.mp c_88)) | exact Or.inr (vl.mp c_88))]) hR2 hB2 (by omega) (by omega))
set_option maxRecDepth 20000 in
set_option maxHeartbeats 4000000 in
theorem c_10_restoreFolder {K : q_K} {B M C : q_S} {a : Nat} (hT : K a = (11, 0, 100)) (hR : RC M C) (hI : MI M) (hW : WR M) (hB : q_tb K (M 50 16)) {c s : Nat} (hc : 1 ≤ c) (hs : 6 ≤ s) {d t : Int} (hd : q_iI d) (ht : q_iI t) (hc16 : 16 ≤ c) (hs96 : 96 ≤ s) : q_E mX10_restoreFolder 0 [some (q_R a), some (q_I d), some (q_I t), none, none, none, none] [] K B C c s (PB (restoreFolderF M d t) "java/lang/IndexOutOfBoundsException" "java/lang/IllegalArgumentException" "java/lang/IllegalStateException" K B) := by
  have h16 := rs_16 hW
  have h01 := rs_1 hW
  have hd1 := hd.1
  have hd2 := hd.2
  have ht1 := ht.1
  have ht2 := ht.2
  by_cases e0 : 0 ≤ d ∧ d < 4
  · by_cases e1 : 0 ≤ t ∧ t ≤ M 50 1
    · by_cases e2 : M 50 16 ≤ 100
      · refine e_iload_n dX10_restoreFolder_0 rfl ?_
        refine e_iconst dX10_restoreFolder_1 ?_
        refine e_cS (as := [_, _]) dX10_restoreFolder_2 k_X10_needIndex l_X10_99 s_X10_needIndex rfl rfl rfl rfl (Nat.le_of_ble_eq_true rfl) ⟨by decide, by decide⟩ (Nat.le_of_ble_eq_true rfl) (by decide) (c_nI1 hd ⟨by decide, by decide⟩ (by omega)) ?_
        refine e_iload_n dX10_restoreFolder_5 rfl ?_
        refine e_iconst dX10_restoreFolder_6 ?_
        refine e_aload_n dX10_restoreFolder_7 rfl ?_
        refine c_getI (by decide) dX10_restoreFolder_8 f_X10_58 (Or.inl rfl) hT ?_
        rw [rs_now hR]
        have g_8 := rs_1 hW
        refine e_cS (as := [_, _, _]) dX10_restoreFolder_11 k_X10_needRange l_X10_88 s_X10_needRange rfl rfl rfl rfl (Nat.le_of_ble_eq_true rfl) ⟨by decide, by decide⟩ (Nat.le_of_ble_eq_true rfl) (by decide) (c_nR1 ht ⟨by decide, by decide⟩ ⟨by omega, by omega⟩ (by omega)) ?_
        refine e_aload_n dX10_restoreFolder_14 rfl ?_
        refine e_cV (as := []) (ci := 10) dX10_restoreFolder_15 k_X10_needFewVersions l_X10_156 i_X10_needFewVersions v_X10_needFewVersions hT rfl (by decide) ⟨_, _, rfl⟩ rfl rfl rfl rfl (Nat.le_of_ble_eq_true rfl) ⟨by decide, by decide⟩ (Nat.le_of_ble_eq_true rfl) (by decide) (c_nF1 hT hR hI hW (by omega)) ?_
        refine e_aload_n dX10_restoreFolder_18 rfl ?_
        refine c_getR (kt := (6, 0, 104)) (by decide) (Or.inl (by decide)) dX10_restoreFolder_19 f_X10_83 hT rfl (Nat.succ_ne_zero _) (fun q_19 h_19 => ?_)
        refine c_getI (by decide) dX10_restoreFolder_22 f_X10_159 (Or.inl rfl) h_19 ?_
        rw [rs_made hR]
        have g_22 := rs_16 hW
        refine e_istore_n (ls2 := [_, _, _, _, _, _, _]) dX10_restoreFolder_25 (Nat.le_of_ble_eq_true rfl) rfl ?_
        refine e_iconst dX10_restoreFolder_26 ?_
        refine e_istore (ls2 := [_, _, _, _, _, _, _]) dX10_restoreFolder_27 (Nat.le_of_ble_eq_true rfl) rfl ?_
        exact c_10_rf_l hW hI (by omega) ⟨by omega, by omega⟩ ⟨by omega, by omega⟩ rfl 16 0 0 0 (thr M 0) hT (by omega) rfl rfl (rc_thr hR 0) hB hc16 hs96
      · refine e_iload_n dX10_restoreFolder_0 rfl ?_
        refine e_iconst dX10_restoreFolder_1 ?_
        refine e_cS (as := [_, _]) dX10_restoreFolder_2 k_X10_needIndex l_X10_99 s_X10_needIndex rfl rfl rfl rfl (Nat.le_of_ble_eq_true rfl) ⟨by decide, by decide⟩ (Nat.le_of_ble_eq_true rfl) (by decide) (c_nI1 hd ⟨by decide, by decide⟩ (by omega)) ?_
        refine e_iload_n dX10_restoreFolder_5 rfl ?_
        refine e_iconst dX10_restoreFolder_6 ?_
        refine e_aload_n dX10_restoreFolder_7 rfl ?_
        refine c_getI (by decide) dX10_restoreFolder_8 f_X10_58 (Or.inl rfl) hT ?_
        rw [rs_now hR]
        have g_8 := rs_1 hW
        refine e_cS (as := [_, _, _]) dX10_restoreFolder_11 k_X10_needRange l_X10_88 s_X10_needRange rfl rfl rfl rfl (Nat.le_of_ble_eq_true rfl) ⟨by decide, by decide⟩ (Nat.le_of_ble_eq_true rfl) (by decide) (c_nR1 ht ⟨by decide, by decide⟩ ⟨by omega, by omega⟩ (by omega)) ?_
        refine e_aload_n dX10_restoreFolder_14 rfl ?_
        exact e_cVT (as := []) (ci := 10) dX10_restoreFolder_15 k_X10_needFewVersions l_X10_156 i_X10_needFewVersions v_X10_needFewVersions hT rfl (by decide) ⟨_, _, rfl⟩ rfl rfl rfl rfl (Nat.le_of_ble_eq_true rfl) ⟨by decide, by decide⟩ (Nat.le_of_ble_eq_true rfl) (by decide) (c_nF0 hT hR hI hW hc hs (by omega)) (pbq3 hB hR (by unfold restoreFolderF; rw [if_neg (by omega), if_neg (by omega), if_pos (by omega)]))
    · refine e_iload_n dX10_restoreFolder_0 rfl ?_
      refine e_iconst dX10_restoreFolder_1 ?_
      refine e_cS (as := [_, _]) dX10_restoreFolder_2 k_X10_needIndex l_X10_99 s_X10_needIndex rfl rfl rfl rfl (Nat.le_of_ble_eq_true rfl) ⟨by decide, by decide⟩ (Nat.le_of_ble_eq_true rfl) (by decide) (c_nI1 hd ⟨by decide, by decide⟩ (by omega)) ?_
      refine e_iload_n dX10_restoreFolder_5 rfl ?_
      refine e_iconst dX10_restoreFolder_6 ?_
      refine e_aload_n dX10_restoreFolder_7 rfl ?_
      refine c_getI (by decide) dX10_restoreFolder_8 f_X10_58 (Or.inl rfl) hT ?_
      rw [rs_now hR]
      have g_8 := rs_1 hW
      exact e_cST (as := [_, _, _]) dX10_restoreFolder_11 k_X10_needRange l_X10_88 s_X10_needRange rfl rfl rfl rfl (Nat.le_of_ble_eq_true rfl) ⟨by decide, by decide⟩ (Nat.le_of_ble_eq_true rfl) (by decide) (c_nR0 ht ⟨by decide, by decide⟩ ⟨by omega, by omega⟩ hc hs (by omega)) (pbq2 hB hR (by unfold restoreFolderF; rw [if_neg (by omega), if_pos (by omega)]))
  · refine e_iload_n dX10_restoreFolder_0 rfl ?_
    refine e_iconst dX10_restoreFolder_1 ?_
    exact e_cST (as := [_, _]) dX10_restoreFolder_2 k_X10_needIndex l_X10_99 s_X10_needIndex rfl rfl rfl rfl (Nat.le_of_ble_eq_true rfl) ⟨by decide, by decide⟩ (Nat.le_of_ble_eq_true rfl) (by decide) (c_nI0 hd ⟨by decide, by decide⟩ hc hs (by omega)) (pbq1 hB hR (by unfold restoreFolderF; rw [if_pos (by omega)]))
