set_option maxRecDepth 20000 in
set_option maxHeartbeats 4000000 in
theorem haI_01 (M : q_S) (c : Int) : ∀ n : Nat, haI M c n = 0 ∨ haI M c n = 1 := by
  intro n
  cases n with
  | zero => exact Or.inr rfl
  | succ n => simp only [haI]; split; exact Or.inr rfl; exact Or.inl rfl
set_option maxRecDepth 20000 in
set_option maxHeartbeats 4000000 in
theorem c_10_up_l {B : q_S} {a x : Nat} {m p b : Int} (hm : 0 ≤ m ∧ m ≤ 2) : ∀ (r : Nat) {K : q_K} (n l i : Int) (M : q_S) {C : q_S} (hT : K a = (11, 0, 100)) (hx : K x = (7, 0, 110 + m)), ntF M m 16 ≤ r → (0 ≤ i ∧ i + r = 16) → n = M 50 16 - b → WR M → PMI M → MI M → KI M → M 50 41 = 0 → CT (upF m (r + 1) n l M).2 → RC M C → q_tb K (M 50 16) → (0 ≤ l ∧ l ≤ 100) → szF M + 12 * r ≤ 500 → ∀ {c s : Nat}, r ≤ c → 6 * r ≤ s → q_E mX10_upload 38 [some (q_R a), some (q_I m), some (q_I p), some (q_R x), some (q_I b), some (q_I l), some (q_I i), none, none] [] K B C c s (PB (upF m (r + 1) n l M) "java/lang/IndexOutOfBoundsException" "java/lang/IllegalArgumentException" "java/lang/IllegalStateException" K B) := by
  intro r
  induction r with
  | zero =>
    intro K n l i M C hT hx h1 h2 hn hW hP hI hK h41 hCT hR hB hl hsz c s hc hs
    have h16 := rs_16 hW
    have h34 := rs_34 hW
    have hnm := ntF_rg M m 16
    have fl := fn_line (rc_L hR) hm
    have st : upF m (0 + 1) n l M = (n, M) := by
      show upF m 1 n l M = (n, M)
      simp only [upF]
      rw [if_pos (Or.inl (fl.1 (by omega)))]
    refine e_iload dX10_upload_38 rfl ?_
    refine e_bipush dX10_upload_40 (by decide) ?_
    refine e_icmp_ge (tgt := 132) dX10_upload_42 (by decide) ⟨by omega, by omega⟩ ⟨by omega, by omega⟩ (fun c_42 => ?_) (fun c_42 => ?_)
    · refine e_aload_n dX10_upload_132 rfl ?_
      refine c_getR (kt := (6, 0, 104)) (by decide) (Or.inl (by decide)) dX10_upload_133 f_X10_83 hT rfl (Nat.succ_ne_zero _) (fun q_133 h_133 => ?_)
      refine c_getI (by decide) dX10_upload_136 f_X10_159 (Or.inl rfl) h_133 ?_
      rw [rs_made hR]
      have g_136 := rs_16 hW
      refine e_iload dX10_upload_139 rfl ?_
      refine e_isub dX10_upload_141 ?_
      exact e_iret dX10_upload_142 (Or.inl rfl) (pbm0 (X := M) (by rw [st, hn]) hB h41 hR)
    · exfalso; omega
  | succ r ih =>
    intro K n l i M C hT hx h1 h2 hn hW hP hI hK h41 hCT hR hB hl hsz c s hc hs
    have h16 := rs_16 hW
    have h34 := rs_34 hW
    have hnm := ntF_rg M m 16
    have fl := fn_line (rc_L hR) hm
    have stz : ntF M m 16 ≤ 0 → upF m (r + 1 + 1) n l M = (n, M) := fun g => by
      simp only [upF]
      rw [if_pos (Or.inl (fl.1 (by omega)))]
    refine e_iload dX10_upload_38 rfl ?_
    refine e_bipush dX10_upload_40 (by decide) ?_
    refine e_icmp_ge (tgt := 132) dX10_upload_42 (by decide) ⟨by omega, by omega⟩ ⟨by omega, by omega⟩ (fun c_42 => ?_) (fun c_42 => ?_)
    · exfalso; omega
    · refine e_aload_n dX10_upload_45 rfl ?_
      refine c_getI (by omega) dX10_upload_46 f_X10_138 (Or.inl rfl) hx ?_
      rw [(rc_L hR m hm.1 hm.2).1]
      refine e_if_le (tgt := 132) dX10_upload_49 (by decide) ⟨by omega, by omega⟩ (fun c_49 => ?_) (fun c_49 => ?_)
      · refine e_aload_n dX10_upload_132 rfl ?_
        refine c_getR (kt := (6, 0, 104)) (by decide) (Or.inl (by decide)) dX10_upload_133 f_X10_83 hT rfl (Nat.succ_ne_zero _) (fun q_133 h_133 => ?_)
        refine c_getI (by decide) dX10_upload_136 f_X10_159 (Or.inl rfl) h_133 ?_
        rw [rs_made hR]
        have g_136 := rs_16 hW
        refine e_iload dX10_upload_139 rfl ?_
        refine e_isub dX10_upload_141 ?_
        exact e_iret dX10_upload_142 (Or.inl rfl) (pbm0 (X := M) (by rw [stz c_49, hn]) hB h41 hR)
      · have hw : 0 < ntF M m 16 := by omega
        have hfn0 := fl.2 hw
        have g0 := (rc_L hR m hm.1 hm.2).2.1 0 (Int.le_refl _) hw
        obtain ⟨f, ef⟩ : ∃ f, f = C (150 + m) 0 := ⟨_, rfl⟩
        have hf : 0 ≤ f ∧ f ≤ 15 := by omega
        have hp9 : 0 ≤ (16 * m + f) ∧ (16 * m + f) < 48 := by omega
        have hfn : fnF M m 16 = (16 * m + f) := by rw [hfn0, ← ef]
        have g0p : 0 < M 8 (16 * m + f) := by rw [ef]; exact g0.2
        have hvc := mi_3 hI hp9
        refine e_aload_n dX10_upload_52 rfl ?_
        refine c_getR (kt := (20, 16, (150 + m))) (by omega) (Or.inl (by omega)) dX10_upload_53 f_X10_162 hx (kl_l ⟨by omega, by omega⟩) (Nat.succ_ne_zero _) (fun q_53 h_53 => ?_)
        refine e_iconst dX10_upload_56 ?_
        refine c_iald (by omega) dX10_upload_57 h_53 (by omega) (by omega) ?_
        rw [← ef]
        refine e_istore (ls2 := [_, _, _, _, _, _, _, _, _]) dX10_upload_58 (Nat.le_of_ble_eq_true rfl) rfl ?_
        refine e_aload_n dX10_upload_60 rfl ?_
        refine c_getR (kt := (31, 16, (140 + m))) (by omega) (Or.inl (by omega)) dX10_upload_61 f_X10_105 hx (kl_c ⟨by omega, by omega⟩) (Nat.succ_ne_zero _) (fun q_61 h_61 => ?_)
        refine e_iload dX10_upload_64 rfl ?_
        refine c_aald (ci := 1) (kt := (2, 0, (200 + (16 * m + f)))) (by omega) (Or.inl (by omega)) dX10_upload_66 h_61 (by decide) (by omega) (by omega) (kl_p ⟨by omega, by omega⟩ ⟨by omega, by omega⟩) (Nat.succ_ne_zero _) (fun q_66 h_66 => ?_)
        refine e_astore (ls2 := [_, _, _, _, _, _, _, _, _]) dX10_upload_67 (Nat.le_of_ble_eq_true rfl) rfl ?_
        refine e_aload_n dX10_upload_69 rfl ?_
        refine e_aload dX10_upload_70 rfl ?_
        refine e_cV (as := [_]) (ci := 10) dX10_upload_72 k_X10_isEdited l_X10_141 i_X10_isEdited v_X10_isEdited hT rfl (by decide) ⟨_, _, rfl⟩ rfl rfl rfl rfl (Nat.le_of_ble_eq_true rfl) ⟨by decide, by decide⟩ (Nat.le_of_ble_eq_true rfl) (by decide) (c_10_isEdited hT h_66 hp9 hR hI hW) ?_
        refine e_if_eq (tgt := 122) dX10_upload_75 (by decide) bi_iI (fun c_75 => ?_) (fun c_75 => ?_)
        · simp only [bi_z, Classical.not_not] at c_75
          have stn := up_skip (M := M) (n := n) hp9.1 hfn hl.1 (fun g => g c_75) (r + 1)
          refine e_aload_n dX10_upload_122 rfl ?_
          refine e_cV (as := []) (ci := 6) dX10_upload_123 k_X6_dropFirst l_X10_180 i_X6_dropFirst v_X6_dropFirst hx rfl (by decide) ⟨_, _, rfl⟩ rfl rfl rfl rfl (Nat.le_of_ble_eq_true rfl) ⟨by decide, by decide⟩ (Nat.le_of_ble_eq_true rfl) (by decide) (c_6_dropFirst hx hm (rc_L hR) hw) ?_
          refine e_iinc (ls2 := [_, _, _, _, _, _, _, _, _]) dX10_upload_126 rfl (Nat.le_of_ble_eq_true rfl) rfl ?_
          refine e_goto (tgt := 38) dX10_upload_129 (by decide) ?_
          refine e_drop (k := 7) (ls2 := [_, _, _, _, _, _, _, _, _]) rfl ?_
          refine e_drop (k := 8) (ls2 := [_, _, _, _, _, _, _, _, _]) rfl ?_
          rw [stn] at hCT ⊢
          have un := un_ok hI hW hK (16 * m + f)
          exact ih n l _ (q_us M 8 (16 * m + f) 0) hT hx (by rw [ntF_us (by omega) g0p, if_pos (by show (16 * m + f) < 16 * m + ((16 : Nat) : Int); omega)]; omega) ⟨by omega, by omega⟩ hn (WR.up hW ⟨(show (0 : Int) ≤ 0 by decide), (show (0 : Int) ≤ 1000000 by decide)⟩) (hP.us (by decide) (by decide) (fun g => absurd g (by decide))) un.1 un.2 h41 hCT (by have y := rc_drop1 hR hW hm hw; rw [← ef] at y; exact y) hB hl (by rw [sz_o (A := q_us M 8 (16 * m + f) 0) (B := M) (fun _ => rfl)]; omega) (by omega) (by omega)
        · simp only [bi_z, Classical.not_not] at c_75
          have stp := up_step hI hK hW (n := n) hp9 hfn hl.1 c_75 (r + 1)
          have hCX : CT (sendsF M (M 3 (16 * m + f)) l).2 := by
            rw [stp] at hCT
            by_cases e : (sendsF M (M 3 (16 * m + f)) l).1 = -1
            · rw [if_pos e] at hCT; exact hCT
            · rw [if_neg e] at hCT; exact ((LE.looks _ _).trans (upF_le _ _ _ _ _)).ct hCT
          have hsok := sendsF_ok hW hP hCX
          have hsz0 := rt_size (rc_T hR)
          refine e_iload dX10_upload_78 rfl ?_
          refine e_aload_n dX10_upload_80 rfl ?_
          refine c_getR (kt := (9, 0, 105)) (by decide) (Or.inl (by decide)) dX10_upload_81 f_X10_29 hT rfl (Nat.succ_ne_zero _) (fun q_81 h_81 => ?_)
          refine e_aload dX10_upload_84 rfl ?_
          have hv_86 : vcode (M 3 (16 * m + f)) := mi_3 hI ⟨by omega, by omega⟩
          have hg_86 := hv_86.1
          refine c_getR (kt := (1, 0, (1000000 + 3 * M 3 (16 * m + f)))) (by omega) (Or.inl (by omega)) dX10_upload_86 f_X10_165 h_66 (kl_pc ⟨by omega, by omega⟩ (by omega) (rp_2 hR ⟨by omega, by omega⟩)) (Nat.succ_ne_zero _) (fun q_86 h_86 => ?_)
          refine e_iload dX10_upload_89 rfl ?_
          refine e_cVX (as := [_, _]) (ci := 8) (c1 := 0) (s1 := 0) (c2 := c) (s2 := s) dX10_upload_91 k_X8_addMissing l_X10_169 i_X8_addMissing v_X8_addMissing h_81 rfl (by decide) ⟨_, _, rfl⟩ rfl rfl rfl rfl (Nat.le_of_ble_eq_true rfl) ⟨by decide, by decide⟩ (by omega) (by omega) (Nat.le_of_ble_eq_true rfl) (by decide) (c_8_addMissing h_81 h_86 hvc hI hW hP hB hR hl hCX (by omega)) (fun K2 C2 x2 hB2 hR2 => ?_)
          have hT2 := xt_get x2 hT (Nat.succ_ne_zero _)
          have hx2 := xt_get x2 hx (Nat.succ_ne_zero _)
          have hy2 := xt_get x2 h_66 (Nat.succ_ne_zero _)
          have xK := x2
          rw [show (sendsF M (M 3 (16 * m + f)) l).2 50 16 = M 50 16 from sends_o (by decide) (by decide)] at hB2
          have e39 := seF_39 hl.1 (M 3 (16 * m + f)) (S := cutS M (M 3 (16 * m + f))) (ncut (M 3 (16 * m + f))).toNat
          have e39' : (sendsF M (M 3 (16 * m + f)) l).2 50 39 = M 50 39 + (l - (if (sendsF M (M 3 (16 * m + f)) l).1 = -1 then 0 else (sendsF M (M 3 (16 * m + f)) l).1)) := by
            have y := e39.1
            rw [cutS_o (by decide)] at y
            exact y
          have esq := (seF_cg (A := cutS M (M 3 (16 * m + f))) (B := M) (fun t j g => cutS_o g) l (M 3 (16 * m + f)) (ncut (M 3 (16 * m + f))).toNat).2 50 39 (by decide)
          have eLr : -1 ≤ (sendsF M (M 3 (16 * m + f)) l).1 ∧ (sendsF M (M 3 (16 * m + f)) l).1 ≤ l := e39.2
          have eall := seF_all (S := cutS M (M 3 (16 * m + f))) (by rw [cutS_o (by decide)]; exact h34.1) l (M 3 (16 * m + f)) (ncut (M 3 (16 * m + f))).toNat
          have hWX := hsok.1
          have hPX := hsok.2
          have hIX : MI (sendsF M (M 3 (16 * m + f)) l).2 := mi_sends hI _ _
          have hKX : KI (sendsF M (M 3 (16 * m + f)) l).2 := ki_o hK (fun t j g => sends_o (by omega) (by omega))
          have e3X : (sendsF M (M 3 (16 * m + f)) l).2 3 (16 * m + f) = M 3 (16 * m + f) := sends_o (by decide) (by omega)
          have hoX : isOtherP (sendsF M (M 3 (16 * m + f)) l).2 (16 * m + f) := by
            have y : isOtherP M (16 * m + f) := c_75
            unfold isOtherP isAsP at y ⊢
            rw [sends_o (t := 2) (by decide) (by omega), sends_o (t := 3) (by decide) (by omega), sends_o (t := 4) (by decide) (by omega), sends_o (t := 5) (by decide) (by omega), sends_o (t := 20) (by decide) (by omega), sends_o (t := 21) (by decide) (by omega)]
            exact y
          have eh1 := haI_01 (sendsF M (M 3 (16 * m + f)) l).2 (M 3 (16 * m + f)) (ncut (M 3 (16 * m + f))).toNat
          refine e_isub dX10_upload_94 ?_
          skip
          refine e_istore (ls2 := [_, _, _, _, _, _, _, _, _]) dX10_upload_95 (Nat.le_of_ble_eq_true rfl) rfl ?_
          refine e_aload_n dX10_upload_97 rfl ?_
          refine c_getR (kt := (9, 0, 105)) (by decide) (Or.inl (by decide)) dX10_upload_98 f_X10_29 hT2 rfl (Nat.succ_ne_zero _) (fun q_98 h_98 => ?_)
          refine e_aload dX10_upload_101 rfl ?_
          refine c_getR (kt := (1, 0, (1000000 + 3 * M 3 (16 * m + f)))) (by omega) (Or.inl (by omega)) dX10_upload_103 f_X10_165 hy2 (kl_pc hp9 hvc.1 (by rw [rp_2 hR2 hp9, e3X])) (Nat.succ_ne_zero _) (fun q_103 h_103 => ?_)
          refine e_cV (as := [_]) (ci := 8) dX10_upload_106 k_X8_hasAll l_X10_173 i_X8_hasAll v_X8_hasAll h_98 rfl (by decide) ⟨_, _, rfl⟩ rfl rfl rfl rfl (Nat.le_of_ble_eq_true rfl) ⟨by decide, by decide⟩ (Nat.le_of_ble_eq_true rfl) (by decide) (c_8_hasAll h_98 h_103 hvc hR2 hIX hWX) ?_
          refine e_if_ne (tgt := 115) dX10_upload_109 (by decide) ⟨by omega, by omega⟩ (fun c_109 => ?_) (fun c_109 => ?_)
          · have eL : ¬ (sendsF M (M 3 (16 * m + f)) l).1 = -1 := fun g => c_109 (eall.2 g (by omega))
            have ell : l - ((seF M l (M 3 (16 * m + f)) (ncut (M 3 (16 * m + f))).toNat).2 50 39 - M 50 39) = (sendsF M (M 3 (16 * m + f)) l).1 := by rw [← esq, show (seF (cutS M (M 3 (16 * m + f))) l (M 3 (16 * m + f)) (ncut (M 3 (16 * m + f))).toNat).2 50 39 = (sendsF M (M 3 (16 * m + f)) l).2 50 39 from rfl, e39', if_neg eL]; omega
            rw [ell]
            rw [stp, if_neg eL] at hCT ⊢
            have hCU := hCT
            have hCM : CT (looksF (sendsF M (M 3 (16 * m + f)) l).2 (16 * m + f)).2 := (upF_le _ _ _ _ _).ct hCT
            have hCL : CT (lkF (sendsF M (M 3 (16 * m + f)) l).2 m f) := by
              have y := hCM
              rw [(looks_lk hIX hWX hm hf hoX).1] at y
              exact y
            refine e_aload_n dX10_upload_115 rfl ?_
            refine e_iload_n dX10_upload_116 rfl ?_
            refine e_iload dX10_upload_117 rfl ?_
            refine e_cVX (as := [_, _]) (ci := 10) (c1 := 1) (s1 := 6) (c2 := (c - 1)) (s2 := (s - 6)) dX10_upload_119 k_X10_lookAt l_X10_177 i_X10_lookAt v_X10_lookAt hT2 rfl (by decide) ⟨_, _, rfl⟩ rfl rfl rfl rfl (Nat.le_of_ble_eq_true rfl) ⟨by decide, by decide⟩ (by omega) (by omega) (Nat.le_of_ble_eq_true rfl) (by decide) (c_10_lookAt hT2 hR2 hIX hWX (by rw [sends_o (by decide) (by decide)]; exact hB2) hm hf hCL) (fun K2 C2 x2 hB2 hR2 => ?_)
            replace hT2 := xt_get x2 hT2 (Nat.succ_ne_zero _)
            replace hx2 := xt_get x2 hx2 (Nat.succ_ne_zero _)
            have hWL := (wr_lk hIX hWX hm hf hoX hCM).2
            have e8 : ∀ j, (lkF (sendsF M (M 3 (16 * m + f)) l).2 m f) 8 j = M 8 j := fun j => (lk_o hIX hWX hm hf hoX (by decide) (by omega)).trans (sendsF_8 M _ _ j)
            have entL : ntF (lkF (sendsF M (M 3 (16 * m + f)) l).2 m f) m 16 = ntF M m 16 := ntF_congr e8 m 16
            have efn : (16 * m + f) = 16 * m + C2 (150 + m) 0 := by
              have y := (fn_line (rc_L hR2) hm).2 (by rw [entL]; exact hw)
              rw [fnF_congr e8, hfn] at y; exact y
            refine e_drop (k := 7) (ls2 := [_, _, _, _, _, _, _, _, _]) rfl ?_
            refine e_drop (k := 8) (ls2 := [_, _, _, _, _, _, _, _, _]) rfl ?_
            refine e_aload_n dX10_upload_122 rfl ?_
            refine e_cV (as := []) (ci := 6) dX10_upload_123 k_X6_dropFirst l_X10_180 i_X6_dropFirst v_X6_dropFirst hx2 rfl (by decide) ⟨_, _, rfl⟩ rfl rfl rfl rfl (Nat.le_of_ble_eq_true rfl) ⟨by decide, by decide⟩ (Nat.le_of_ble_eq_true rfl) (by decide) (c_6_dropFirst hx2 hm (rc_L hR2) (by rw [entL]; exact hw)) ?_
            refine e_iinc (ls2 := [_, _, _, _, _, _, _, _, _]) dX10_upload_126 rfl (Nat.le_of_ble_eq_true rfl) rfl ?_
            refine e_goto (tgt := 38) dX10_upload_129 (by decide) ?_
            have rD := rc_drop1 hR2 hWL hm (by rw [entL]; exact hw)
            have lks := looks_lk hIX hWX hm hf hoX
            rw [← efn, ← lks.1] at rD
            have e16M : (looksF (sendsF M (M 3 (16 * m + f)) l).2 (16 * m + f)).2 50 16 = M 50 16 + (looksF (sendsF M (M 3 (16 * m + f)) l).2 (16 * m + f)).1 := by
              have y : (looksF (sendsF M (M 3 (16 * m + f)) l).2 (16 * m + f)).2 50 16 = (lkF (sendsF M (M 3 (16 * m + f)) l).2 m f) 50 16 := by rw [lks.1]; rfl
              rw [y]; have z1 := lks.2; have z2 : (sendsF M (M 3 (16 * m + f)) l).2 50 16 = M 50 16 := sends_o (by decide) (by decide); omega
            have e41M : (looksF (sendsF M (M 3 (16 * m + f)) l).2 (16 * m + f)).2 50 41 = 0 := by
              have y : (looksF (sendsF M (M 3 (16 * m + f)) l).2 (16 * m + f)).2 50 41 = (lkF (sendsF M (M 3 (16 * m + f)) l).2 m f) 50 41 := by rw [lks.1]; rfl
              rw [y, lk_o hIX hWX hm hf hoX (by decide) (by decide), sends_o (by decide) (by decide)]; exact h41
            have szM : szF (looksF (sendsF M (M 3 (16 * m + f)) l).2 (16 * m + f)).2 ≤ szF M + 12 := by
              have y : szF (looksF (sendsF M (M 3 (16 * m + f)) l).2 (16 * m + f)).2 = szF (sendsF M (M 3 (16 * m + f)) l).2 := sz_o (fun j => by rw [lks.1]; exact (show q_us (lkF (sendsF M (M 3 (16 * m + f)) l).2 m f) 8 (16 * m + f) 0 31 j = (lkF (sendsF M (M 3 (16 * m + f)) l).2 m f) 31 j from rfl).trans (lk_o hIX hWX hm hf hoX (by decide) (by omega)))
              rw [y]; exact sz_sends hvc l
            have hIK := lk_ok hIX hWX hKX hm hf hCL
            have hUN := un_ok hIK.1 hWL hIK.2 (16 * m + f)
            rw [← lks.1] at hUN
            have hPM : PMI (looksF (sendsF M (M 3 (16 * m + f)) l).2 (16 * m + f)).2 := by
              show PMI (look2 (q_us (sendsF M (M 3 (16 * m + f)) l).2 8 (16 * m + f) 0) (16 * m + f) (latestOf (sendsF M (M 3 (16 * m + f)) l).2 ((16 * m + f) % 16))).2
              exact pmi_look2 (hPX.us (by decide) (by decide) (fun g => absurd g (by decide))) _ _
            rw [show (looksF (sendsF M (M 3 (16 * m + f)) l).2 (16 * m + f)).2 50 16 = (lkF (sendsF M (M 3 (16 * m + f)) l).2 m f) 50 16 by rw [lks.1]; rfl] at e16M
            refine e_conseq (fun _ _ _ _ g => pb_xt (xK.trans x2) g) ?_
            have eN : ntF (looksF (sendsF M (M 3 (16 * m + f)) l).2 (16 * m + f)).2 m 16 = ntF M m 16 - 1 := by
              have y := ntF_looks (S := (sendsF M (M 3 (16 * m + f)) l).2) (m := m) (p := (16 * m + f)) ⟨by omega, by omega⟩ (by rw [sendsF_8]; exact g0p)
              rw [y, ntF_congr (fun k => sendsF_8 M _ _ k)]
            exact ih _ _ _ (looksF (sendsF M (M 3 (16 * m + f)) l).2 (16 * m + f)).2 hT2 hx2 (by omega) ⟨by omega, by omega⟩ (by rw [show (looksF (sendsF M (M 3 (16 * m + f)) l).2 (16 * m + f)).2 50 16 = (lkF (sendsF M (M 3 (16 * m + f)) l).2 m f) 50 16 by rw [lks.1]; rfl]; omega) (wr_lk hIX hWX hm hf hoX hCM).1 hPM hUN.1 hUN.2 e41M hCU rD (by rw [show (looksF (sendsF M (M 3 (16 * m + f)) l).2 (16 * m + f)).2 50 16 = (lkF (sendsF M (M 3 (16 * m + f)) l).2 m f) 50 16 by rw [lks.1]; rfl]; exact hB2) ⟨by omega, by omega⟩ (by omega) (by omega) (by omega)
          · have eL : (sendsF M (M 3 (16 * m + f)) l).1 = -1 := Classical.byContradiction (fun g => eall.1 g c_109)
            rw [stp, if_pos eL]
            refine e_goto (tgt := 132) dX10_upload_112 (by decide) ?_
            refine e_aload_n dX10_upload_132 rfl ?_
            refine c_getR (kt := (6, 0, 104)) (by decide) (Or.inl (by decide)) dX10_upload_133 f_X10_83 hT2 rfl (Nat.succ_ne_zero _) (fun q_133 h_133 => ?_)
            refine c_getI (by decide) dX10_upload_136 f_X10_159 (Or.inl rfl) h_133 ?_
            rw [rs_made hR2]
            have g_136 := rs_16 hW
            refine e_iload dX10_upload_139 rfl ?_
            refine e_isub dX10_upload_141 ?_
            exact e_iret dX10_upload_142 (Or.inl rfl) ⟨⟨x2, by rw [show (sendsF M (M 3 (16 * m + f)) l).2 50 16 = M 50 16 from sends_o (by decide) (by decide)]; exact hB2⟩, rfl, hR2, Or.inl ⟨(sends_o (by decide) (by decide)).trans h41, by rw [hn, show (sendsF M (M 3 (16 * m + f)) l).2 50 16 = M 50 16 from sends_o (by decide) (by decide)]⟩⟩
set_option maxRecDepth 20000 in
set_option maxHeartbeats 4000000 in
theorem c_10_upload {K : q_K} {B M C : q_S} {a : Nat} (hT : K a = (11, 0, 100)) (hR : RC M C) (hI : MI M) (hW : WR M) (hB : q_tb K (M 50 16)) {c s : Nat} (hc : 1 ≤ c) (hs : 6 ≤ s) {m p : Int} (hm : q_iI m) (hp : q_iI p) (hP : PMI M) (hK : KI M) (hCT : CT (uploadF M m p).2) (hsz : szF M ≤ 300) (hc16 : 16 ≤ c) (hs96 : 96 ≤ s) : q_E mX10_upload 0 [some (q_R a), some (q_I m), some (q_I p), none, none, none, none, none, none] [] K B C c s (PB (uploadF M m p) "java/lang/IndexOutOfBoundsException" "java/lang/IllegalArgumentException" "java/lang/IllegalStateException" K B) := by
  have h16 := rs_16 hW
  have hm1 := hm.1
  have hm2 := hm.2
  have hp1 := hp.1
  have hp2 := hp.2
  by_cases e0 : 0 ≤ m ∧ m < 3
  · by_cases e1 : 0 ≤ p ∧ p ≤ 100
    · by_cases e2 : M 50 16 ≤ 100
      · refine e_iload_n dX10_upload_0 rfl ?_
        refine e_iconst dX10_upload_1 ?_
        refine e_cS (as := [_, _]) dX10_upload_2 k_X10_needIndex l_X10_99 s_X10_needIndex rfl rfl rfl rfl (Nat.le_of_ble_eq_true rfl) ⟨by decide, by decide⟩ (Nat.le_of_ble_eq_true rfl) (by decide) (c_nI1 hm ⟨by decide, by decide⟩ (by omega)) ?_
        refine e_iload_n dX10_upload_5 rfl ?_
        refine e_iconst dX10_upload_6 ?_
        refine e_bipush dX10_upload_7 (by decide) ?_
        refine e_cS (as := [_, _, _]) dX10_upload_9 k_X10_needRange l_X10_88 s_X10_needRange rfl rfl rfl rfl (Nat.le_of_ble_eq_true rfl) ⟨by decide, by decide⟩ (Nat.le_of_ble_eq_true rfl) (by decide) (c_nR1 hp ⟨by decide, by decide⟩ ⟨by decide, by decide⟩ (by omega)) ?_
        refine e_aload_n dX10_upload_12 rfl ?_
        refine e_cV (as := []) (ci := 10) dX10_upload_13 k_X10_needFewVersions l_X10_156 i_X10_needFewVersions v_X10_needFewVersions hT rfl (by decide) ⟨_, _, rfl⟩ rfl rfl rfl rfl (Nat.le_of_ble_eq_true rfl) ⟨by decide, by decide⟩ (Nat.le_of_ble_eq_true rfl) (by decide) (c_nF1 hT hR hI hW (by omega)) ?_
        refine e_aload_n dX10_upload_16 rfl ?_
        refine c_getR (kt := (36, 3, 102)) (by decide) (Or.inl (by decide)) dX10_upload_17 f_X10_15 hT rfl (Nat.succ_ne_zero _) (fun q_17 h_17 => ?_)
        refine e_iload_n dX10_upload_20 rfl ?_
        refine c_aald (ci := 6) (kt := (7, 0, (110 + m))) (by decide) (Or.inl (by decide)) dX10_upload_21 h_17 (by decide) (by omega) (by omega) (kl_m ⟨by omega, by omega⟩) (Nat.succ_ne_zero _) (fun q_21 h_21 => ?_)
        refine e_astore_n (ls2 := [_, _, _, _, _, _, _, _, _]) dX10_upload_22 (Nat.le_of_ble_eq_true rfl) rfl ?_
        refine e_aload_n dX10_upload_23 rfl ?_
        refine c_getR (kt := (6, 0, 104)) (by decide) (Or.inl (by decide)) dX10_upload_24 f_X10_83 hT rfl (Nat.succ_ne_zero _) (fun q_24 h_24 => ?_)
        refine c_getI (by decide) dX10_upload_27 f_X10_159 (Or.inl rfl) h_24 ?_
        rw [rs_made hR]
        have g_27 := rs_16 hW
        refine e_istore (ls2 := [_, _, _, _, _, _, _, _, _]) dX10_upload_30 (Nat.le_of_ble_eq_true rfl) rfl ?_
        refine e_iload_n dX10_upload_32 rfl ?_
        refine e_istore (ls2 := [_, _, _, _, _, _, _, _, _]) dX10_upload_33 (Nat.le_of_ble_eq_true rfl) rfl ?_
        refine e_iconst dX10_upload_35 ?_
        refine e_istore (ls2 := [_, _, _, _, _, _, _, _, _]) dX10_upload_36 (Nat.le_of_ble_eq_true rfl) rfl ?_
        have eu : uploadF M m p = upF m 17 0 p (thr M 0) := by unfold uploadF; rw [if_neg (by omega), if_neg (by omega), if_neg (by omega)]
        rw [eu] at hCT ⊢
        exact c_10_up_l ⟨by omega, by omega⟩ 16 0 p 0 (thr M 0) hT h_21 (by have y := ntF_rg (thr M 0) m 16; omega) ⟨by omega, by omega⟩ (by show (0 : Int) = M 50 16 - M 50 16; omega) (hW.thr ⟨by decide, by decide⟩) (hP.us (by decide) (by decide) (fun _ => by decide)) (mi_thr hI 0) (ki_o hK (fun t j g => if_neg (by omega))) rfl hCT (rc_thr hR 0) hB e1 (by rw [sz_o (A := thr M 0) (B := M) (fun _ => rfl)]; omega) hc16 hs96
      · refine e_iload_n dX10_upload_0 rfl ?_
        refine e_iconst dX10_upload_1 ?_
        refine e_cS (as := [_, _]) dX10_upload_2 k_X10_needIndex l_X10_99 s_X10_needIndex rfl rfl rfl rfl (Nat.le_of_ble_eq_true rfl) ⟨by decide, by decide⟩ (Nat.le_of_ble_eq_true rfl) (by decide) (c_nI1 hm ⟨by decide, by decide⟩ (by omega)) ?_
        refine e_iload_n dX10_upload_5 rfl ?_
        refine e_iconst dX10_upload_6 ?_
        refine e_bipush dX10_upload_7 (by decide) ?_
        refine e_cS (as := [_, _, _]) dX10_upload_9 k_X10_needRange l_X10_88 s_X10_needRange rfl rfl rfl rfl (Nat.le_of_ble_eq_true rfl) ⟨by decide, by decide⟩ (Nat.le_of_ble_eq_true rfl) (by decide) (c_nR1 hp ⟨by decide, by decide⟩ ⟨by decide, by decide⟩ (by omega)) ?_
        refine e_aload_n dX10_upload_12 rfl ?_
        exact e_cVT (as := []) (ci := 10) dX10_upload_13 k_X10_needFewVersions l_X10_156 i_X10_needFewVersions v_X10_needFewVersions hT rfl (by decide) ⟨_, _, rfl⟩ rfl rfl rfl rfl (Nat.le_of_ble_eq_true rfl) ⟨by decide, by decide⟩ (Nat.le_of_ble_eq_true rfl) (by decide) (c_nF0 hT hR hI hW hc hs (by omega)) (pbq3 hB hR (by unfold uploadF; rw [if_neg (by omega), if_neg (by omega), if_pos (by omega)]))
    · refine e_iload_n dX10_upload_0 rfl ?_
      refine e_iconst dX10_upload_1 ?_
      refine e_cS (as := [_, _]) dX10_upload_2 k_X10_needIndex l_X10_99 s_X10_needIndex rfl rfl rfl rfl (Nat.le_of_ble_eq_true rfl) ⟨by decide, by decide⟩ (Nat.le_of_ble_eq_true rfl) (by decide) (c_nI1 hm ⟨by decide, by decide⟩ (by omega)) ?_
      refine e_iload_n dX10_upload_5 rfl ?_
      refine e_iconst dX10_upload_6 ?_
      refine e_bipush dX10_upload_7 (by decide) ?_
      exact e_cST (as := [_, _, _]) dX10_upload_9 k_X10_needRange l_X10_88 s_X10_needRange rfl rfl rfl rfl (Nat.le_of_ble_eq_true rfl) ⟨by decide, by decide⟩ (Nat.le_of_ble_eq_true rfl) (by decide) (c_nR0 hp ⟨by decide, by decide⟩ ⟨by decide, by decide⟩ hc hs (by omega)) (pbq2 hB hR (by unfold uploadF; rw [if_neg (by omega), if_pos (by omega)]))
  · refine e_iload_n dX10_upload_0 rfl ?_
    refine e_iconst dX10_upload_1 ?_
    exact e_cST (as := [_, _]) dX10_upload_2 k_X10_needIndex l_X10_99 s_X10_needIndex rfl rfl rfl rfl (Nat.le_of_ble_eq_true rfl) ⟨by decide, by decide⟩ (Nat.le_of_ble_eq_true rfl) (by decide) (c_nI0 hm ⟨by decide, by decide⟩ hc hs (by omega)) (pbq1 hB hR (by unfold uploadF; rw [if_pos (by omega)]))
