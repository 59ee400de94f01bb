set_option maxRecDepth 20000 in
set_option maxHeartbeats 4000000 in
theorem m_figure {K : q_K} {M C : q_S} {c p : Int} (hc : 0 ≤ c ∧ c ≤ 9999999999999) (hp : 0 ≤ p ∧ p < mlen c) : q_E mX11_figure 0 [some (q_L c), none, some (q_I p), none, none, none] [] K M C 0 0 (e_is (some (q_I (fig c p))) K M C) := by
  have hl := mlen_nn c
  have lp : ∀ (r j : Nat) (l k : Int), j + r = (mlen c - 1 - p).toNat → l = c / 10 ^ j → k = mlen c - 1 - j → 0 ≤ l → l ≤ 9999999999999 → q_E mX11_figure 10 [some (q_L c), none, some (q_I p), some (q_L l), none, some (q_I k)] [] K M C 0 0 (e_is (some (q_I (fig c p))) K M C) := by
    intro r
    induction r with
    | zero =>
      intro j l k h1 h2 h3 h4 h5
      refine e_iload dX11_figure_10 rfl ?_
      refine e_iload_n dX11_figure_12 rfl ?_
      refine e_icmp_le (tgt := 28) dX11_figure_13 (by decide) ⟨by omega, by omega⟩ ⟨by omega, by omega⟩ (fun c_13 => ?_) (fun c_13 => ?_)
      · refine e_lload_n dX11_figure_28 rfl ?_
        refine e_ldc2 dX11_figure_29 cl_X11_109 ?_
        refine e_lrem dX11_figure_32 ⟨by omega, by omega⟩ ⟨by omega, by omega⟩ ?_
        refine e_l2i dX11_figure_33 ?_
        exact e_iret dX11_figure_34 (Or.inl rfl) (e_ok (by unfold fig; rw [h2, show j = (mlen c - 1 - p).toNat by omega]) rfl rfl)
      · exfalso; omega
    | succ r ih =>
      intro j l k h1 h2 h3 h4 h5
      refine e_iload dX11_figure_10 rfl ?_
      refine e_iload_n dX11_figure_12 rfl ?_
      refine e_icmp_le (tgt := 28) dX11_figure_13 (by decide) ⟨by omega, by omega⟩ ⟨by omega, by omega⟩ (fun c_13 => ?_) (fun c_13 => ?_)
      · exfalso; omega
      · refine e_lload_n dX11_figure_16 rfl ?_
        refine e_ldc2 dX11_figure_17 cl_X11_109 ?_
        refine e_ldiv dX11_figure_20 ⟨by omega, by omega⟩ ⟨by omega, by omega⟩ ?_
        refine e_lstore_n (ls2 := [_, _, _, _, _, _]) dX11_figure_21 (Nat.le_of_ble_eq_true rfl) rfl ?_
        refine e_iinc (ls2 := [_, _, _, _, _, _]) dX11_figure_22 rfl (Nat.le_of_ble_eq_true rfl) rfl ?_
        refine e_goto (tgt := 10) dX11_figure_25 (by decide) ?_
        exact ih (j + 1) _ _ (by omega) (by rw [h2, div_pow_s]) (by omega) (by omega) (by omega)
  refine e_lload_n dX11_figure_0 rfl ?_
  refine e_lstore_n (ls2 := [_, _, _, _, _, _]) dX11_figure_1 (Nat.le_of_ble_eq_true rfl) rfl ?_
  refine e_lload_n dX11_figure_2 rfl ?_
  refine e_cS (as := [_]) dX11_figure_3 k_X11_lengthOf l_X11_111 s_X11_lengthOf rfl rfl rfl rfl (Nat.le_of_ble_eq_true rfl) ⟨by decide, by decide⟩ (Nat.le_of_ble_eq_true rfl) (by decide) (m_lengthOf ⟨by omega, by omega⟩) ?_
  have g_3 := mlen_nn c
  refine e_iconst dX11_figure_6 ?_
  refine e_isub dX11_figure_7 ?_
  refine e_istore (ls2 := [_, _, _, _, _, _]) dX11_figure_8 (Nat.le_of_ble_eq_true rfl) rfl ?_
  exact lp (mlen c - 1 - p).toNat 0 c _ (by omega) (by rw [Int.pow_zero, Int.ediv_one]) (by omega) (by omega) (by omega)
set_option maxRecDepth 20000 in
set_option maxHeartbeats 4000000 in
theorem m_cuts {K : q_K} {M C : q_S} {a : Nat} (hT : K a = (12, 0, 50)) (hW : WR M) {c : Int} (hc : 0 ≤ c ∧ c ≤ 9999999999999) : q_E mX11_cuts 0 [some (q_R a), some (q_L c), none, none, none, none, none] [] K M C 0 0 (e_is (some (q_I (ncut c))) K (cutS M c) C) := by
  have hlc := mlen_12 hc
  have lp : ∀ (r k : Nat) (n p i : Int) (S : q_S), k + r = (mlen c).toNat → n = (cSt c k).1 → p = (cSt c k).2.1 → i = k → S = cutSt M c k → q_E mX11_cuts 8 [some (q_R a), some (q_L c), none, some (q_I n), some (q_I p), some (q_I i), none] [] K S C 0 0 (e_is (some (q_I (ncut c))) K (cutS M c) C) := by
    intro r
    induction r with
    | zero =>
      intro k n p i S h1 h2 h3 h4 h5
      have g_s := cSt_rg c k
      refine e_iload dX11_cuts_8 rfl ?_
      refine e_lload_n dX11_cuts_10 rfl ?_
      refine e_cS (as := [_]) dX11_cuts_11 k_X11_lengthOf l_X11_111 s_X11_lengthOf rfl rfl rfl rfl (Nat.le_of_ble_eq_true rfl) ⟨by decide, by decide⟩ (Nat.le_of_ble_eq_true rfl) (by decide) (m_lengthOf ⟨by omega, by omega⟩) ?_
      have g_11 := mlen_nn c
      refine e_icmp_ge (tgt := 79) dX11_cuts_14 (by decide) ⟨by omega, by omega⟩ ⟨by omega, by omega⟩ (fun c_14 => ?_) (fun c_14 => ?_)
      · refine e_iload_n dX11_cuts_79 rfl ?_
        exact e_iret dX11_cuts_80 (Or.inl rfl) (e_ok (by unfold ncut; rw [h2, show k = (mlen c).toNat by omega]) (by unfold cutS; rw [h5, show k = (mlen c).toNat by omega]) rfl)
      · exfalso; omega
    | succ r ih =>
      intro k n p i S h1 h2 h3 h4 h5
      have g_s := cSt_rg c k
      subst h4
      refine e_iload dX11_cuts_8 rfl ?_
      refine e_lload_n dX11_cuts_10 rfl ?_
      refine e_cS (as := [_]) dX11_cuts_11 k_X11_lengthOf l_X11_111 s_X11_lengthOf rfl rfl rfl rfl (Nat.le_of_ble_eq_true rfl) ⟨by decide, by decide⟩ (Nat.le_of_ble_eq_true rfl) (by decide) (m_lengthOf ⟨by omega, by omega⟩) ?_
      have g_11 := mlen_nn c
      refine e_icmp_ge (tgt := 79) dX11_cuts_14 (by decide) ⟨by omega, by omega⟩ ⟨by omega, by omega⟩ (fun c_14 => ?_) (fun c_14 => ?_)
      · exfalso; omega
      · refine e_lload_n dX11_cuts_17 rfl ?_
        refine e_iload dX11_cuts_18 rfl ?_
        refine e_cS (as := [_, _]) dX11_cuts_20 k_X11_figure l_X11_115 s_X11_figure rfl rfl rfl rfl (Nat.le_of_ble_eq_true rfl) ⟨by decide, by decide⟩ (Nat.le_of_ble_eq_true rfl) (by decide) (m_figure ⟨by omega, by omega⟩ ⟨by omega, by omega⟩) ?_
        refine e_istore (ls2 := [_, _, _, _, _, _, _]) dX11_cuts_23 (Nat.le_of_ble_eq_true rfl) rfl ?_
        have g_f := fig_rg c k
        refine e_bipush dX11_cuts_25 (by decide) ?_
        refine e_iload dX11_cuts_27 rfl ?_
        refine e_imul dX11_cuts_29 ?_
        refine e_iload dX11_cuts_30 rfl ?_
        refine e_iadd dX11_cuts_32 ?_
        refine e_istore (ls2 := [_, _, _, _, _, _, _]) dX11_cuts_33 (Nat.le_of_ble_eq_true rfl) rfl ?_
        refine e_iload dX11_cuts_35 rfl ?_
        refine e_if_eq (tgt := 59) dX11_cuts_37 (by decide) ⟨by omega, by omega⟩ (fun c_37 => ?_) (fun c_37 => ?_)
        · refine e_aload_n dX11_cuts_59 rfl ?_
          refine m_getR (kt := (20, 12, 40)) (by decide) dX11_cuts_60 f_X11_95 hT rfl (Nat.succ_ne_zero _) (fun q_60 h_60 => ?_)
          refine e_iload_n dX11_cuts_63 rfl ?_
          refine e_iload dX11_cuts_64 rfl ?_
          refine m_iast (by decide) dX11_cuts_66 h_60 (by omega) (by omega) ⟨by omega, by omega⟩ ?_
          refine e_iinc (ls2 := [_, _, _, _, _, _, _]) dX11_cuts_67 rfl (Nat.le_of_ble_eq_true rfl) rfl ?_
          refine e_iconst dX11_cuts_70 ?_
          refine e_istore (ls2 := [_, _, _, _, _, _, _]) dX11_cuts_71 (Nat.le_of_ble_eq_true rfl) rfl ?_
          refine e_iinc (ls2 := [_, _, _, _, _, _, _]) dX11_cuts_73 rfl (Nat.le_of_ble_eq_true rfl) rfl ?_
          refine e_goto (tgt := 8) dX11_cuts_76 (by decide) ?_
          refine e_drop (k := 6) (ls2 := [_, _, _, _, _, _, _]) rfl ?_
          refine ih (k + 1) _ _ _ _ ?_ ?_ ?_ ?_ ?_
          · omega
          · simp only [cSt, ← h2, ← h3]; split <;> first | rfl | (exfalso; omega)
          · simp only [cSt, ← h2, ← h3]; split <;> first | rfl | (exfalso; omega)
          · omega
          · simp only [cutSt, ← h2, ← h3, ← h5]; split <;> first | rfl | (exfalso; omega)
        · refine e_iload dX11_cuts_40 rfl ?_
          refine e_sipush dX11_cuts_42 (by decide) ?_
          refine e_icmp_ge (tgt := 59) dX11_cuts_45 (by decide) ⟨by omega, by omega⟩ ⟨by omega, by omega⟩ (fun c_45 => ?_) (fun c_45 => ?_)
          · refine e_aload_n dX11_cuts_59 rfl ?_
            refine m_getR (kt := (20, 12, 40)) (by decide) dX11_cuts_60 f_X11_95 hT rfl (Nat.succ_ne_zero _) (fun q_60 h_60 => ?_)
            refine e_iload_n dX11_cuts_63 rfl ?_
            refine e_iload dX11_cuts_64 rfl ?_
            refine m_iast (by decide) dX11_cuts_66 h_60 (by omega) (by omega) ⟨by omega, by omega⟩ ?_
            refine e_iinc (ls2 := [_, _, _, _, _, _, _]) dX11_cuts_67 rfl (Nat.le_of_ble_eq_true rfl) rfl ?_
            refine e_iconst dX11_cuts_70 ?_
            refine e_istore (ls2 := [_, _, _, _, _, _, _]) dX11_cuts_71 (Nat.le_of_ble_eq_true rfl) rfl ?_
            refine e_iinc (ls2 := [_, _, _, _, _, _, _]) dX11_cuts_73 rfl (Nat.le_of_ble_eq_true rfl) rfl ?_
            refine e_goto (tgt := 8) dX11_cuts_76 (by decide) ?_
            refine e_drop (k := 6) (ls2 := [_, _, _, _, _, _, _]) rfl ?_
            refine ih (k + 1) _ _ _ _ ?_ ?_ ?_ ?_ ?_
            · omega
            · simp only [cSt, ← h2, ← h3]; split <;> first | rfl | (exfalso; omega)
            · simp only [cSt, ← h2, ← h3]; split <;> first | rfl | (exfalso; omega)
            · omega
            · simp only [cutSt, ← h2, ← h3, ← h5]; split <;> first | rfl | (exfalso; omega)
          · refine e_iload dX11_cuts_48 rfl ?_
            refine e_lload_n dX11_cuts_50 rfl ?_
            refine e_cS (as := [_]) dX11_cuts_51 k_X11_lengthOf l_X11_111 s_X11_lengthOf rfl rfl rfl rfl (Nat.le_of_ble_eq_true rfl) ⟨by decide, by decide⟩ (Nat.le_of_ble_eq_true rfl) (by decide) (m_lengthOf ⟨by omega, by omega⟩) ?_
            have g_51 := mlen_nn c
            refine e_iconst dX11_cuts_54 ?_
            refine e_isub dX11_cuts_55 ?_
            refine e_icmp_ne (tgt := 73) dX11_cuts_56 (by decide) ⟨by omega, by omega⟩ ⟨by omega, by omega⟩ (fun c_56 => ?_) (fun c_56 => ?_)
            · refine e_iinc (ls2 := [_, _, _, _, _, _, _]) dX11_cuts_73 rfl (Nat.le_of_ble_eq_true rfl) rfl ?_
              refine e_goto (tgt := 8) dX11_cuts_76 (by decide) ?_
              refine e_drop (k := 6) (ls2 := [_, _, _, _, _, _, _]) rfl ?_
              refine ih (k + 1) _ _ _ _ ?_ ?_ ?_ ?_ ?_
              · omega
              · simp only [cSt, ← h2, ← h3]; split <;> first | rfl | (exfalso; omega)
              · simp only [cSt, ← h2, ← h3]; split <;> first | rfl | (exfalso; omega)
              · omega
              · simp only [cutSt, ← h2, ← h3, ← h5]; split <;> first | rfl | (exfalso; omega)
            · refine e_aload_n dX11_cuts_59 rfl ?_
              refine m_getR (kt := (20, 12, 40)) (by decide) dX11_cuts_60 f_X11_95 hT rfl (Nat.succ_ne_zero _) (fun q_60 h_60 => ?_)
              refine e_iload_n dX11_cuts_63 rfl ?_
              refine e_iload dX11_cuts_64 rfl ?_
              refine m_iast (by decide) dX11_cuts_66 h_60 (by omega) (by omega) ⟨by omega, by omega⟩ ?_
              refine e_iinc (ls2 := [_, _, _, _, _, _, _]) dX11_cuts_67 rfl (Nat.le_of_ble_eq_true rfl) rfl ?_
              refine e_iconst dX11_cuts_70 ?_
              refine e_istore (ls2 := [_, _, _, _, _, _, _]) dX11_cuts_71 (Nat.le_of_ble_eq_true rfl) rfl ?_
              refine e_iinc (ls2 := [_, _, _, _, _, _, _]) dX11_cuts_73 rfl (Nat.le_of_ble_eq_true rfl) rfl ?_
              refine e_goto (tgt := 8) dX11_cuts_76 (by decide) ?_
              refine e_drop (k := 6) (ls2 := [_, _, _, _, _, _, _]) rfl ?_
              refine ih (k + 1) _ _ _ _ ?_ ?_ ?_ ?_ ?_
              · omega
              · simp only [cSt, ← h2, ← h3]; split <;> first | rfl | (exfalso; omega)
              · simp only [cSt, ← h2, ← h3]; split <;> first | rfl | (exfalso; omega)
              · omega
              · simp only [cutSt, ← h2, ← h3, ← h5]; split <;> first | rfl | (exfalso; omega)
  have hl := mlen_nn c
  refine e_iconst dX11_cuts_0 ?_
  refine e_istore_n (ls2 := [_, _, _, _, _, _, _]) dX11_cuts_1 (Nat.le_of_ble_eq_true rfl) rfl ?_
  refine e_iconst dX11_cuts_2 ?_
  refine e_istore (ls2 := [_, _, _, _, _, _, _]) dX11_cuts_3 (Nat.le_of_ble_eq_true rfl) rfl ?_
  refine e_iconst dX11_cuts_5 ?_
  refine e_istore (ls2 := [_, _, _, _, _, _, _]) dX11_cuts_6 (Nat.le_of_ble_eq_true rfl) rfl ?_
  exact lp (mlen c).toNat 0 0 1 0 _ (by omega) rfl rfl rfl rfl
