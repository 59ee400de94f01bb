set_option maxRecDepth 20000 in
set_option maxHeartbeats 4000000 in
theorem m_numberAt {K : q_K} {M C : q_S} {a : Nat} (hT : K a = (12, 0, 50)) (hW : WR M) {m f k : Int} (hm : q_iI m) (hf : q_iI f) (hk : q_iI k) : q_E mX11_numberAt 0 [some (q_R a), some (q_I m), some (q_I f), some (q_I k), none] [] K M C 0 0 (e_is (some (q_I (numberAtF M m f k).1)) K (numberAtF M m f k).2 C) := by
  have hk1 := hk.1
  have hk2 := hk.2
  by_cases hin : inMF m f
  · refine e_iload_n dX11_numberAt_0 rfl ?_
    refine e_if_ge (tgt := 8) dX11_numberAt_1 (by decide) ⟨by omega, by omega⟩ (fun c_1 => ?_) (fun c_1 => ?_)
    · refine e_aload_n dX11_numberAt_8 rfl ?_
      refine e_iload_n dX11_numberAt_9 rfl ?_
      refine e_iload_n dX11_numberAt_10 rfl ?_
      refine e_cV (as := [_, _]) (ci := 11) dX11_numberAt_11 k_X11_asks l_X11_261 i_X11_asks v_X11_asks hT rfl (by decide) ⟨_, _, rfl⟩ rfl rfl rfl rfl (Nat.le_of_ble_eq_true rfl) ⟨by decide, by decide⟩ (Nat.le_of_ble_eq_true rfl) (by decide) (m_asks1 hT hW hm hf hin) ?_
      refine e_istore (ls2 := [_, _, _, _, _]) dX11_numberAt_14 (Nat.le_of_ble_eq_true rfl) rfl ?_
      refine e_aload_n dX11_numberAt_16 rfl ?_
      refine e_iload dX11_numberAt_17 rfl ?_
      refine e_iconst dX11_numberAt_19 ?_
      refine e_icmp_ne (tgt := 27) dX11_numberAt_20 (by decide) ⟨by omega, by omega⟩ ⟨by omega, by omega⟩ (fun c_20 => ?_) (fun c_20 => ?_)
      · refine e_iconst dX11_numberAt_27 ?_
        refine m_putI (by decide) dX11_numberAt_28 f_X11_101 rfl hT ⟨by omega, by omega⟩ ?_
        refine e_iload dX11_numberAt_31 rfl ?_
        refine e_iconst dX11_numberAt_33 ?_
        refine e_icmp_ne (tgt := 41) dX11_numberAt_34 (by decide) ⟨by omega, by omega⟩ ⟨by omega, by omega⟩ (fun c_34 => ?_) (fun c_34 => ?_)
        · refine e_aload_n dX11_numberAt_41 rfl ?_
          refine m_getR (kt := (20, 48, 2)) (by decide) dX11_numberAt_42 f_X11_7 hT rfl (Nat.succ_ne_zero _) (fun q_42 h_42 => ?_)
          refine e_iload dX11_numberAt_45 rfl ?_
          refine m_iald (by decide) dX11_numberAt_47 h_42 (by omega) (by omega) ?_
          simp only [q_us_ap, editsF_3, Int.reduceEq, Int.reduceNeg, false_and, and_false, and_self, if_true, if_false, true_and, and_true, ite_self]
          have g_47 := rg_2 hW (16 * m + f) (by omega) (by omega)
          refine e_iconst dX11_numberAt_48 ?_
          refine e_icmp_ne (tgt := 66) dX11_numberAt_49 (by decide) ⟨by omega, by omega⟩ ⟨by omega, by omega⟩ (fun c_49 => ?_) (fun c_49 => ?_)
          · refine e_iconst dX11_numberAt_66 ?_
            refine e_goto (tgt := 81) dX11_numberAt_67 (by decide) ?_
            refine e_iret dX11_numberAt_81 (Or.inl rfl) ?_
            unfold numberAtF
            first
            | (rw [if_pos (by omega)]; first | (rw [if_pos (by omega)]; exact e_ok rfl rfl rfl) | (rw [if_neg (by omega)]; unfold asksF; rw [if_neg hin]; exact e_ok rfl rfl rfl))
            | (rw [if_neg (show ¬ ¬ (0 ≤ k ∧ inMF m f) from fun h => h ⟨by omega, hin⟩)]; first | (rw [if_pos (by omega)]; exact e_ok rfl rfl rfl) | (rw [if_neg (by omega)]; exact e_ok rfl rfl rfl))
            | (exfalso; omega)
          · refine e_iload_n dX11_numberAt_52 rfl ?_
            refine e_aload_n dX11_numberAt_53 rfl ?_
            refine m_getR (kt := (21, 48, 3)) (by decide) dX11_numberAt_54 f_X11_13 hT rfl (Nat.succ_ne_zero _) (fun q_54 h_54 => ?_)
            refine e_iload dX11_numberAt_57 rfl ?_
            refine m_lald (by decide) dX11_numberAt_59 h_54 (by omega) (by omega) ?_
            simp only [q_us_ap, editsF_3, Int.reduceEq, Int.reduceNeg, false_and, and_false, and_self, if_true, if_false, true_and, and_true, ite_self]
            have g_59 := rg_3 hW (16 * m + f) (by omega) (by omega)
            refine e_cS (as := [_]) dX11_numberAt_60 k_X11_lengthOf l_X11_111 s_X11_lengthOf rfl rfl rfl rfl (Nat.le_of_ble_eq_true rfl) ⟨by decide, by decide⟩ (Nat.le_of_ble_eq_true rfl) (by decide) (m_lengthOf ⟨by omega, by omega⟩) ?_
            try simp only [lockF_thr, rightF_thr, latestOf_thr, asOfT_thr]
            have g_60 := mlen_nn (M 3 (16 * m + f))
            refine e_icmp_lt (tgt := 70) dX11_numberAt_63 (by decide) ⟨by omega, by omega⟩ ⟨by omega, by omega⟩ (fun c_63 => ?_) (fun c_63 => ?_)
            · refine e_aload_n dX11_numberAt_70 rfl ?_
              refine m_getR (kt := (21, 48, 3)) (by decide) dX11_numberAt_71 f_X11_13 hT rfl (Nat.succ_ne_zero _) (fun q_71 h_71 => ?_)
              refine e_iload dX11_numberAt_74 rfl ?_
              refine m_lald (by decide) dX11_numberAt_76 h_71 (by omega) (by omega) ?_
              simp only [q_us_ap, editsF_3, Int.reduceEq, Int.reduceNeg, false_and, and_false, and_self, if_true, if_false, true_and, and_true, ite_self]
              have g_76 := rg_3 hW (16 * m + f) (by omega) (by omega)
              refine e_iload_n dX11_numberAt_77 rfl ?_
              refine e_cS (as := [_, _]) dX11_numberAt_78 k_X11_figure l_X11_115 s_X11_figure rfl rfl rfl rfl (Nat.le_of_ble_eq_true rfl) ⟨by decide, by decide⟩ (Nat.le_of_ble_eq_true rfl) (by decide) (m_figure ⟨by omega, by omega⟩ ⟨by omega, by omega⟩) ?_
              try simp only [lockF_thr, rightF_thr, latestOf_thr, asOfT_thr]
              refine e_iret dX11_numberAt_81 (Or.inl rfl) ?_
              unfold numberAtF
              first
              | (rw [if_pos (by omega)]; first | (rw [if_pos (by omega)]; exact e_ok rfl rfl rfl) | (rw [if_neg (by omega)]; unfold asksF; rw [if_neg hin]; exact e_ok rfl rfl rfl))
              | (rw [if_neg (show ¬ ¬ (0 ≤ k ∧ inMF m f) from fun h => h ⟨by omega, hin⟩)]; first | (rw [if_pos (by omega)]; exact e_ok rfl rfl rfl) | (rw [if_neg (by omega)]; exact e_ok rfl rfl rfl))
              | (exfalso; omega)
            · refine e_iconst dX11_numberAt_66 ?_
              refine e_goto (tgt := 81) dX11_numberAt_67 (by decide) ?_
              refine e_iret dX11_numberAt_81 (Or.inl rfl) ?_
              unfold numberAtF
              first
              | (rw [if_pos (by omega)]; first | (rw [if_pos (by omega)]; exact e_ok rfl rfl rfl) | (rw [if_neg (by omega)]; unfold asksF; rw [if_neg hin]; exact e_ok rfl rfl rfl))
              | (rw [if_neg (show ¬ ¬ (0 ≤ k ∧ inMF m f) from fun h => h ⟨by omega, hin⟩)]; first | (rw [if_pos (by omega)]; exact e_ok rfl rfl rfl) | (rw [if_neg (by omega)]; exact e_ok rfl rfl rfl))
              | (exfalso; omega)
        · refine e_iconst dX11_numberAt_37 ?_
          refine e_goto (tgt := 81) dX11_numberAt_38 (by decide) ?_
          refine e_iret dX11_numberAt_81 (Or.inl rfl) ?_
          unfold numberAtF
          first
          | (rw [if_pos (by omega)]; first | (rw [if_pos (by omega)]; exact e_ok rfl rfl rfl) | (rw [if_neg (by omega)]; unfold asksF; rw [if_neg hin]; exact e_ok rfl rfl rfl))
          | (rw [if_neg (show ¬ ¬ (0 ≤ k ∧ inMF m f) from fun h => h ⟨by omega, hin⟩)]; first | (rw [if_pos (by omega)]; exact e_ok rfl rfl rfl) | (rw [if_neg (by omega)]; exact e_ok rfl rfl rfl))
          | (exfalso; omega)
      · refine e_iconst dX11_numberAt_23 ?_
        refine e_goto (tgt := 28) dX11_numberAt_24 (by decide) ?_
        refine m_putI (by decide) dX11_numberAt_28 f_X11_101 rfl hT ⟨by omega, by omega⟩ ?_
        refine e_iload dX11_numberAt_31 rfl ?_
        refine e_iconst dX11_numberAt_33 ?_
        refine e_icmp_ne (tgt := 41) dX11_numberAt_34 (by decide) ⟨by omega, by omega⟩ ⟨by omega, by omega⟩ (fun c_34 => ?_) (fun c_34 => ?_)
        · refine e_aload_n dX11_numberAt_41 rfl ?_
          refine m_getR (kt := (20, 48, 2)) (by decide) dX11_numberAt_42 f_X11_7 hT rfl (Nat.succ_ne_zero _) (fun q_42 h_42 => ?_)
          refine e_iload dX11_numberAt_45 rfl ?_
          refine m_iald (by decide) dX11_numberAt_47 h_42 (by omega) (by omega) ?_
          simp only [q_us_ap, editsF_3, Int.reduceEq, Int.reduceNeg, false_and, and_false, and_self, if_true, if_false, true_and, and_true, ite_self]
          have g_47 := rg_2 hW (16 * m + f) (by omega) (by omega)
          refine e_iconst dX11_numberAt_48 ?_
          refine e_icmp_ne (tgt := 66) dX11_numberAt_49 (by decide) ⟨by omega, by omega⟩ ⟨by omega, by omega⟩ (fun c_49 => ?_) (fun c_49 => ?_)
          · refine e_iconst dX11_numberAt_66 ?_
            refine e_goto (tgt := 81) dX11_numberAt_67 (by decide) ?_
            refine e_iret dX11_numberAt_81 (Or.inl rfl) ?_
            unfold numberAtF
            first
            | (rw [if_pos (by omega)]; first | (rw [if_pos (by omega)]; exact e_ok rfl rfl rfl) | (rw [if_neg (by omega)]; unfold asksF; rw [if_neg hin]; exact e_ok rfl rfl rfl))
            | (rw [if_neg (show ¬ ¬ (0 ≤ k ∧ inMF m f) from fun h => h ⟨by omega, hin⟩)]; first | (rw [if_pos (by omega)]; exact e_ok rfl rfl rfl) | (rw [if_neg (by omega)]; exact e_ok rfl rfl rfl))
            | (exfalso; omega)
          · refine e_iload_n dX11_numberAt_52 rfl ?_
            refine e_aload_n dX11_numberAt_53 rfl ?_
            refine m_getR (kt := (21, 48, 3)) (by decide) dX11_numberAt_54 f_X11_13 hT rfl (Nat.succ_ne_zero _) (fun q_54 h_54 => ?_)
            refine e_iload dX11_numberAt_57 rfl ?_
            refine m_lald (by decide) dX11_numberAt_59 h_54 (by omega) (by omega) ?_
            simp only [q_us_ap, editsF_3, Int.reduceEq, Int.reduceNeg, false_and, and_false, and_self, if_true, if_false, true_and, and_true, ite_self]
            have g_59 := rg_3 hW (16 * m + f) (by omega) (by omega)
            refine e_cS (as := [_]) dX11_numberAt_60 k_X11_lengthOf l_X11_111 s_X11_lengthOf rfl rfl rfl rfl (Nat.le_of_ble_eq_true rfl) ⟨by decide, by decide⟩ (Nat.le_of_ble_eq_true rfl) (by decide) (m_lengthOf ⟨by omega, by omega⟩) ?_
            try simp only [lockF_thr, rightF_thr, latestOf_thr, asOfT_thr]
            have g_60 := mlen_nn (M 3 (16 * m + f))
            refine e_icmp_lt (tgt := 70) dX11_numberAt_63 (by decide) ⟨by omega, by omega⟩ ⟨by omega, by omega⟩ (fun c_63 => ?_) (fun c_63 => ?_)
            · refine e_aload_n dX11_numberAt_70 rfl ?_
              refine m_getR (kt := (21, 48, 3)) (by decide) dX11_numberAt_71 f_X11_13 hT rfl (Nat.succ_ne_zero _) (fun q_71 h_71 => ?_)
              refine e_iload dX11_numberAt_74 rfl ?_
              refine m_lald (by decide) dX11_numberAt_76 h_71 (by omega) (by omega) ?_
              simp only [q_us_ap, editsF_3, Int.reduceEq, Int.reduceNeg, false_and, and_false, and_self, if_true, if_false, true_and, and_true, ite_self]
              have g_76 := rg_3 hW (16 * m + f) (by omega) (by omega)
              refine e_iload_n dX11_numberAt_77 rfl ?_
              refine e_cS (as := [_, _]) dX11_numberAt_78 k_X11_figure l_X11_115 s_X11_figure rfl rfl rfl rfl (Nat.le_of_ble_eq_true rfl) ⟨by decide, by decide⟩ (Nat.le_of_ble_eq_true rfl) (by decide) (m_figure ⟨by omega, by omega⟩ ⟨by omega, by omega⟩) ?_
              try simp only [lockF_thr, rightF_thr, latestOf_thr, asOfT_thr]
              refine e_iret dX11_numberAt_81 (Or.inl rfl) ?_
              unfold numberAtF
              first
              | (rw [if_pos (by omega)]; first | (rw [if_pos (by omega)]; exact e_ok rfl rfl rfl) | (rw [if_neg (by omega)]; unfold asksF; rw [if_neg hin]; exact e_ok rfl rfl rfl))
              | (rw [if_neg (show ¬ ¬ (0 ≤ k ∧ inMF m f) from fun h => h ⟨by omega, hin⟩)]; first | (rw [if_pos (by omega)]; exact e_ok rfl rfl rfl) | (rw [if_neg (by omega)]; exact e_ok rfl rfl rfl))
              | (exfalso; omega)
            · refine e_iconst dX11_numberAt_66 ?_
              refine e_goto (tgt := 81) dX11_numberAt_67 (by decide) ?_
              refine e_iret dX11_numberAt_81 (Or.inl rfl) ?_
              unfold numberAtF
              first
              | (rw [if_pos (by omega)]; first | (rw [if_pos (by omega)]; exact e_ok rfl rfl rfl) | (rw [if_neg (by omega)]; unfold asksF; rw [if_neg hin]; exact e_ok rfl rfl rfl))
              | (rw [if_neg (show ¬ ¬ (0 ≤ k ∧ inMF m f) from fun h => h ⟨by omega, hin⟩)]; first | (rw [if_pos (by omega)]; exact e_ok rfl rfl rfl) | (rw [if_neg (by omega)]; exact e_ok rfl rfl rfl))
              | (exfalso; omega)
        · refine e_iconst dX11_numberAt_37 ?_
          refine e_goto (tgt := 81) dX11_numberAt_38 (by decide) ?_
          refine e_iret dX11_numberAt_81 (Or.inl rfl) ?_
          unfold numberAtF
          first
          | (rw [if_pos (by omega)]; first | (rw [if_pos (by omega)]; exact e_ok rfl rfl rfl) | (rw [if_neg (by omega)]; unfold asksF; rw [if_neg hin]; exact e_ok rfl rfl rfl))
          | (rw [if_neg (show ¬ ¬ (0 ≤ k ∧ inMF m f) from fun h => h ⟨by omega, hin⟩)]; first | (rw [if_pos (by omega)]; exact e_ok rfl rfl rfl) | (rw [if_neg (by omega)]; exact e_ok rfl rfl rfl))
          | (exfalso; omega)
    · refine e_iconst dX11_numberAt_4 ?_
      refine e_goto (tgt := 14) dX11_numberAt_5 (by decide) ?_
      refine e_istore (ls2 := [_, _, _, _, _]) dX11_numberAt_14 (Nat.le_of_ble_eq_true rfl) rfl ?_
      refine e_aload_n dX11_numberAt_16 rfl ?_
      refine e_iload dX11_numberAt_17 rfl ?_
      refine e_iconst dX11_numberAt_19 ?_
      refine e_icmp_ne (tgt := 27) dX11_numberAt_20 (by decide) ⟨by decide, by decide⟩ ⟨by decide, by decide⟩ (fun c_20 => ?_) (fun c_20 => ?_)
      · exact absurd c_20 (by decide)
      · refine e_iconst dX11_numberAt_23 ?_
        refine e_goto (tgt := 28) dX11_numberAt_24 (by decide) ?_
        refine m_putI (by decide) dX11_numberAt_28 f_X11_101 rfl hT ⟨by omega, by omega⟩ ?_
        refine e_iload dX11_numberAt_31 rfl ?_
        refine e_iconst dX11_numberAt_33 ?_
        refine e_icmp_ne (tgt := 41) dX11_numberAt_34 (by decide) ⟨by decide, by decide⟩ ⟨by decide, by decide⟩ (fun c_34 => ?_) (fun c_34 => ?_)
        · exact absurd c_34 (by decide)
        · refine e_iconst dX11_numberAt_37 ?_
          refine e_goto (tgt := 81) dX11_numberAt_38 (by decide) ?_
          refine e_iret dX11_numberAt_81 (Or.inl rfl) ?_
          unfold numberAtF
          first
          | (rw [if_pos (by omega)]; first | (rw [if_pos (by omega)]; exact e_ok rfl rfl rfl) | (rw [if_neg (by omega)]; unfold asksF; rw [if_neg hin]; exact e_ok rfl rfl rfl))
          | (rw [if_neg (show ¬ ¬ (0 ≤ k ∧ inMF m f) from fun h => h ⟨by omega, hin⟩)]; first | (rw [if_pos (by omega)]; exact e_ok rfl rfl rfl) | (rw [if_neg (by omega)]; exact e_ok rfl rfl rfl))
          | (exfalso; omega)
  · refine e_iload_n dX11_numberAt_0 rfl ?_
    refine e_if_ge (tgt := 8) dX11_numberAt_1 (by decide) ⟨by omega, by omega⟩ (fun c_1 => ?_) (fun c_1 => ?_)
    · refine e_aload_n dX11_numberAt_8 rfl ?_
      refine e_iload_n dX11_numberAt_9 rfl ?_
      refine e_iload_n dX11_numberAt_10 rfl ?_
      refine e_cV (as := [_, _]) (ci := 11) dX11_numberAt_11 k_X11_asks l_X11_261 i_X11_asks v_X11_asks hT rfl (by decide) ⟨_, _, rfl⟩ rfl rfl rfl rfl (Nat.le_of_ble_eq_true rfl) ⟨by decide, by decide⟩ (Nat.le_of_ble_eq_true rfl) (by decide) (m_asks0 hT hW hm hf hin) ?_
      refine e_istore (ls2 := [_, _, _, _, _]) dX11_numberAt_14 (Nat.le_of_ble_eq_true rfl) rfl ?_
      refine e_aload_n dX11_numberAt_16 rfl ?_
      refine e_iload dX11_numberAt_17 rfl ?_
      refine e_iconst dX11_numberAt_19 ?_
      refine e_icmp_ne (tgt := 27) dX11_numberAt_20 (by decide) ⟨by decide, by decide⟩ ⟨by decide, by decide⟩ (fun c_20 => ?_) (fun c_20 => ?_)
      · exact absurd c_20 (by decide)
      · refine e_iconst dX11_numberAt_23 ?_
        refine e_goto (tgt := 28) dX11_numberAt_24 (by decide) ?_
        refine m_putI (by decide) dX11_numberAt_28 f_X11_101 rfl hT ⟨by omega, by omega⟩ ?_
        refine e_iload dX11_numberAt_31 rfl ?_
        refine e_iconst dX11_numberAt_33 ?_
        refine e_icmp_ne (tgt := 41) dX11_numberAt_34 (by decide) ⟨by decide, by decide⟩ ⟨by decide, by decide⟩ (fun c_34 => ?_) (fun c_34 => ?_)
        · exact absurd c_34 (by decide)
        · refine e_iconst dX11_numberAt_37 ?_
          refine e_goto (tgt := 81) dX11_numberAt_38 (by decide) ?_
          refine e_iret dX11_numberAt_81 (Or.inl rfl) ?_
          unfold numberAtF
          first
          | (rw [if_pos (by omega)]; first | (rw [if_pos (by omega)]; exact e_ok rfl rfl rfl) | (rw [if_neg (by omega)]; unfold asksF; rw [if_neg hin]; exact e_ok rfl rfl rfl))
          | (rw [if_neg (show ¬ ¬ (0 ≤ k ∧ inMF m f) from fun h => h ⟨by omega, hin⟩)]; first | (rw [if_pos (by omega)]; exact e_ok rfl rfl rfl) | (rw [if_neg (by omega)]; exact e_ok rfl rfl rfl))
          | (exfalso; omega)
    · refine e_iconst dX11_numberAt_4 ?_
      refine e_goto (tgt := 14) dX11_numberAt_5 (by decide) ?_
      refine e_istore (ls2 := [_, _, _, _, _]) dX11_numberAt_14 (Nat.le_of_ble_eq_true rfl) rfl ?_
      refine e_aload_n dX11_numberAt_16 rfl ?_
      refine e_iload dX11_numberAt_17 rfl ?_
      refine e_iconst dX11_numberAt_19 ?_
      refine e_icmp_ne (tgt := 27) dX11_numberAt_20 (by decide) ⟨by decide, by decide⟩ ⟨by decide, by decide⟩ (fun c_20 => ?_) (fun c_20 => ?_)
      · exact absurd c_20 (by decide)
      · refine e_iconst dX11_numberAt_23 ?_
        refine e_goto (tgt := 28) dX11_numberAt_24 (by decide) ?_
        refine m_putI (by decide) dX11_numberAt_28 f_X11_101 rfl hT ⟨by omega, by omega⟩ ?_
        refine e_iload dX11_numberAt_31 rfl ?_
        refine e_iconst dX11_numberAt_33 ?_
        refine e_icmp_ne (tgt := 41) dX11_numberAt_34 (by decide) ⟨by decide, by decide⟩ ⟨by decide, by decide⟩ (fun c_34 => ?_) (fun c_34 => ?_)
        · exact absurd c_34 (by decide)
        · refine e_iconst dX11_numberAt_37 ?_
          refine e_goto (tgt := 81) dX11_numberAt_38 (by decide) ?_
          refine e_iret dX11_numberAt_81 (Or.inl rfl) ?_
          unfold numberAtF
          first
          | (rw [if_pos (by omega)]; first | (rw [if_pos (by omega)]; exact e_ok rfl rfl rfl) | (rw [if_neg (by omega)]; unfold asksF; rw [if_neg hin]; exact e_ok rfl rfl rfl))
          | (rw [if_neg (show ¬ ¬ (0 ≤ k ∧ inMF m f) from fun h => h ⟨by omega, hin⟩)]; first | (rw [if_pos (by omega)]; exact e_ok rfl rfl rfl) | (rw [if_neg (by omega)]; exact e_ok rfl rfl rfl))
          | (exfalso; omega)
set_option maxRecDepth 20000 in
set_option maxHeartbeats 4000000 in
theorem m_damage_l {K : q_K} {M C : q_S} {a : Nat} (hT : K a = (12, 0, 50)) (hW : WR M) {p : Int} (hp : 0 ≤ p ∧ p ≤ M 50 34 - 1) : ∀ (r k : Nat) (s c : Int) (S : q_S), (k + r = 20000) → ((s, S) = daF (thr M 0) p k) → (c = k) → (0 ≤ s ∧ s ≤ k) → (WR S) → (S 50 41 = 0) → q_E mX11_damage 27 [some (q_R a), some (q_I p), some (q_I s), some (q_I c)] [] K S C 0 0 (e_is (some (q_I (daF (thr M 0) p 20000).1)) K (daF (thr M 0) p 20000).2 C) := by
  have g34 := rs_34 hW
  intro r
  induction r with
  | zero =>
    intro k s c S h1 h2 h3 h4 hS h6
    refine e_iload_n dX11_damage_27 rfl ?_
    refine e_sipush dX11_damage_28 (by decide) ?_
    refine e_icmp_ge (tgt := 78) dX11_damage_31 (by decide) ⟨by omega, by omega⟩ ⟨by omega, by omega⟩ (fun c_31 => ?_) (fun c_31 => ?_)
    · refine e_iload_n dX11_damage_78 rfl ?_
      exact e_iret dX11_damage_79 (Or.inl rfl) (e_ok (by rw [show 20000 = k by omega, ← h2]) (by rw [show 20000 = k by omega, ← h2]) rfl)
    · exfalso; omega
  | succ r ih =>
    intro k s c S h1 h2 h3 h4 hS h6
    refine e_iload_n dX11_damage_27 rfl ?_
    refine e_sipush dX11_damage_28 (by decide) ?_
    refine e_icmp_ge (tgt := 78) dX11_damage_31 (by decide) ⟨by omega, by omega⟩ ⟨by omega, by omega⟩ (fun c_31 => ?_) (fun c_31 => ?_)
    · exfalso; omega
    · refine e_aload_n dX11_damage_34 rfl ?_
      refine m_getI (by decide) dX11_damage_35 f_X11_101 (Or.inl rfl) hT ?_
      have g_35 := rs_41 hS
      refine e_if_ne (tgt := 78) dX11_damage_38 (by decide) ⟨by omega, by omega⟩ (fun c_38 => ?_) (fun c_38 => ?_)
      · exfalso; omega
      · refine e_aload_n dX11_damage_41 rfl ?_
        refine m_getR (kt := (20, 20000, 31)) (by decide) dX11_damage_42 f_X11_83 hT rfl (Nat.succ_ne_zero _) (fun q_42 h_42 => ?_)
        refine e_iload_n dX11_damage_45 rfl ?_
        refine m_iaw (by decide) (rg_31 hS) dX11_damage_46 h_42 (by omega) (by omega) (fun g_46 => ?_)
        refine e_iload_n dX11_damage_47 rfl ?_
        refine e_iconst dX11_damage_48 ?_
        refine e_iadd dX11_damage_49 ?_
        refine e_icmp_ne (tgt := 72) dX11_damage_50 (by decide) ⟨by omega, by omega⟩ ⟨by omega, by omega⟩ (fun c_50 => ?_) (fun c_50 => ?_)
        · refine e_iinc (ls2 := [_, _, _, _]) dX11_damage_72 rfl (Nat.le_of_ble_eq_true rfl) rfl ?_
          refine e_goto (tgt := 27) dX11_damage_75 (by decide) ?_
          exact ih (k + 1) _ _ _ (by omega) (by simp only [daF, ← h2, ← h3]; split <;> first | rfl | (exfalso; omega)) (by omega) (by omega) (by first | exact hS | exact WR.up hS ⟨(show (0 : Int) ≤ 1 by decide), (show (1 : Int) ≤ 1 by decide)⟩) h6
        · refine e_aload_n dX11_damage_53 rfl ?_
          refine m_getR (kt := (20, 20000, 32)) (by decide) dX11_damage_54 f_X11_86 hT rfl (Nat.succ_ne_zero _) (fun q_54 h_54 => ?_)
          refine e_iload_n dX11_damage_57 rfl ?_
          refine m_iaw (by decide) (rg_32 hS) dX11_damage_58 h_54 (by omega) (by omega) (fun g_58 => ?_)
          refine e_if_ne (tgt := 72) dX11_damage_59 (by decide) ⟨by omega, by omega⟩ (fun c_59 => ?_) (fun c_59 => ?_)
          · refine e_iinc (ls2 := [_, _, _, _]) dX11_damage_72 rfl (Nat.le_of_ble_eq_true rfl) rfl ?_
            refine e_goto (tgt := 27) dX11_damage_75 (by decide) ?_
            exact ih (k + 1) _ _ _ (by omega) (by simp only [daF, ← h2, ← h3]; split <;> first | rfl | (exfalso; omega)) (by omega) (by omega) (by first | exact hS | exact WR.up hS ⟨(show (0 : Int) ≤ 1 by decide), (show (1 : Int) ≤ 1 by decide)⟩) h6
          · refine e_aload_n dX11_damage_62 rfl ?_
            refine m_getR (kt := (20, 20000, 32)) (by decide) dX11_damage_63 f_X11_86 hT rfl (Nat.succ_ne_zero _) (fun q_63 h_63 => ?_)
            refine e_iload_n dX11_damage_66 rfl ?_
            refine e_iconst dX11_damage_67 ?_
            refine m_iast (by decide) dX11_damage_68 h_63 (by omega) (by omega) ⟨by omega, by omega⟩ ?_
            refine e_iinc (ls2 := [_, _, _, _]) dX11_damage_69 rfl (Nat.le_of_ble_eq_true rfl) rfl ?_
            refine e_iinc (ls2 := [_, _, _, _]) dX11_damage_72 rfl (Nat.le_of_ble_eq_true rfl) rfl ?_
            refine e_goto (tgt := 27) dX11_damage_75 (by decide) ?_
            exact ih (k + 1) _ _ _ (by omega) (by simp only [daF, ← h2, ← h3]; split <;> first | rfl | (exfalso; omega)) (by omega) (by omega) (by first | exact hS | exact WR.up hS ⟨(show (0 : Int) ≤ 1 by decide), (show (1 : Int) ≤ 1 by decide)⟩) h6
set_option maxRecDepth 20000 in
set_option maxHeartbeats 4000000 in
theorem m_damage {K : q_K} {M C : q_S} {a : Nat} (hT : K a = (12, 0, 50)) (hW : WR M) {p : Int} (hq : q_iI p) : q_E mX11_damage 0 [some (q_R a), some (q_I p), none, none] [] K M C 0 0 (e_is (some (q_I (damageF M p).1)) K (damageF M p).2 C) := by
  have g34 := rs_34 hW
  by_cases e0 : 0 ≤ p ∧ p ≤ M 50 34 - 1
  · refine e_aload_n dX11_damage_0 rfl ?_
    refine e_iload_n dX11_damage_1 rfl ?_
    refine e_iconst dX11_damage_2 ?_
    refine e_aload_n dX11_damage_3 rfl ?_
    refine m_getI (by decide) dX11_damage_4 f_X11_196 (Or.inl rfl) hT ?_
    have g_4 := rs_34 hW
    refine e_iconst dX11_damage_7 ?_
    refine e_isub dX11_damage_8 ?_
    refine e_cS (as := [_, _, _]) dX11_damage_9 k_X11_in l_X11_105 s_X11_in rfl rfl rfl rfl (Nat.le_of_ble_eq_true rfl) ⟨by decide, by decide⟩ (Nat.le_of_ble_eq_true rfl) (by decide) (m_in (by first | assumption | exact ⟨by decide, by decide⟩ | exact ⟨by omega, by omega⟩) (by first | assumption | exact ⟨by decide, by decide⟩ | exact ⟨by omega, by omega⟩) (by first | assumption | exact ⟨by decide, by decide⟩ | exact ⟨by omega, by omega⟩)) ?_
    refine e_if_eq (tgt := 19) dX11_damage_12 (by decide) bi_iI (fun c_12 => ?_) (fun c_12 => ?_)
    · simp only [bi_z, Classical.not_not] at c_12
      exfalso; omega
    · simp only [bi_z, Classical.not_not] at c_12
      refine e_iconst dX11_damage_15 ?_
      refine e_goto (tgt := 20) dX11_damage_16 (by decide) ?_
      refine m_putI (by decide) dX11_damage_20 f_X11_101 rfl hT ⟨by omega, by omega⟩ ?_
      refine e_iconst dX11_damage_23 ?_
      refine e_istore_n (ls2 := [_, _, _, _]) dX11_damage_24 (Nat.le_of_ble_eq_true rfl) rfl ?_
      refine e_iconst dX11_damage_25 ?_
      refine e_istore_n (ls2 := [_, _, _, _]) dX11_damage_26 (Nat.le_of_ble_eq_true rfl) rfl ?_
      have := m_damage_l (C := C) hT hW e0 20000 0 0 0 (thr M 0) (by omega) rfl rfl ⟨by decide, by decide⟩ (WR.up hW ⟨by decide, by decide⟩) rfl
      unfold damageF; rw [if_neg (Classical.not_not.mpr e0)]; exact this
  ·
    refine e_aload_n dX11_damage_0 rfl ?_
    refine e_iload_n dX11_damage_1 rfl ?_
    refine e_iconst dX11_damage_2 ?_
    refine e_aload_n dX11_damage_3 rfl ?_
    refine m_getI (by decide) dX11_damage_4 f_X11_196 (Or.inl rfl) hT ?_
    have g_4 := rs_34 hW
    refine e_iconst dX11_damage_7 ?_
    refine e_isub dX11_damage_8 ?_
    refine e_cS (as := [_, _, _]) dX11_damage_9 k_X11_in l_X11_105 s_X11_in rfl rfl rfl rfl (Nat.le_of_ble_eq_true rfl) ⟨by decide, by decide⟩ (Nat.le_of_ble_eq_true rfl) (by decide) (m_in (by first | assumption | exact ⟨by decide, by decide⟩ | exact ⟨by omega, by omega⟩) (by first | assumption | exact ⟨by decide, by decide⟩ | exact ⟨by omega, by omega⟩) (by first | assumption | exact ⟨by decide, by decide⟩ | exact ⟨by omega, by omega⟩)) ?_
    refine e_if_eq (tgt := 19) dX11_damage_12 (by decide) bi_iI (fun c_12 => ?_) (fun c_12 => ?_)
    · simp only [bi_z, Classical.not_not] at c_12
      refine e_iconst dX11_damage_19 ?_
      refine m_putI (by decide) dX11_damage_20 f_X11_101 rfl hT ⟨by omega, by omega⟩ ?_
      refine e_iconst dX11_damage_23 ?_
      refine e_istore_n (ls2 := [_, _, _, _]) dX11_damage_24 (Nat.le_of_ble_eq_true rfl) rfl ?_
      refine e_iconst dX11_damage_25 ?_
      refine e_istore_n (ls2 := [_, _, _, _]) dX11_damage_26 (Nat.le_of_ble_eq_true rfl) rfl ?_
      refine e_iload_n dX11_damage_27 rfl ?_
      refine e_sipush dX11_damage_28 (by decide) ?_
      refine e_icmp_ge (tgt := 78) dX11_damage_31 (by decide) ⟨by decide, by decide⟩ ⟨by decide, by decide⟩ (fun c_31 => ?_) (fun c_31 => ?_)
      · exact absurd c_31 (by decide)
      · refine e_aload_n dX11_damage_34 rfl ?_
        refine m_getI (by decide) dX11_damage_35 f_X11_101 (Or.inl rfl) hT ?_
        simp only [q_us_ap, editsF_3, Int.reduceEq, Int.reduceNeg, false_and, and_false, and_self, if_true, if_false, true_and, and_true, ite_self]
        have g_35 := rs_41 hW
        refine e_if_ne (tgt := 78) dX11_damage_38 (by decide) ⟨by decide, by decide⟩ (fun c_38 => ?_) (fun c_38 => ?_)
        · refine e_iload_n dX11_damage_78 rfl ?_
          exact e_iret dX11_damage_79 (Or.inl rfl) (e_ok (by unfold damageF; rw [if_pos e0]) (by unfold damageF; rw [if_pos e0]) rfl)
        · exact absurd c_38 (by decide)
    · simp only [bi_z, Classical.not_not] at c_12
      exfalso; omega
set_option maxRecDepth 20000 in
set_option maxHeartbeats 4000000 in
theorem m_scrub_l {K : q_K} {M C : q_S} {a : Nat} (hT : K a = (12, 0, 50)) (hW : WR M) : ∀ (r k : Nat) (s c : Int) (S : q_S), (k + r = 20000) → ((s, S) = srF (thr M 0) k) → (c = k) → (0 ≤ s ∧ s ≤ k) → (WR S) → q_E mX11_scrub 9 [some (q_R a), some (q_I s), some (q_I c)] [] K S C 0 0 (e_is (some (q_I (scrubF M).1)) K (scrubF M).2 C) := by
  intro r
  induction r with
  | zero =>
    intro k s c S h1 h2 h3 h4 hS
    refine e_iload_n dX11_scrub_9 rfl ?_
    refine e_sipush dX11_scrub_10 (by decide) ?_
    refine e_icmp_ge (tgt := 52) dX11_scrub_13 (by decide) ⟨by omega, by omega⟩ ⟨by omega, by omega⟩ (fun c_13 => ?_) (fun c_13 => ?_)
    · refine e_iload_n dX11_scrub_52 rfl ?_
      exact e_iret dX11_scrub_53 (Or.inl rfl) (e_ok (by unfold scrubF; rw [show 20000 = k by omega, ← h2]) (by unfold scrubF; rw [show 20000 = k by omega, ← h2]) rfl)
    · exfalso; omega
  | succ r ih =>
    intro k s c S h1 h2 h3 h4 hS
    refine e_iload_n dX11_scrub_9 rfl ?_
    refine e_sipush dX11_scrub_10 (by decide) ?_
    refine e_icmp_ge (tgt := 52) dX11_scrub_13 (by decide) ⟨by omega, by omega⟩ ⟨by omega, by omega⟩ (fun c_13 => ?_) (fun c_13 => ?_)
    · exfalso; omega
    · refine e_aload_n dX11_scrub_16 rfl ?_
      refine m_getR (kt := (20, 20000, 32)) (by decide) dX11_scrub_17 f_X11_86 hT rfl (Nat.succ_ne_zero _) (fun q_17 h_17 => ?_)
      refine e_iload_n dX11_scrub_20 rfl ?_
      refine m_iaw (by decide) (rg_32 hS) dX11_scrub_21 h_17 (by omega) (by omega) (fun g_21 => ?_)
      refine e_iconst dX11_scrub_22 ?_
      refine e_icmp_ne (tgt := 46) dX11_scrub_23 (by decide) ⟨by omega, by omega⟩ ⟨by omega, by omega⟩ (fun c_23 => ?_) (fun c_23 => ?_)
      · refine e_iinc (ls2 := [_, _, _]) dX11_scrub_46 rfl (Nat.le_of_ble_eq_true rfl) rfl ?_
        refine e_goto (tgt := 9) dX11_scrub_49 (by decide) ?_
        exact ih (k + 1) _ _ _ (by omega) (by simp only [srF, ← h2, ← h3]; split <;> first | rfl | (exfalso; omega)) (by omega) (by omega) (by first | exact hS | exact WR.up hS ⟨(show (0 : Int) ≤ 0 by decide), (show (0 : Int) ≤ 1 by decide)⟩)
      · refine e_aload_n dX11_scrub_26 rfl ?_
        refine m_getR (kt := (20, 20000, 33)) (by decide) dX11_scrub_27 f_X11_89 hT rfl (Nat.succ_ne_zero _) (fun q_27 h_27 => ?_)
        refine e_iload_n dX11_scrub_30 rfl ?_
        refine m_iaw (by decide) (rg_33 hS) dX11_scrub_31 h_27 (by omega) (by omega) (fun g_31 => ?_)
        refine e_iconst dX11_scrub_32 ?_
        refine e_icmp_ne (tgt := 46) dX11_scrub_33 (by decide) ⟨by omega, by omega⟩ ⟨by omega, by omega⟩ (fun c_33 => ?_) (fun c_33 => ?_)
        · refine e_iinc (ls2 := [_, _, _]) dX11_scrub_46 rfl (Nat.le_of_ble_eq_true rfl) rfl ?_
          refine e_goto (tgt := 9) dX11_scrub_49 (by decide) ?_
          exact ih (k + 1) _ _ _ (by omega) (by simp only [srF, ← h2, ← h3]; split <;> first | rfl | (exfalso; omega)) (by omega) (by omega) (by first | exact hS | exact WR.up hS ⟨(show (0 : Int) ≤ 0 by decide), (show (0 : Int) ≤ 1 by decide)⟩)
        · refine e_aload_n dX11_scrub_36 rfl ?_
          refine m_getR (kt := (20, 20000, 32)) (by decide) dX11_scrub_37 f_X11_86 hT rfl (Nat.succ_ne_zero _) (fun q_37 h_37 => ?_)
          refine e_iload_n dX11_scrub_40 rfl ?_
          refine e_iconst dX11_scrub_41 ?_
          refine m_iast (by decide) dX11_scrub_42 h_37 (by omega) (by omega) ⟨by omega, by omega⟩ ?_
          refine e_iinc (ls2 := [_, _, _]) dX11_scrub_43 rfl (Nat.le_of_ble_eq_true rfl) rfl ?_
          refine e_iinc (ls2 := [_, _, _]) dX11_scrub_46 rfl (Nat.le_of_ble_eq_true rfl) rfl ?_
          refine e_goto (tgt := 9) dX11_scrub_49 (by decide) ?_
          exact ih (k + 1) _ _ _ (by omega) (by simp only [srF, ← h2, ← h3]; split <;> first | rfl | (exfalso; omega)) (by omega) (by omega) (by first | exact hS | exact WR.up hS ⟨(show (0 : Int) ≤ 0 by decide), (show (0 : Int) ≤ 1 by decide)⟩)
set_option maxRecDepth 20000 in
set_option maxHeartbeats 4000000 in
theorem m_scrub {K : q_K} {M C : q_S} {a : Nat} (hT : K a = (12, 0, 50)) (hW : WR M)  : q_E mX11_scrub 0 [some (q_R a), none, none] [] K M C 0 0 (e_is (some (q_I (scrubF M).1)) K (scrubF M).2 C) := by
  refine e_aload_n dX11_scrub_0 rfl ?_
  refine e_iconst dX11_scrub_1 ?_
  refine m_putI (by decide) dX11_scrub_2 f_X11_101 rfl hT ⟨by omega, by omega⟩ ?_
  refine e_iconst dX11_scrub_5 ?_
  refine e_istore_n (ls2 := [_, _, _]) dX11_scrub_6 (Nat.le_of_ble_eq_true rfl) rfl ?_
  refine e_iconst dX11_scrub_7 ?_
  refine e_istore_n (ls2 := [_, _, _]) dX11_scrub_8 (Nat.le_of_ble_eq_true rfl) rfl ?_
  exact m_scrub_l hT hW 20000 0 0 0 _ (by omega) rfl rfl ⟨by decide, by decide⟩ (WR.up hW ⟨by decide, by decide⟩)
set_option maxRecDepth 20000 in
set_option maxHeartbeats 4000000 in
theorem m_isWhole_l {K : q_K} {M C : q_S} {a : Nat} (hT : K a = (12, 0, 50)) (hW : WR M) {c : Int} (hc : 0 ≤ c ∧ c ≤ 9999999999999) : ∀ (r k : Nat) (n s i : Int) (S : q_S), (k + r = (ncut c).toNat) → (s = whI M c k) → (i = k) → (S = cutS M c) → (WR S) → (n = ncut c) → (s = 0 ∨ s = 1) → q_E mX11_isWhole 12 [some (q_R a), some (q_L c), none, some (q_I n), some (q_I s), some (q_I i)] [] K S C 0 0 (e_is (some (q_I (isWholeF M c).1)) K (isWholeF M c).2 C) := by
  have gn := ncut_rg c
  have gl := mlen_12 hc
  intro r
  induction r with
  | zero =>
    intro k n s i S h1 h2 h3 h4 hS h6 h7
    refine e_iload dX11_isWhole_12 rfl ?_
    refine e_iload_n dX11_isWhole_14 rfl ?_
    refine e_icmp_ge (tgt := 66) dX11_isWhole_15 (by decide) ⟨by omega, by omega⟩ ⟨by omega, by omega⟩ (fun c_15 => ?_) (fun c_15 => ?_)
    · refine e_iload dX11_isWhole_66 rfl ?_
      exact e_iret dX11_isWhole_68 (Or.inr ⟨rfl, h7⟩) (e_ok (by unfold isWholeF; rw [h2, show k = (ncut c).toNat by omega]) (by unfold isWholeF; exact h4) rfl)
    · exfalso; omega
  | succ r ih =>
    intro k n s i S h1 h2 h3 h4 hS h6 h7
    refine e_iload dX11_isWhole_12 rfl ?_
    refine e_iload_n dX11_isWhole_14 rfl ?_
    refine e_icmp_ge (tgt := 66) dX11_isWhole_15 (by decide) ⟨by omega, by omega⟩ ⟨by omega, by omega⟩ (fun c_15 => ?_) (fun c_15 => ?_)
    · exfalso; omega
    · have e40 : S 40 i = pce c k := by rw [h4, h3]; exact cutS_40 (by omega) (by omega)
      have e31 : ∀ j, S 31 j = M 31 j := by intro j; rw [h4]; exact cutS_o (by decide)
      have e32 : ∀ j, S 32 j = M 32 j := by intro j; rw [h4]; exact cutS_o (by decide)
      have g40 : 0 ≤ S 40 i ∧ S 40 i ≤ 19999 := hS 40 i
      refine e_iload dX11_isWhole_18 rfl ?_
      refine e_if_eq (tgt := 57) dX11_isWhole_20 (by decide) ⟨by omega, by omega⟩ (fun c_20 => ?_) (fun c_20 => ?_)
      · refine e_iconst dX11_isWhole_57 ?_
        refine e_istore (ls2 := [_, _, _, _, _, _]) dX11_isWhole_58 (Nat.le_of_ble_eq_true rfl) rfl ?_
        refine e_iinc (ls2 := [_, _, _, _, _, _]) dX11_isWhole_60 rfl (Nat.le_of_ble_eq_true rfl) rfl ?_
        refine e_goto (tgt := 12) dX11_isWhole_63 (by decide) ?_
        exact ih (k + 1) _ _ _ _ (by omega) (by simp only [whI, ← h2, ← e31, ← e32, ← e40]; split <;> first | rfl | (exfalso; omega)) (by omega) h4 hS h6 (by omega)
      · refine e_aload_n dX11_isWhole_23 rfl ?_
        refine m_getR (kt := (20, 20000, 31)) (by decide) dX11_isWhole_24 f_X11_83 hT rfl (Nat.succ_ne_zero _) (fun q_24 h_24 => ?_)
        refine e_aload_n dX11_isWhole_27 rfl ?_
        refine m_getR (kt := (20, 12, 40)) (by decide) dX11_isWhole_28 f_X11_95 hT rfl (Nat.succ_ne_zero _) (fun q_28 h_28 => ?_)
        refine e_iload dX11_isWhole_31 rfl ?_
        refine m_iaw (by decide) (rg_40 hS) dX11_isWhole_33 h_28 (by omega) (by omega) (fun g_33 => ?_)
        refine m_iaw (by decide) (rg_31 hS) dX11_isWhole_34 h_24 (by omega) (by omega) (fun g_34 => ?_)
        refine e_if_le (tgt := 57) dX11_isWhole_35 (by decide) ⟨by omega, by omega⟩ (fun c_35 => ?_) (fun c_35 => ?_)
        · refine e_iconst dX11_isWhole_57 ?_
          refine e_istore (ls2 := [_, _, _, _, _, _]) dX11_isWhole_58 (Nat.le_of_ble_eq_true rfl) rfl ?_
          refine e_iinc (ls2 := [_, _, _, _, _, _]) dX11_isWhole_60 rfl (Nat.le_of_ble_eq_true rfl) rfl ?_
          refine e_goto (tgt := 12) dX11_isWhole_63 (by decide) ?_
          exact ih (k + 1) _ _ _ _ (by omega) (by simp only [whI, ← h2, ← e31, ← e32, ← e40]; split <;> first | rfl | (exfalso; omega)) (by omega) h4 hS h6 (by omega)
        · refine e_aload_n dX11_isWhole_38 rfl ?_
          refine m_getR (kt := (20, 20000, 32)) (by decide) dX11_isWhole_39 f_X11_86 hT rfl (Nat.succ_ne_zero _) (fun q_39 h_39 => ?_)
          refine e_aload_n dX11_isWhole_42 rfl ?_
          refine m_getR (kt := (20, 12, 40)) (by decide) dX11_isWhole_43 f_X11_95 hT rfl (Nat.succ_ne_zero _) (fun q_43 h_43 => ?_)
          refine e_iload dX11_isWhole_46 rfl ?_
          refine m_iaw (by decide) (rg_40 hS) dX11_isWhole_48 h_43 (by omega) (by omega) (fun g_48 => ?_)
          refine m_iaw (by decide) (rg_32 hS) dX11_isWhole_49 h_39 (by omega) (by omega) (fun g_49 => ?_)
          refine e_if_ne (tgt := 57) dX11_isWhole_50 (by decide) ⟨by omega, by omega⟩ (fun c_50 => ?_) (fun c_50 => ?_)
          · refine e_iconst dX11_isWhole_57 ?_
            refine e_istore (ls2 := [_, _, _, _, _, _]) dX11_isWhole_58 (Nat.le_of_ble_eq_true rfl) rfl ?_
            refine e_iinc (ls2 := [_, _, _, _, _, _]) dX11_isWhole_60 rfl (Nat.le_of_ble_eq_true rfl) rfl ?_
            refine e_goto (tgt := 12) dX11_isWhole_63 (by decide) ?_
            exact ih (k + 1) _ _ _ _ (by omega) (by simp only [whI, ← h2, ← e31, ← e32, ← e40]; split <;> first | rfl | (exfalso; omega)) (by omega) h4 hS h6 (by omega)
          · refine e_iconst dX11_isWhole_53 ?_
            refine e_goto (tgt := 58) dX11_isWhole_54 (by decide) ?_
            refine e_istore (ls2 := [_, _, _, _, _, _]) dX11_isWhole_58 (Nat.le_of_ble_eq_true rfl) rfl ?_
            refine e_iinc (ls2 := [_, _, _, _, _, _]) dX11_isWhole_60 rfl (Nat.le_of_ble_eq_true rfl) rfl ?_
            refine e_goto (tgt := 12) dX11_isWhole_63 (by decide) ?_
            exact ih (k + 1) _ _ _ _ (by omega) (by simp only [whI, ← h2, ← e31, ← e32, ← e40]; split <;> first | rfl | (exfalso; omega)) (by omega) h4 hS h6 (by omega)
set_option maxRecDepth 20000 in
set_option maxHeartbeats 4000000 in
theorem m_isWhole {K : q_K} {M C : q_S} {a : Nat} (hT : K a = (12, 0, 50)) (hW : WR M) {c : Int} (hc : 0 ≤ c ∧ c ≤ 9999999999999) : q_E mX11_isWhole 0 [some (q_R a), some (q_L c), none, none, none, none] [] K M C 0 0 (e_is (some (q_I (isWholeF M c).1)) K (isWholeF M c).2 C) := by
  have gn := ncut_rg c
  refine e_aload_n dX11_isWhole_0 rfl ?_
  refine e_lload_n dX11_isWhole_1 rfl ?_
  refine e_cV (as := [_]) (ci := 11) dX11_isWhole_2 k_X11_cuts l_X11_202 i_X11_cuts v_X11_cuts hT rfl (by decide) ⟨_, _, rfl⟩ rfl rfl rfl rfl (Nat.le_of_ble_eq_true rfl) ⟨by decide, by decide⟩ (Nat.le_of_ble_eq_true rfl) (by decide) (m_cuts hT hW hc) ?_
  refine e_istore_n (ls2 := [_, _, _, _, _, _]) dX11_isWhole_5 (Nat.le_of_ble_eq_true rfl) rfl ?_
  refine e_iconst dX11_isWhole_6 ?_
  refine e_istore (ls2 := [_, _, _, _, _, _]) dX11_isWhole_7 (Nat.le_of_ble_eq_true rfl) rfl ?_
  refine e_iconst dX11_isWhole_9 ?_
  refine e_istore (ls2 := [_, _, _, _, _, _]) dX11_isWhole_10 (Nat.le_of_ble_eq_true rfl) rfl ?_
  exact m_isWhole_l hT hW hc (ncut c).toNat 0 _ _ _ _ (by omega) rfl rfl rfl (wr_cutS hW c) rfl (Or.inr rfl)
set_option maxRecDepth 20000 in
set_option maxHeartbeats 4000000 in
theorem m_marks_l {K : q_K} {M C : q_S} {a : Nat} (hT : K a = (12, 0, 50)) (hW : WR M) {c : Int} (hc : 0 ≤ c ∧ c ≤ 9999999999999) : ∀ (r k : Nat) (n i : Int) (S : q_S), (k + r = (ncut c).toNat) → (i = k) → (S = mkF (cutS M c) c k) → (WR S) → (n = ncut c) → q_E mX11_marks 9 [some (q_R a), some (q_L c), none, some (q_I n), some (q_I i)] [] K S C 0 0 (e_is none K (marksF M c) C) := by
  have gn := ncut_rg c
  have gl := mlen_12 hc
  intro r
  induction r with
  | zero =>
    intro k n i S h1 h3 h4 hS h6
    refine e_iload dX11_marks_9 rfl ?_
    refine e_iload_n dX11_marks_11 rfl ?_
    refine e_icmp_ge (tgt := 34) dX11_marks_12 (by decide) ⟨by omega, by omega⟩ ⟨by omega, by omega⟩ (fun c_12 => ?_) (fun c_12 => ?_)
    · exact e_ret dX11_marks_34 rfl (e_ok rfl (by unfold marksF; rw [h4, show k = (ncut c).toNat by omega]) rfl)
    · exfalso; omega
  | succ r ih =>
    intro k n i S h1 h3 h4 hS h6
    refine e_iload dX11_marks_9 rfl ?_
    refine e_iload_n dX11_marks_11 rfl ?_
    refine e_icmp_ge (tgt := 34) dX11_marks_12 (by decide) ⟨by omega, by omega⟩ ⟨by omega, by omega⟩ (fun c_12 => ?_) (fun c_12 => ?_)
    · exfalso; omega
    · have e40 : S 40 i = pce c k := by rw [h4, mkF_o (by decide), h3]; exact cutS_40 (by omega) (by omega)
      have g40 : 0 ≤ S 40 i ∧ S 40 i ≤ 19999 := hS 40 i
      refine e_aload_n dX11_marks_15 rfl ?_
      refine m_getR (kt := (20, 20000, 42)) (by decide) dX11_marks_16 f_X11_98 hT rfl (Nat.succ_ne_zero _) (fun q_16 h_16 => ?_)
      refine e_aload_n dX11_marks_19 rfl ?_
      refine m_getR (kt := (20, 12, 40)) (by decide) dX11_marks_20 f_X11_95 hT rfl (Nat.succ_ne_zero _) (fun q_20 h_20 => ?_)
      refine e_iload dX11_marks_23 rfl ?_
      refine m_iaw (by decide) (rg_40 hS) dX11_marks_25 h_20 (by omega) (by omega) (fun g_25 => ?_)
      refine e_iconst dX11_marks_26 ?_
      refine m_iast (by decide) dX11_marks_27 h_16 (by omega) (by omega) ⟨by omega, by omega⟩ ?_
      refine e_iinc (ls2 := [_, _, _, _, _]) dX11_marks_28 rfl (Nat.le_of_ble_eq_true rfl) rfl ?_
      refine e_goto (tgt := 9) dX11_marks_31 (by decide) ?_
      exact ih (k + 1) _ _ _ (by omega) (by omega) (by simp only [mkF, ← h4, ← e40]) (WR.up hS ⟨(show (0 : Int) ≤ 1 by decide), (show (1 : Int) ≤ 1 by decide)⟩) h6
set_option maxRecDepth 20000 in
set_option maxHeartbeats 4000000 in
theorem m_marks {K : q_K} {M C : q_S} {a : Nat} (hT : K a = (12, 0, 50)) (hW : WR M) {c : Int} (hc : 0 ≤ c ∧ c ≤ 9999999999999) : q_E mX11_marks 0 [some (q_R a), some (q_L c), none, none, none] [] K M C 0 0 (e_is none K (marksF M c) C) := by
  have gn := ncut_rg c
  refine e_aload_n dX11_marks_0 rfl ?_
  refine e_lload_n dX11_marks_1 rfl ?_
  refine e_cV (as := [_]) (ci := 11) dX11_marks_2 k_X11_cuts l_X11_202 i_X11_cuts v_X11_cuts hT rfl (by decide) ⟨_, _, rfl⟩ rfl rfl rfl rfl (Nat.le_of_ble_eq_true rfl) ⟨by decide, by decide⟩ (Nat.le_of_ble_eq_true rfl) (by decide) (m_cuts hT hW hc) ?_
  refine e_istore_n (ls2 := [_, _, _, _, _]) dX11_marks_5 (Nat.le_of_ble_eq_true rfl) rfl ?_
  refine e_iconst dX11_marks_6 ?_
  refine e_istore (ls2 := [_, _, _, _, _]) dX11_marks_7 (Nat.le_of_ble_eq_true rfl) rfl ?_
  exact m_marks_l hT hW hc (ncut c).toNat 0 _ _ _ (by omega) rfl rfl (wr_cutS hW c) rfl
set_option maxRecDepth 20000 in
set_option maxHeartbeats 4000000 in
theorem m_sends_l {K : q_K} {M C : q_S} {a : Nat} (hT : K a = (12, 0, 50)) (hW : WR M) (hP : PMI M) {c : Int} (hc : 0 ≤ c ∧ c ≤ 9999999999999) {p : Int} (hp : 0 ≤ p ∧ p ≤ 100) (hC : CT (sendsF M c p).2) : ∀ (r k : Nat) (n l i : Int) (S : q_S), (k + r = (ncut c).toNat) → ((l, S) = seF (cutS M c) p c k) → (i = k) → (0 ≤ l ∧ l ≤ 100) → (WR S) → (n = ncut c) → q_E mX11_sends 13 [some (q_R a), none, none, none, some (q_I n), some (q_I l), some (q_I i)] [] K S C 0 0 (e_is (some (q_I (sendsF M c p).1)) K (sendsF M c p).2 C) := by
  have gn := ncut_rg c
  have gl := mlen_12 hc
  intro r
  induction r with
  | zero =>
    intro k n l i S h1 h2 h3 h4 hS h6
    refine e_iload dX11_sends_13 rfl ?_
    refine e_iload dX11_sends_15 rfl ?_
    refine e_icmp_ge (tgt := 62) dX11_sends_17 (by decide) ⟨by omega, by omega⟩ ⟨by omega, by omega⟩ (fun c_17 => ?_) (fun c_17 => ?_)
    · refine e_iload dX11_sends_62 rfl ?_
      exact e_iret dX11_sends_64 (Or.inl rfl) (e_ok (by unfold sendsF; rw [show (ncut c).toNat = k by omega, ← h2]) (by unfold sendsF; rw [show (ncut c).toNat = k by omega, ← h2]) rfl)
    · exfalso; omega
  | succ r ih =>
    intro k n l i S h1 h2 h3 h4 hS h6
    refine e_iload dX11_sends_13 rfl ?_
    refine e_iload dX11_sends_15 rfl ?_
    refine e_icmp_ge (tgt := 62) dX11_sends_17 (by decide) ⟨by omega, by omega⟩ ⟨by omega, by omega⟩ (fun c_17 => ?_) (fun c_17 => ?_)
    · exfalso; omega
    · have g40 : 0 ≤ S 40 i ∧ S 40 i ≤ 19999 := hS 40 i
      have e40 : S 40 i = pce c k := by
        have e9 := seF_40 (cutS M c) p c i k
        rw [← h2] at e9
        simp only [] at e9
        rw [e9, h3]; exact cutS_40 (by omega) (by omega)
      have es := seF_le2 (cutS M c) p c (k + 1) ((ncut c).toNat - (k + 1))
      rw [show k + 1 + ((ncut c).toNat - (k + 1)) = (ncut c).toNat by omega] at es
      have ec := es.ct hC
      have ek : seF (cutS M c) p c (k + 1) = if l = -1 then (l, S) else if ¬ S 31 (S 40 i) = 0 then (l, S) else if l = 0 then (-1, S) else (l - 1, comesF S (S 40 i)) := by
        simp only [seF, ← h2, ← e40]
      have eo := seF_ok (wr_cutS hW c) (hP.cutS c) p c (k + 1) ec
      have g31 : 0 ≤ S 31 (S 40 i) ∧ S 31 (S 40 i) ≤ 1500 := hS 31 _
      refine e_aload_n dX11_sends_20 rfl ?_
      refine m_getR (kt := (20, 20000, 31)) (by decide) dX11_sends_21 f_X11_83 hT rfl (Nat.succ_ne_zero _) (fun q_21 h_21 => ?_)
      refine e_aload_n dX11_sends_24 rfl ?_
      refine m_getR (kt := (20, 12, 40)) (by decide) dX11_sends_25 f_X11_95 hT rfl (Nat.succ_ne_zero _) (fun q_25 h_25 => ?_)
      refine e_iload dX11_sends_28 rfl ?_
      refine m_iaw (by decide) (rg_40 hS) dX11_sends_30 h_25 (by omega) (by omega) (fun g_30 => ?_)
      refine m_iaw (by decide) (rg_31 hS) dX11_sends_31 h_21 (by omega) (by omega) (fun g_31 => ?_)
      refine e_if_ne (tgt := 56) dX11_sends_32 (by decide) ⟨by omega, by omega⟩ (fun c_32 => ?_) (fun c_32 => ?_)
      · refine e_iinc (ls2 := [_, _, _, _, _, _, _]) dX11_sends_56 rfl (Nat.le_of_ble_eq_true rfl) rfl ?_
        refine e_goto (tgt := 13) dX11_sends_59 (by decide) ?_
        exact ih (k + 1) _ _ _ _ (by omega) (by rw [ek]; split <;> first | rfl | (exfalso; omega) | (split <;> first | rfl | (exfalso; omega) | (split <;> first | rfl | (exfalso; omega)))) (by omega) (by omega) (by first | exact hS | (rw [ek, if_neg (by omega), if_neg (by omega), if_neg (by omega)] at eo; exact eo.1)) h6
      · refine e_iload dX11_sends_35 rfl ?_
        refine e_if_ne (tgt := 42) dX11_sends_37 (by decide) ⟨by omega, by omega⟩ (fun c_37 => ?_) (fun c_37 => ?_)
        · have hpk : pkF S ≤ 1500 := by
            rw [ek, if_neg (by omega), if_neg (by omega), if_neg (by omega)] at ec
            have := (LE.comes S (S 40 i)).2.2
            have := ec.1
            simp only [] at this
            omega
          refine e_aload_n dX11_sends_42 rfl ?_
          refine e_aload_n dX11_sends_43 rfl ?_
          refine m_getR (kt := (20, 12, 40)) (by decide) dX11_sends_44 f_X11_95 hT rfl (Nat.succ_ne_zero _) (fun q_44 h_44 => ?_)
          refine e_iload dX11_sends_47 rfl ?_
          refine m_iaw (by decide) (rg_40 hS) dX11_sends_49 h_44 (by omega) (by omega) (fun g_49 => ?_)
          refine e_cV (as := [_]) (ci := 11) dX11_sends_50 k_X11_comesToHouse l_X11_205 i_X11_comesToHouse v_X11_comesToHouse hT rfl (by decide) ⟨_, _, rfl⟩ rfl rfl rfl rfl (Nat.le_of_ble_eq_true rfl) ⟨by decide, by decide⟩ (Nat.le_of_ble_eq_true rfl) (by decide) (m_comesToHouse hT hS ⟨by omega, by omega⟩ hpk) ?_
          refine e_iinc (ls2 := [_, _, _, _, _, _, _]) dX11_sends_53 rfl (Nat.le_of_ble_eq_true rfl) rfl ?_
          refine e_iinc (ls2 := [_, _, _, _, _, _, _]) dX11_sends_56 rfl (Nat.le_of_ble_eq_true rfl) rfl ?_
          refine e_goto (tgt := 13) dX11_sends_59 (by decide) ?_
          exact ih (k + 1) _ _ _ _ (by omega) (by rw [ek]; split <;> first | rfl | (exfalso; omega) | (split <;> first | rfl | (exfalso; omega) | (split <;> first | rfl | (exfalso; omega)))) (by omega) (by omega) (by first | exact hS | (rw [ek, if_neg (by omega), if_neg (by omega), if_neg (by omega)] at eo; exact eo.1)) h6
        · refine e_iconst dX11_sends_40 ?_
          refine e_iret dX11_sends_41 (Or.inl rfl) ?_
          have es := seF_stop (S := cutS M c) (p := p) (c := c) (k := k + 1) (by rw [ek, if_neg (by omega), if_neg (by omega), if_pos (by omega)]) ((ncut c).toNat - (k + 1))
          rw [show k + 1 + ((ncut c).toNat - (k + 1)) = (ncut c).toNat by omega, ek, if_neg (by omega), if_neg (by omega), if_pos (by omega)] at es
          exact e_ok (by unfold sendsF; rw [es]) (by unfold sendsF; rw [es]) rfl
set_option maxRecDepth 20000 in
set_option maxHeartbeats 4000000 in
theorem m_sends {K : q_K} {M C : q_S} {a : Nat} (hT : K a = (12, 0, 50)) (hW : WR M) (hP : PMI M) {c : Int} (hc : 0 ≤ c ∧ c ≤ 9999999999999) {p : Int} (hp : 0 ≤ p ∧ p ≤ 100) (hC : CT (sendsF M c p).2) : q_E mX11_sends 0 [some (q_R a), some (q_L c), none, some (q_I p), none, none, none] [] K M C 0 0 (e_is (some (q_I (sendsF M c p).1)) K (sendsF M c p).2 C) := by
  have gn := ncut_rg c
  refine e_aload_n dX11_sends_0 rfl ?_
  refine e_lload_n dX11_sends_1 rfl ?_
  refine e_cV (as := [_]) (ci := 11) dX11_sends_2 k_X11_cuts l_X11_202 i_X11_cuts v_X11_cuts hT rfl (by decide) ⟨_, _, rfl⟩ rfl rfl rfl rfl (Nat.le_of_ble_eq_true rfl) ⟨by decide, by decide⟩ (Nat.le_of_ble_eq_true rfl) (by decide) (m_cuts hT hW hc) ?_
  refine e_istore (ls2 := [_, _, _, _, _, _, _]) dX11_sends_5 (Nat.le_of_ble_eq_true rfl) rfl ?_
  refine e_iload_n dX11_sends_7 rfl ?_
  refine e_istore (ls2 := [_, _, _, _, _, _, _]) dX11_sends_8 (Nat.le_of_ble_eq_true rfl) rfl ?_
  refine e_iconst dX11_sends_10 ?_
  refine e_istore (ls2 := [_, _, _, _, _, _, _]) dX11_sends_11 (Nat.le_of_ble_eq_true rfl) rfl ?_
  refine e_drop (k := 1) (ls2 := [_, _, _, _, _, _, _]) rfl ?_
  refine e_drop (k := 3) (ls2 := [_, _, _, _, _, _, _]) rfl ?_
  exact m_sends_l hT hW hP hc hp hC (ncut c).toNat 0 _ _ _ _ (by omega) rfl rfl hp (wr_cutS hW c) rfl
