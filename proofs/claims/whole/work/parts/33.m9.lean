theorem makesF_o {M : q_S} {f m c d t j : Int} (h : t < 17) : makesF M f m c d t j = M t j := by
  unfold makesF
  simp only [q_us_ap]
  repeat rw [if_neg (by omega)]
theorem makesF_3 {M : q_S} {f m c d j : Int} : makesF M f m c d 3 j = M 3 j := makesF_o (by decide)
theorem makesF_4 {M : q_S} {f m c d j : Int} : makesF M f m c d 4 j = M 4 j := makesF_o (by decide)
theorem cflF_2 {M : q_S} {p l j : Int} : cflF M p l 2 j = M 2 j := rfl
theorem cflF_3 {M : q_S} {p l j : Int} : cflF M p l 3 j = M 3 j := rfl
theorem cflF_4 {M : q_S} {p l j : Int} : cflF M p l 4 j = M 4 j := rfl
theorem cflF_5 {M : q_S} {p l j : Int} : cflF M p l 5 j = M 5 j := rfl
theorem cflF_16 {M : q_S} {p l : Int} : cflF M p l 50 16 = M 50 16 := rfl
theorem frV_01 (M : q_S) (f : Int) : ∀ n, frV M f n = 0 ∨ frV M f n = 1 := by
  intro n
  cases n with
  | zero => exact Or.inr rfl
  | succ n => simp only [frV]; split <;> simp
theorem frM_01 (M : q_S) (f : Int) {b : Int} (hb : b = 0 ∨ b = 1) : ∀ n, frM M f b n = 0 ∨ frM M f b n = 1 := by
  intro n
  cases n with
  | zero => exact hb
  | succ n => simp only [frM]; split <;> simp
set_option maxRecDepth 20000 in
set_option maxHeartbeats 4000000 in
theorem m_free_b {K : q_K} {M C : q_S} {a : Nat} (hT : K a = (12, 0, 50)) (hW : WR M) {Q : q_Q2} {f b : Int} (hf : 0 ≤ f ∧ f ≤ 15) (hb : b = 0 ∨ b = 1) (H : q_E mX11_free 93 [some (q_R a), some (q_I f), some (q_I (frM M f b 3)), none] [] K M C 0 0 (Q)) : ∀ (r k : Nat) (s i : Int), (k + r = 3) → (s = frM M f b k) → (i = k) → (s = 0 ∨ s = 1) → q_E mX11_free 58 [some (q_R a), some (q_I f), some (q_I s), some (q_I i)] [] K M C 0 0 (Q) := by
  intro r
  induction r with
  | zero =>
    intro k s i h1 h2 h3 h4
    refine e_iload_n dX11_free_58 rfl ?_
    refine e_iconst dX11_free_59 ?_
    refine e_icmp_ge (tgt := 93) dX11_free_60 (by decide) ⟨by omega, by omega⟩ ⟨by omega, by omega⟩ (fun c_60 => ?_) (fun c_60 => ?_)
    · refine e_drop (k := 3) (ls2 := [_, _, _, _]) rfl ?_
      have e9 : k = 3 := by omega
      subst e9
      rw [h2]
      exact H
    · exfalso; omega
  | succ r ih =>
    intro k s i h1 h2 h3 h4
    refine e_iload_n dX11_free_58 rfl ?_
    refine e_iconst dX11_free_59 ?_
    refine e_icmp_ge (tgt := 93) dX11_free_60 (by decide) ⟨by omega, by omega⟩ ⟨by omega, by omega⟩ (fun c_60 => ?_) (fun c_60 => ?_)
    · exfalso; omega
    · refine e_iload_n dX11_free_63 rfl ?_
      refine e_if_eq (tgt := 85) dX11_free_64 (by decide) ⟨by omega, by omega⟩ (fun c_64 => ?_) (fun c_64 => ?_)
      · refine e_iconst dX11_free_85 ?_
        refine e_istore_n (ls2 := [_, _, _, _]) dX11_free_86 (Nat.le_of_ble_eq_true rfl) rfl ?_
        refine e_iinc (ls2 := [_, _, _, _]) dX11_free_87 rfl (Nat.le_of_ble_eq_true rfl) rfl ?_
        refine e_goto (tgt := 58) dX11_free_90 (by decide) ?_
        exact ih (k + 1) _ _ (by omega) (by simp only [frM, ← h2, ← h3]; split <;> first | rfl | (exfalso; omega)) (by omega) (by omega)
      · refine e_aload_n dX11_free_67 rfl ?_
        refine m_getR (kt := (20, 48, 2)) (by decide) dX11_free_68 f_X11_7 hT rfl (Nat.succ_ne_zero _) (fun q_68 h_68 => ?_)
        refine e_bipush dX11_free_71 (by decide) ?_
        refine e_iload_n dX11_free_73 rfl ?_
        refine e_imul dX11_free_74 ?_
        refine e_iload_n dX11_free_75 rfl ?_
        refine e_iadd dX11_free_76 ?_
        refine m_iaw (by decide) (rg_2 hW) dX11_free_77 h_68 (by omega) (by omega) (fun g_77 => ?_)
        refine e_if_ne (tgt := 85) dX11_free_78 (by decide) ⟨by omega, by omega⟩ (fun c_78 => ?_) (fun c_78 => ?_)
        · refine e_iconst dX11_free_85 ?_
          refine e_istore_n (ls2 := [_, _, _, _]) dX11_free_86 (Nat.le_of_ble_eq_true rfl) rfl ?_
          refine e_iinc (ls2 := [_, _, _, _]) dX11_free_87 rfl (Nat.le_of_ble_eq_true rfl) rfl ?_
          refine e_goto (tgt := 58) dX11_free_90 (by decide) ?_
          exact ih (k + 1) _ _ (by omega) (by simp only [frM, ← h2, ← h3]; split <;> first | rfl | (exfalso; omega)) (by omega) (by omega)
        · refine e_iconst dX11_free_81 ?_
          refine e_goto (tgt := 86) dX11_free_82 (by decide) ?_
          refine e_istore_n (ls2 := [_, _, _, _]) dX11_free_86 (Nat.le_of_ble_eq_true rfl) rfl ?_
          refine e_iinc (ls2 := [_, _, _, _]) dX11_free_87 rfl (Nat.le_of_ble_eq_true rfl) rfl ?_
          refine e_goto (tgt := 58) dX11_free_90 (by decide) ?_
          exact ih (k + 1) _ _ (by omega) (by simp only [frM, ← h2, ← h3]; split <;> first | rfl | (exfalso; omega)) (by omega) (by omega)
set_option maxRecDepth 20000 in
set_option maxHeartbeats 4000000 in
theorem m_free_a {K : q_K} {M C : q_S} {a : Nat} (hT : K a = (12, 0, 50)) (hW : WR M) {Q : q_Q2} {f : Int} (hf : 0 ≤ f ∧ f ≤ 15) (H : q_E mX11_free 56 [some (q_R a), some (q_I f), some (q_I (frV M f (M 50 16).toNat)), none] [] K M C 0 0 (Q)) : ∀ (r k : Nat) (s i : Int), (k + r = (M 50 16).toNat) → (s = frV M f k) → (i = k) → (s = 0 ∨ s = 1) → q_E mX11_free 12 [some (q_R a), some (q_I f), some (q_I s), some (q_I i)] [] K M C 0 0 (Q) := by
  intro r
  induction r with
  | zero =>
    intro k s i h1 h2 h3 h4
    refine e_iload_n dX11_free_12 rfl ?_
    refine e_aload_n dX11_free_13 rfl ?_
    refine m_getI (by decide) dX11_free_14 f_X11_155 (Or.inl rfl) hT ?_
    have g_14 := rs_16 hW
    refine e_icmp_ge (tgt := 56) dX11_free_17 (by decide) ⟨by omega, by omega⟩ ⟨by omega, by omega⟩ (fun c_17 => ?_) (fun c_17 => ?_)
    · refine e_drop (k := 3) (ls2 := [_, _, _, _]) rfl ?_
      rw [h2, show k = (M 50 16).toNat by omega]
      exact H
    · exfalso; omega
  | succ r ih =>
    intro k s i h1 h2 h3 h4
    refine e_iload_n dX11_free_12 rfl ?_
    refine e_aload_n dX11_free_13 rfl ?_
    refine m_getI (by decide) dX11_free_14 f_X11_155 (Or.inl rfl) hT ?_
    have g_14 := rs_16 hW
    refine e_icmp_ge (tgt := 56) dX11_free_17 (by decide) ⟨by omega, by omega⟩ ⟨by omega, by omega⟩ (fun c_17 => ?_) (fun c_17 => ?_)
    · exfalso; omega
    · refine e_iload_n dX11_free_20 rfl ?_
      refine e_if_eq (tgt := 48) dX11_free_21 (by decide) ⟨by omega, by omega⟩ (fun c_21 => ?_) (fun c_21 => ?_)
      · refine e_iconst dX11_free_48 ?_
        refine e_istore_n (ls2 := [_, _, _, _]) dX11_free_49 (Nat.le_of_ble_eq_true rfl) rfl ?_
        refine e_iinc (ls2 := [_, _, _, _]) dX11_free_50 rfl (Nat.le_of_ble_eq_true rfl) rfl ?_
        refine e_goto (tgt := 12) dX11_free_53 (by decide) ?_
        exact ih (k + 1) _ _ (by omega) (by simp only [frV, ← h2, ← h3]; split <;> first | rfl | (exfalso; omega)) (by omega) (by omega)
      · refine e_aload_n dX11_free_24 rfl ?_
        refine m_getR (kt := (20, 120, 17)) (by decide) dX11_free_25 f_X11_44 hT rfl (Nat.succ_ne_zero _) (fun q_25 h_25 => ?_)
        refine e_iload_n dX11_free_28 rfl ?_
        refine m_iaw (by decide) (rg_17 hW) dX11_free_29 h_25 (by omega) (by omega) (fun g_29 => ?_)
        refine e_iload_n dX11_free_30 rfl ?_
        refine e_icmp_ne (tgt := 44) dX11_free_31 (by decide) ⟨by omega, by omega⟩ ⟨by omega, by omega⟩ (fun c_31 => ?_) (fun c_31 => ?_)
        · refine e_iconst dX11_free_44 ?_
          refine e_goto (tgt := 49) dX11_free_45 (by decide) ?_
          refine e_istore_n (ls2 := [_, _, _, _]) dX11_free_49 (Nat.le_of_ble_eq_true rfl) rfl ?_
          refine e_iinc (ls2 := [_, _, _, _]) dX11_free_50 rfl (Nat.le_of_ble_eq_true rfl) rfl ?_
          refine e_goto (tgt := 12) dX11_free_53 (by decide) ?_
          exact ih (k + 1) _ _ (by omega) (by simp only [frV, ← h2, ← h3]; split <;> first | rfl | (exfalso; omega)) (by omega) (by omega)
        · refine e_aload_n dX11_free_34 rfl ?_
          refine m_getR (kt := (20, 120, 22)) (by decide) dX11_free_35 f_X11_59 hT rfl (Nat.succ_ne_zero _) (fun q_35 h_35 => ?_)
          refine e_iload_n dX11_free_38 rfl ?_
          refine m_iaw (by decide) (rg_22 hW) dX11_free_39 h_35 (by omega) (by omega) (fun g_39 => ?_)
          refine e_iconst dX11_free_40 ?_
          refine e_icmp_ne (tgt := 48) dX11_free_41 (by decide) ⟨by omega, by omega⟩ ⟨by omega, by omega⟩ (fun c_41 => ?_) (fun c_41 => ?_)
          · refine e_iconst dX11_free_48 ?_
            refine e_istore_n (ls2 := [_, _, _, _]) dX11_free_49 (Nat.le_of_ble_eq_true rfl) rfl ?_
            refine e_iinc (ls2 := [_, _, _, _]) dX11_free_50 rfl (Nat.le_of_ble_eq_true rfl) rfl ?_
            refine e_goto (tgt := 12) dX11_free_53 (by decide) ?_
            exact ih (k + 1) _ _ (by omega) (by simp only [frV, ← h2, ← h3]; split <;> first | rfl | (exfalso; omega)) (by omega) (by omega)
          · refine e_iconst dX11_free_44 ?_
            refine e_goto (tgt := 49) dX11_free_45 (by decide) ?_
            refine e_istore_n (ls2 := [_, _, _, _]) dX11_free_49 (Nat.le_of_ble_eq_true rfl) rfl ?_
            refine e_iinc (ls2 := [_, _, _, _]) dX11_free_50 rfl (Nat.le_of_ble_eq_true rfl) rfl ?_
            refine e_goto (tgt := 12) dX11_free_53 (by decide) ?_
            exact ih (k + 1) _ _ (by omega) (by simp only [frV, ← h2, ← h3]; split <;> first | rfl | (exfalso; omega)) (by omega) (by omega)
set_option maxRecDepth 20000 in
set_option maxHeartbeats 4000000 in
theorem m_free_l {K : q_K} {M C : q_S} {a : Nat} (hT : K a = (12, 0, 50)) (hW : WR M) : ∀ (r k : Nat) (f : Int), (k + r = 16) → (f = k) → (freeF M = frF M r f) → q_E mX11_free 2 [some (q_R a), some (q_I f), none, none] [] K M C 0 0 (e_is (some (q_I (freeF M))) K M C) := by
  intro r
  induction r with
  | zero =>
    intro k f h1 h3 h5
    refine e_iload_n dX11_free_2 rfl ?_
    refine e_bipush dX11_free_3 (by decide) ?_
    refine e_icmp_ge (tgt := 105) dX11_free_5 (by decide) ⟨by omega, by omega⟩ ⟨by omega, by omega⟩ (fun c_5 => ?_) (fun c_5 => ?_)
    · refine e_iconst dX11_free_105 ?_
      exact e_iret dX11_free_106 (Or.inl rfl) (e_ok (by rw [h5]; rfl) rfl rfl)
    · exfalso; omega
  | succ r ih =>
    intro k f h1 h3 h5
    refine e_iload_n dX11_free_2 rfl ?_
    refine e_bipush dX11_free_3 (by decide) ?_
    refine e_icmp_ge (tgt := 105) dX11_free_5 (by decide) ⟨by omega, by omega⟩ ⟨by omega, by omega⟩ (fun c_5 => ?_) (fun c_5 => ?_)
    · exfalso; omega
    · refine e_iconst dX11_free_8 ?_
      refine e_istore_n (ls2 := [_, _, _, _]) dX11_free_9 (Nat.le_of_ble_eq_true rfl) rfl ?_
      refine e_iconst dX11_free_10 ?_
      refine e_istore_n (ls2 := [_, _, _, _]) dX11_free_11 (Nat.le_of_ble_eq_true rfl) rfl ?_
      refine m_free_a hT hW ⟨by omega, by omega⟩ ?_ (M 50 16).toNat 0 _ _ (by omega) rfl rfl (Or.inr rfl)
      refine e_iconst dX11_free_56 ?_
      refine e_istore_n (ls2 := [_, _, _, _]) dX11_free_57 (Nat.le_of_ble_eq_true rfl) rfl ?_
      refine m_free_b hT hW ⟨by omega, by omega⟩ (frV_01 M f _) ?_ 3 0 _ _ (by omega) rfl rfl (frV_01 M f _)
      show q_E mX11_free 93 [some (q_R a), some (q_I f), some (q_I (frI M f)), none] [] K M C 0 0 _
      have gI := frM_01 M f (frV_01 M f (M 50 16).toNat) 3
      refine e_iload_n dX11_free_93 rfl ?_
      refine e_if_eq (tgt := 99) dX11_free_94 (by decide) (by have := frM_01 M f (frV_01 M f (M 50 16).toNat) 3; unfold frI; constructor <;> omega) (fun c_94 => ?_) (fun c_94 => ?_)
      · refine e_iinc (ls2 := [_, _, _, _]) dX11_free_99 rfl (Nat.le_of_ble_eq_true rfl) rfl ?_
        refine e_goto (tgt := 2) dX11_free_102 (by decide) ?_
        refine e_drop (k := 2) (ls2 := [_, _, _, _]) rfl ?_
        exact ih (k + 1) _ (by omega) (by omega) (by rw [h5, frF, if_neg (by omega)])
      · refine e_iload_n dX11_free_97 rfl ?_
        exact e_iret dX11_free_98 (Or.inl rfl) (e_ok (by rw [h5, frF, if_pos (by omega)]) rfl rfl)
set_option maxRecDepth 20000 in
set_option maxHeartbeats 4000000 in
theorem m_free {K : q_K} {M C : q_S} {a : Nat} (hT : K a = (12, 0, 50)) (hW : WR M)  : q_E mX11_free 0 [some (q_R a), none, none, none] [] K M C 0 0 (e_is (some (q_I (freeF M))) K M C) := by
  refine e_iconst dX11_free_0 ?_
  refine e_istore_n (ls2 := [_, _, _, _]) dX11_free_1 (Nat.le_of_ble_eq_true rfl) rfl ?_
  exact m_free_l hT hW 16 0 0 (by omega) rfl rfl
set_option maxRecDepth 20000 in
set_option maxHeartbeats 4000000 in
theorem m_keepsBoth {K : q_K} {M C : q_S} {a : Nat} (hT : K a = (12, 0, 50)) (hW : WR M) {p lat : Int} (hp : 0 ≤ p ∧ p < 48) (hl : -1 ≤ lat ∧ lat < 120) (hC : CT (keepsF M p lat).2) : q_E mX11_keepsBoth 0 [some (q_R a), some (q_I p), some (q_I lat), none, none] [] K M C 0 0 (e_is (some (q_I (keepsF M p lat).1)) K (keepsF M p lat).2 C) := by
  have hg3 : 0 ≤ M 3 p ∧ M 3 p ≤ 9999999999999 := hW 3 p
  have hg4 : 0 ≤ M 4 p ∧ M 4 p ≤ 3 := hW 4 p
  have hg16 := rs_16 hW
  have hfr := freeF_rg M
  have hrr := rightF_rg hW (M 4 p) (p / 16)
  by_cases hk : kpF M p = -1
  · have ek : keepsF M p lat = (0, q_us M 50 38 (M 50 38 + 1)) := by unfold keepsF; rw [if_pos hk]
    have e38 := hC.2.2.1
    rw [ek] at e38
    simp only [q_us_ap, and_self, if_true] at e38
    have hk2 : ¬ (rightF M (M 4 p) (p / 16) = 2 ∧ ¬ freeF M = -1) := by intro h; unfold kpF at hk; rw [if_pos h.1] at hk; exact h.2 hk
    refine e_aload_n dX11_keepsBoth_0 rfl ?_
    refine e_aload_n dX11_keepsBoth_1 rfl ?_
    refine m_getR (kt := (20, 48, 4)) (by decide) dX11_keepsBoth_2 f_X11_17 hT rfl (Nat.succ_ne_zero _) (fun q_2 h_2 => ?_)
    refine e_iload_n dX11_keepsBoth_5 rfl ?_
    refine m_iaw (by decide) (rg_4 hW) dX11_keepsBoth_6 h_2 (by omega) (by omega) (fun g_6 => ?_)
    refine e_iload_n dX11_keepsBoth_7 rfl ?_
    refine e_bipush dX11_keepsBoth_8 (by decide) ?_
    refine e_idiv dX11_keepsBoth_10 ⟨by omega, by omega⟩ ⟨by omega, by omega⟩ ?_
    refine e_cV (as := [_, _]) (ci := 11) dX11_keepsBoth_11 k_X11_rightOf l_X11_165 i_X11_rightOf v_X11_rightOf hT rfl (by decide) ⟨_, _, rfl⟩ rfl rfl rfl rfl (Nat.le_of_ble_eq_true rfl) ⟨by decide, by decide⟩ (Nat.le_of_ble_eq_true rfl) (by decide) (m_rightOf hT hW ⟨by omega, by omega⟩ ⟨by omega, by omega⟩) ?_
    have g_11 := rightF_rg hW (M 4 p) (p / 16)
    refine e_iconst dX11_keepsBoth_14 ?_
    refine e_icmp_ne (tgt := 25) dX11_keepsBoth_15 (by decide) ⟨by omega, by omega⟩ ⟨by omega, by omega⟩ (fun c_15 => ?_) (fun c_15 => ?_)
    · refine e_iconst dX11_keepsBoth_25 ?_
      refine e_istore_n (ls2 := [_, _, _, _, _]) dX11_keepsBoth_26 (Nat.le_of_ble_eq_true rfl) rfl ?_
      refine e_iload_n dX11_keepsBoth_27 rfl ?_
      refine e_iconst dX11_keepsBoth_28 ?_
      refine e_icmp_ne (tgt := 44) dX11_keepsBoth_29 (by decide) ⟨by decide, by decide⟩ ⟨by decide, by decide⟩ (fun c_29 => ?_) (fun c_29 => ?_)
      · exact absurd c_29 (by decide)
      · refine e_aload_n dX11_keepsBoth_32 rfl ?_
        refine e_dup dX11_keepsBoth_33 rfl ?_
        refine m_getI (by decide) dX11_keepsBoth_34 f_X11_173 (Or.inl rfl) hT ?_
        have g_34 := rs_38 hW
        refine e_iconst dX11_keepsBoth_37 ?_
        refine e_iadd dX11_keepsBoth_38 ?_
        refine m_putI (by decide) dX11_keepsBoth_39 f_X11_173 rfl hT ⟨by omega, by omega⟩ ?_
        refine e_iconst dX11_keepsBoth_42 ?_
        exact e_iret dX11_keepsBoth_43 (Or.inr ⟨rfl, by omega⟩) (e_ok (by rw [ek]) (by rw [ek]) rfl)
    · refine e_aload_n dX11_keepsBoth_18 rfl ?_
      refine e_cV (as := []) (ci := 11) dX11_keepsBoth_19 k_X11_free l_X11_169 i_X11_free v_X11_free hT rfl (by decide) ⟨_, _, rfl⟩ rfl rfl rfl rfl (Nat.le_of_ble_eq_true rfl) ⟨by decide, by decide⟩ (Nat.le_of_ble_eq_true rfl) (by decide) (m_free hT hW) ?_
      refine e_goto (tgt := 26) dX11_keepsBoth_22 (by decide) ?_
      refine e_istore_n (ls2 := [_, _, _, _, _]) dX11_keepsBoth_26 (Nat.le_of_ble_eq_true rfl) rfl ?_
      refine e_iload_n dX11_keepsBoth_27 rfl ?_
      refine e_iconst dX11_keepsBoth_28 ?_
      refine e_icmp_ne (tgt := 44) dX11_keepsBoth_29 (by decide) ⟨by omega, by omega⟩ ⟨by omega, by omega⟩ (fun c_29 => ?_) (fun c_29 => ?_)
      · exfalso; omega
      · refine e_aload_n dX11_keepsBoth_32 rfl ?_
        refine e_dup dX11_keepsBoth_33 rfl ?_
        refine m_getI (by decide) dX11_keepsBoth_34 f_X11_173 (Or.inl rfl) hT ?_
        have g_34 := rs_38 hW
        refine e_iconst dX11_keepsBoth_37 ?_
        refine e_iadd dX11_keepsBoth_38 ?_
        refine m_putI (by decide) dX11_keepsBoth_39 f_X11_173 rfl hT ⟨by omega, by omega⟩ ?_
        refine e_iconst dX11_keepsBoth_42 ?_
        exact e_iret dX11_keepsBoth_43 (Or.inr ⟨rfl, by omega⟩) (e_ok (by rw [ek]) (by rw [ek]) rfl)
  · have ek := hC
    unfold keepsF at ek
    rw [if_neg hk] at ek
    have ev := ek.2.2.2.2
    simp only [] at ev
    rw [becomesF_50 (t := 50) (by decide)] at ev
    simp only [makesF, q_us_ap, Int.reduceEq, false_and, true_and, and_false, and_true, and_self, if_false, if_true] at ev
    have hkf : kpF M p = freeF M := by unfold kpF at hk ⊢; split <;> first | rfl | (rename_i h9; rw [if_neg h9] at hk; exact absurd rfl hk)
    have hr2 : rightF M (M 4 p) (p / 16) = 2 := by unfold kpF at hk; split at hk <;> first | assumption | exact absurd rfl hk
    rw [hkf] at hk
    have hv : M 50 16 < 120 := by omega
    have hWm : WR (makesF M (freeF M) (p / 16) (M 3 p) (M 4 p)) := hW.makes hv ⟨by omega, by omega⟩ ⟨by omega, by omega⟩ hg3 hg4
    refine e_aload_n dX11_keepsBoth_0 rfl ?_
    refine e_aload_n dX11_keepsBoth_1 rfl ?_
    refine m_getR (kt := (20, 48, 4)) (by decide) dX11_keepsBoth_2 f_X11_17 hT rfl (Nat.succ_ne_zero _) (fun q_2 h_2 => ?_)
    refine e_iload_n dX11_keepsBoth_5 rfl ?_
    refine m_iaw (by decide) (rg_4 hW) dX11_keepsBoth_6 h_2 (by omega) (by omega) (fun g_6 => ?_)
    refine e_iload_n dX11_keepsBoth_7 rfl ?_
    refine e_bipush dX11_keepsBoth_8 (by decide) ?_
    refine e_idiv dX11_keepsBoth_10 ⟨by omega, by omega⟩ ⟨by omega, by omega⟩ ?_
    refine e_cV (as := [_, _]) (ci := 11) dX11_keepsBoth_11 k_X11_rightOf l_X11_165 i_X11_rightOf v_X11_rightOf hT rfl (by decide) ⟨_, _, rfl⟩ rfl rfl rfl rfl (Nat.le_of_ble_eq_true rfl) ⟨by decide, by decide⟩ (Nat.le_of_ble_eq_true rfl) (by decide) (m_rightOf hT hW ⟨by omega, by omega⟩ ⟨by omega, by omega⟩) ?_
    have g_11 := rightF_rg hW (M 4 p) (p / 16)
    refine e_iconst dX11_keepsBoth_14 ?_
    refine e_icmp_ne (tgt := 25) dX11_keepsBoth_15 (by decide) ⟨by omega, by omega⟩ ⟨by omega, by omega⟩ (fun c_15 => ?_) (fun c_15 => ?_)
    · exfalso; omega
    · refine e_aload_n dX11_keepsBoth_18 rfl ?_
      refine e_cV (as := []) (ci := 11) dX11_keepsBoth_19 k_X11_free l_X11_169 i_X11_free v_X11_free hT rfl (by decide) ⟨_, _, rfl⟩ rfl rfl rfl rfl (Nat.le_of_ble_eq_true rfl) ⟨by decide, by decide⟩ (Nat.le_of_ble_eq_true rfl) (by decide) (m_free hT hW) ?_
      refine e_goto (tgt := 26) dX11_keepsBoth_22 (by decide) ?_
      refine e_istore_n (ls2 := [_, _, _, _, _]) dX11_keepsBoth_26 (Nat.le_of_ble_eq_true rfl) rfl ?_
      refine e_iload_n dX11_keepsBoth_27 rfl ?_
      refine e_iconst dX11_keepsBoth_28 ?_
      refine e_icmp_ne (tgt := 44) dX11_keepsBoth_29 (by decide) ⟨by omega, by omega⟩ ⟨by omega, by omega⟩ (fun c_29 => ?_) (fun c_29 => ?_)
      · refine e_iload_n dX11_keepsBoth_44 rfl ?_
        refine e_bipush dX11_keepsBoth_45 (by decide) ?_
        refine e_idiv dX11_keepsBoth_47 ⟨by omega, by omega⟩ ⟨by omega, by omega⟩ ?_
        refine e_bipush dX11_keepsBoth_48 (by decide) ?_
        refine e_imul dX11_keepsBoth_50 ?_
        refine e_iload_n dX11_keepsBoth_51 rfl ?_
        refine e_iadd dX11_keepsBoth_52 ?_
        refine e_istore (ls2 := [_, _, _, _, _]) dX11_keepsBoth_53 (Nat.le_of_ble_eq_true rfl) rfl ?_
        refine e_aload_n dX11_keepsBoth_55 rfl ?_
        refine m_getR (kt := (20, 48, 5)) (by decide) dX11_keepsBoth_56 f_X11_20 hT rfl (Nat.succ_ne_zero _) (fun q_56 h_56 => ?_)
        refine e_iload dX11_keepsBoth_59 rfl ?_
        refine e_aload_n dX11_keepsBoth_61 rfl ?_
        refine e_iload_n dX11_keepsBoth_62 rfl ?_
        refine e_iload_n dX11_keepsBoth_63 rfl ?_
        refine e_bipush dX11_keepsBoth_64 (by decide) ?_
        refine e_idiv dX11_keepsBoth_66 ⟨by omega, by omega⟩ ⟨by omega, by omega⟩ ?_
        refine e_aload_n dX11_keepsBoth_67 rfl ?_
        refine m_getR (kt := (21, 48, 3)) (by decide) dX11_keepsBoth_68 f_X11_13 hT rfl (Nat.succ_ne_zero _) (fun q_68 h_68 => ?_)
        refine e_iload_n dX11_keepsBoth_71 rfl ?_
        refine m_law (by decide) (rg_3 hW) dX11_keepsBoth_72 h_68 (by omega) (by omega) (fun g_72 => ?_)
        refine e_aload_n dX11_keepsBoth_73 rfl ?_
        refine m_getR (kt := (20, 48, 4)) (by decide) dX11_keepsBoth_74 f_X11_17 hT rfl (Nat.succ_ne_zero _) (fun q_74 h_74 => ?_)
        refine e_iload_n dX11_keepsBoth_77 rfl ?_
        refine m_iaw (by decide) (rg_4 hW) dX11_keepsBoth_78 h_74 (by omega) (by omega) (fun g_78 => ?_)
        refine e_cV (as := [_, _, _, _]) (ci := 11) dX11_keepsBoth_79 k_X11_makes l_X11_176 i_X11_makes v_X11_makes hT rfl (by decide) ⟨_, _, rfl⟩ rfl rfl rfl rfl (Nat.le_of_ble_eq_true rfl) ⟨by decide, by decide⟩ (Nat.le_of_ble_eq_true rfl) (by decide) (m_makes hT hW hv ⟨by omega, by omega⟩ ⟨by omega, by omega⟩ hg3 hg4) ?_
        refine e_iconst dX11_keepsBoth_82 ?_
        refine e_iadd dX11_keepsBoth_83 ?_
        refine m_iast (by decide) dX11_keepsBoth_84 h_56 (by omega) (by omega) ⟨by omega, by omega⟩ ?_
        refine e_aload_n dX11_keepsBoth_85 rfl ?_
        refine m_getR (kt := (20, 48, 2)) (by decide) dX11_keepsBoth_86 f_X11_7 hT rfl (Nat.succ_ne_zero _) (fun q_86 h_86 => ?_)
        refine e_iload dX11_keepsBoth_89 rfl ?_
        refine e_iconst dX11_keepsBoth_91 ?_
        refine m_iast (by decide) dX11_keepsBoth_92 h_86 (by omega) (by omega) ⟨by omega, by omega⟩ ?_
        refine e_aload_n dX11_keepsBoth_93 rfl ?_
        refine m_getR (kt := (21, 48, 3)) (by decide) dX11_keepsBoth_94 f_X11_13 hT rfl (Nat.succ_ne_zero _) (fun q_94 h_94 => ?_)
        refine e_iload dX11_keepsBoth_97 rfl ?_
        refine e_aload_n dX11_keepsBoth_99 rfl ?_
        refine m_getR (kt := (21, 48, 3)) (by decide) dX11_keepsBoth_100 f_X11_13 hT rfl (Nat.succ_ne_zero _) (fun q_100 h_100 => ?_)
        refine e_iload_n dX11_keepsBoth_103 rfl ?_
        refine m_lald (by decide) dX11_keepsBoth_104 h_100 (by omega) (by omega) ?_
        simp only [makesF_3, makesF_4, cflF_2, cflF_3, cflF_4, cflF_5, cflF_16, q_us_ap, editsF_3, Int.reduceEq, Int.reduceNeg, false_and, and_false, and_self, if_true, if_false, true_and, and_true, ite_self]
        have g_104 := rg_3 hW p (by omega) (by omega)
        refine m_last (by decide) dX11_keepsBoth_105 h_94 (by omega) (by omega) ⟨by omega, by omega⟩ ?_
        refine e_aload_n dX11_keepsBoth_106 rfl ?_
        refine m_getR (kt := (20, 48, 4)) (by decide) dX11_keepsBoth_107 f_X11_17 hT rfl (Nat.succ_ne_zero _) (fun q_107 h_107 => ?_)
        refine e_iload dX11_keepsBoth_110 rfl ?_
        refine e_aload_n dX11_keepsBoth_112 rfl ?_
        refine m_getR (kt := (20, 48, 4)) (by decide) dX11_keepsBoth_113 f_X11_17 hT rfl (Nat.succ_ne_zero _) (fun q_113 h_113 => ?_)
        refine e_iload_n dX11_keepsBoth_116 rfl ?_
        refine m_iald (by decide) dX11_keepsBoth_117 h_113 (by omega) (by omega) ?_
        simp only [makesF_3, makesF_4, cflF_2, cflF_3, cflF_4, cflF_5, cflF_16, q_us_ap, editsF_3, Int.reduceEq, Int.reduceNeg, false_and, and_false, and_self, if_true, if_false, true_and, and_true, ite_self]
        have g_117 := rg_4 hW p (by omega) (by omega)
        refine m_iast (by decide) dX11_keepsBoth_118 h_107 (by omega) (by omega) ⟨by omega, by omega⟩ ?_
        refine e_aload_n dX11_keepsBoth_119 rfl ?_
        refine e_iload_n dX11_keepsBoth_120 rfl ?_
        refine e_iload_n dX11_keepsBoth_121 rfl ?_
        refine e_cV (as := [_, _]) (ci := 11) dX11_keepsBoth_122 k_X11_becomes l_X11_180 i_X11_becomes v_X11_becomes hT rfl (by decide) ⟨_, _, rfl⟩ rfl rfl rfl rfl (Nat.le_of_ble_eq_true rfl) ⟨by decide, by decide⟩ (Nat.le_of_ble_eq_true rfl) (by decide) (m_becomes hT (WR.up (WR.up (WR.up (WR.up hWm ⟨(show (0 : Int) ≤ M 50 16 + 1 by omega), (show M 50 16 + 1 ≤ (120 : Int) by omega)⟩) ⟨(show (0 : Int) ≤ 2 by decide), (show (2 : Int) ≤ 2 by decide)⟩) hg3) hg4) hp hl) ?_
        refine e_iconst dX11_keepsBoth_125 ?_
        exact e_iret dX11_keepsBoth_126 (Or.inr ⟨rfl, by omega⟩) (e_ok (by unfold keepsF; rw [hkf, if_neg hk]) (by unfold keepsF; rw [hkf, if_neg hk]) rfl)
      · exfalso; omega
set_option maxRecDepth 20000 in
set_option maxHeartbeats 4000000 in
theorem m_look3 {K : q_K} {M C : q_S} {a : Nat} (hT : K a = (12, 0, 50)) (hW : WR M) {p lat : Int} (hp : 0 ≤ p ∧ p < 48) (hl : -1 ≤ lat ∧ lat < 120) (h0 : ¬ (¬ lat = -1 ∧ isAsP M p lat)) (hC : CT (look2 M p lat).2) : q_E mX11_looks 41 [some (q_R a), some (q_I p), some (q_I lat), none, none, none] [] K M C 0 0 (e_is (some (q_I (look2 M p lat).1)) K (look2 M p lat).2 C) := by
  have hg3 : 0 ≤ M 3 p ∧ M 3 p ≤ 9999999999999 := hW 3 p
  have hg4 : 0 ≤ M 4 p ∧ M 4 p ≤ 3 := hW 4 p
  have hg16 := rs_16 hW
  have hg37 := rs_37 hW
  by_cases hm : mayP M p lat
  · by_cases hs : lat = M 5 p - 1
    · have el : look2 M p lat = (1, q_us (makesF (cflF M p lat) (p % 16) (p / 16) (M 3 p) (M 4 p)) 5 p (M 50 16 + 1)) := by
        unfold look2; rw [if_neg h0]; rw [if_pos (Or.inl ⟨hm, hs⟩)]
      have hcl : LE (cflF M p lat) (look2 M p lat).2 := by rw [el]; exact (LE.makes _ _ _ _ _).trans (LE.us (by decide))
      have hcc := hcl.ct hC
      have hWc := hW.cfl hcc.2.1
      have hg37b : M 50 37 + (if okP M p lat then 0 else 1) ≤ 1000000 := hcc.2.1
      have hsum : M 50 37 + 1 ≤ 1000001 := by omega
      have hv : (cflF M p lat) 50 16 < 120 := by
        have e1 := hC.2.2.2.2
        rw [el] at e1
        simp only [makesF, cflF_16, q_us_ap, Int.reduceEq, false_and, true_and, and_false, and_true, and_self, if_false, if_true] at e1
        rw [cflF_16]; omega
      rw [if_pos ⟨hm, hs⟩] at hg37b
      refine e_aload_n dX11_looks_41 rfl ?_
      refine e_iload_n dX11_looks_42 rfl ?_
      refine e_iload_n dX11_looks_43 rfl ?_
      refine e_cV (as := [_, _]) (ci := 11) dX11_looks_44 k_X11_may l_X11_187 i_X11_may v_X11_may hT rfl (by decide) ⟨_, _, rfl⟩ rfl rfl rfl rfl (Nat.le_of_ble_eq_true rfl) ⟨by decide, by decide⟩ (Nat.le_of_ble_eq_true rfl) (by decide) (m_may hT hW ⟨by omega, by omega⟩ ⟨by omega, by omega⟩) ?_
      rw [bi_t hm]
      refine e_istore_n (ls2 := [_, _, _, _, _, _]) dX11_looks_47 (Nat.le_of_ble_eq_true rfl) rfl ?_
      refine e_iload_n dX11_looks_48 rfl ?_
      refine e_aload_n dX11_looks_49 rfl ?_
      refine m_getR (kt := (20, 48, 5)) (by decide) dX11_looks_50 f_X11_20 hT rfl (Nat.succ_ne_zero _) (fun q_50 h_50 => ?_)
      refine e_iload_n dX11_looks_53 rfl ?_
      refine m_iaw (by decide) (rg_5 hW) dX11_looks_54 h_50 (by omega) (by omega) (fun g_54 => ?_)
      refine e_iconst dX11_looks_55 ?_
      refine e_isub dX11_looks_56 ?_
      refine e_icmp_ne (tgt := 64) dX11_looks_57 (by decide) ⟨by omega, by omega⟩ ⟨by omega, by omega⟩ (fun c_57 => ?_) (fun c_57 => ?_)
      · exfalso; omega
      · refine e_iconst dX11_looks_60 ?_
        refine e_goto (tgt := 65) dX11_looks_61 (by decide) ?_
        refine e_istore (ls2 := [_, _, _, _, _, _]) dX11_looks_65 (Nat.le_of_ble_eq_true rfl) rfl ?_
        refine e_iload_n dX11_looks_67 rfl ?_
        refine e_iconst dX11_looks_68 ?_
        refine e_icmp_eq (tgt := 87) dX11_looks_69 (by decide) ⟨by omega, by omega⟩ ⟨by omega, by omega⟩ (fun c_69 => ?_) (fun c_69 => ?_)
        · refine e_iconst dX11_looks_87 ?_
          refine e_istore (ls2 := [_, _, _, _, _, _]) dX11_looks_88 (Nat.le_of_ble_eq_true rfl) rfl ?_
          refine e_aload_n dX11_looks_90 rfl ?_
          refine e_dup dX11_looks_91 rfl ?_
          refine m_getI (by decide) dX11_looks_92 f_X11_190 (Or.inl rfl) hT ?_
          have g_92 := rs_37 hW
          refine e_iload_n dX11_looks_95 rfl ?_
          refine e_if_eq (tgt := 108) dX11_looks_96 (by decide) ⟨by decide, by decide⟩ (fun c_96 => ?_) (fun c_96 => ?_)
          · exact absurd c_96 (by decide)
          · refine e_iload dX11_looks_99 rfl ?_
            refine e_if_eq (tgt := 108) dX11_looks_101 (by decide) ⟨by decide, by decide⟩ (fun c_101 => ?_) (fun c_101 => ?_)
            · exact absurd c_101 (by decide)
            · refine e_iconst dX11_looks_104 ?_
              refine e_goto (tgt := 109) dX11_looks_105 (by decide) ?_
              refine e_iadd dX11_looks_109 ?_
              refine m_putI (by decide) dX11_looks_110 f_X11_190 rfl hT ⟨by omega, by omega⟩ ?_
              rw [show q_us M 50 37 (M 50 37 + 0) = cflF M p lat from by unfold cflF; rw [if_pos ⟨hm, hs⟩]]
              refine e_iload_n dX11_looks_113 rfl ?_
              refine e_if_eq (tgt := 122) dX11_looks_114 (by decide) ⟨by decide, by decide⟩ (fun c_114 => ?_) (fun c_114 => ?_)
              · exact absurd c_114 (by decide)
              · refine e_iload dX11_looks_117 rfl ?_
                refine e_if_ne (tgt := 140) dX11_looks_119 (by decide) ⟨by decide, by decide⟩ (fun c_119 => ?_) (fun c_119 => ?_)
                · refine e_aload_n dX11_looks_140 rfl ?_
                  refine m_getR (kt := (20, 48, 5)) (by decide) dX11_looks_141 f_X11_20 hT rfl (Nat.succ_ne_zero _) (fun q_141 h_141 => ?_)
                  refine e_iload_n dX11_looks_144 rfl ?_
                  refine e_aload_n dX11_looks_145 rfl ?_
                  refine e_iload_n dX11_looks_146 rfl ?_
                  refine e_bipush dX11_looks_147 (by decide) ?_
                  refine e_irem dX11_looks_149 ⟨by omega, by omega⟩ ⟨by omega, by omega⟩ ?_
                  refine e_iload_n dX11_looks_150 rfl ?_
                  refine e_bipush dX11_looks_151 (by decide) ?_
                  refine e_idiv dX11_looks_153 ⟨by omega, by omega⟩ ⟨by omega, by omega⟩ ?_
                  refine e_aload_n dX11_looks_154 rfl ?_
                  refine m_getR (kt := (21, 48, 3)) (by decide) dX11_looks_155 f_X11_13 hT rfl (Nat.succ_ne_zero _) (fun q_155 h_155 => ?_)
                  refine e_iload_n dX11_looks_158 rfl ?_
                  refine m_lald (by decide) dX11_looks_159 h_155 (by omega) (by omega) ?_
                  simp only [makesF_3, makesF_4, cflF_2, cflF_3, cflF_4, cflF_5, cflF_16, q_us_ap, editsF_3, Int.reduceEq, Int.reduceNeg, false_and, and_false, and_self, if_true, if_false, true_and, and_true, ite_self]
                  have g_159 := rg_3 hW p (by omega) (by omega)
                  refine e_aload_n dX11_looks_160 rfl ?_
                  refine m_getR (kt := (20, 48, 4)) (by decide) dX11_looks_161 f_X11_17 hT rfl (Nat.succ_ne_zero _) (fun q_161 h_161 => ?_)
                  refine e_iload_n dX11_looks_164 rfl ?_
                  refine m_iald (by decide) dX11_looks_165 h_161 (by omega) (by omega) ?_
                  simp only [makesF_3, makesF_4, cflF_2, cflF_3, cflF_4, cflF_5, cflF_16, q_us_ap, editsF_3, Int.reduceEq, Int.reduceNeg, false_and, and_false, and_self, if_true, if_false, true_and, and_true, ite_self]
                  have g_165 := rg_4 hW p (by omega) (by omega)
                  refine e_cV (as := [_, _, _, _]) (ci := 11) dX11_looks_166 k_X11_makes l_X11_176 i_X11_makes v_X11_makes hT rfl (by decide) ⟨_, _, rfl⟩ rfl rfl rfl rfl (Nat.le_of_ble_eq_true rfl) ⟨by decide, by decide⟩ (Nat.le_of_ble_eq_true rfl) (by decide) (m_makes hT hWc hv ⟨by omega, by omega⟩ ⟨by omega, by omega⟩ hg3 hg4) ?_
                  rw [show cflF M p lat 50 16 = M 50 16 from rfl]
                  refine e_iconst dX11_looks_169 ?_
                  refine e_iadd dX11_looks_170 ?_
                  refine m_iast (by decide) dX11_looks_171 h_141 (by omega) (by omega) ⟨by omega, by omega⟩ ?_
                  refine e_iconst dX11_looks_172 ?_
                  exact e_iret dX11_looks_173 (Or.inl rfl) (e_ok (by first | rw [el] | (rw [el]; congr 2; omega)) (by rw [el]) rfl)
                · exact absurd c_119 (by decide)
        · refine e_aload_n dX11_looks_72 rfl ?_
          refine m_getR (kt := (21, 120, 21)) (by decide) dX11_looks_73 f_X11_56 hT rfl (Nat.succ_ne_zero _) (fun q_73 h_73 => ?_)
          refine e_iload_n dX11_looks_76 rfl ?_
          refine m_law (by decide) (rg_21 hW) dX11_looks_77 h_73 (by omega) (by omega) (fun g_77 => ?_)
          refine e_lconst (z := 0) dX11_looks_78 rfl ?_
          refine e_lcmp dX11_looks_79 ⟨by omega, by omega⟩ ⟨by omega, by omega⟩ ?_
          refine e_if_ne (tgt := 87) dX11_looks_80 (by decide) (q_cmp_iI _ _) (fun c_80 => ?_) (fun c_80 => ?_)
          · rw [q_cmp_eq] at c_80
            refine e_iconst dX11_looks_87 ?_
            refine e_istore (ls2 := [_, _, _, _, _, _]) dX11_looks_88 (Nat.le_of_ble_eq_true rfl) rfl ?_
            refine e_aload_n dX11_looks_90 rfl ?_
            refine e_dup dX11_looks_91 rfl ?_
            refine m_getI (by decide) dX11_looks_92 f_X11_190 (Or.inl rfl) hT ?_
            have g_92 := rs_37 hW
            refine e_iload_n dX11_looks_95 rfl ?_
            refine e_if_eq (tgt := 108) dX11_looks_96 (by decide) ⟨by decide, by decide⟩ (fun c_96 => ?_) (fun c_96 => ?_)
            · exact absurd c_96 (by decide)
            · refine e_iload dX11_looks_99 rfl ?_
              refine e_if_eq (tgt := 108) dX11_looks_101 (by decide) ⟨by decide, by decide⟩ (fun c_101 => ?_) (fun c_101 => ?_)
              · exact absurd c_101 (by decide)
              · refine e_iconst dX11_looks_104 ?_
                refine e_goto (tgt := 109) dX11_looks_105 (by decide) ?_
                refine e_iadd dX11_looks_109 ?_
                refine m_putI (by decide) dX11_looks_110 f_X11_190 rfl hT ⟨by omega, by omega⟩ ?_
                rw [show q_us M 50 37 (M 50 37 + 0) = cflF M p lat from by unfold cflF; rw [if_pos ⟨hm, hs⟩]]
                refine e_iload_n dX11_looks_113 rfl ?_
                refine e_if_eq (tgt := 122) dX11_looks_114 (by decide) ⟨by decide, by decide⟩ (fun c_114 => ?_) (fun c_114 => ?_)
                · exact absurd c_114 (by decide)
                · refine e_iload dX11_looks_117 rfl ?_
                  refine e_if_ne (tgt := 140) dX11_looks_119 (by decide) ⟨by decide, by decide⟩ (fun c_119 => ?_) (fun c_119 => ?_)
                  · refine e_aload_n dX11_looks_140 rfl ?_
                    refine m_getR (kt := (20, 48, 5)) (by decide) dX11_looks_141 f_X11_20 hT rfl (Nat.succ_ne_zero _) (fun q_141 h_141 => ?_)
                    refine e_iload_n dX11_looks_144 rfl ?_
                    refine e_aload_n dX11_looks_145 rfl ?_
                    refine e_iload_n dX11_looks_146 rfl ?_
                    refine e_bipush dX11_looks_147 (by decide) ?_
                    refine e_irem dX11_looks_149 ⟨by omega, by omega⟩ ⟨by omega, by omega⟩ ?_
                    refine e_iload_n dX11_looks_150 rfl ?_
                    refine e_bipush dX11_looks_151 (by decide) ?_
                    refine e_idiv dX11_looks_153 ⟨by omega, by omega⟩ ⟨by omega, by omega⟩ ?_
                    refine e_aload_n dX11_looks_154 rfl ?_
                    refine m_getR (kt := (21, 48, 3)) (by decide) dX11_looks_155 f_X11_13 hT rfl (Nat.succ_ne_zero _) (fun q_155 h_155 => ?_)
                    refine e_iload_n dX11_looks_158 rfl ?_
                    refine m_lald (by decide) dX11_looks_159 h_155 (by omega) (by omega) ?_
                    simp only [makesF_3, makesF_4, cflF_2, cflF_3, cflF_4, cflF_5, cflF_16, q_us_ap, editsF_3, Int.reduceEq, Int.reduceNeg, false_and, and_false, and_self, if_true, if_false, true_and, and_true, ite_self]
                    have g_159 := rg_3 hW p (by omega) (by omega)
                    refine e_aload_n dX11_looks_160 rfl ?_
                    refine m_getR (kt := (20, 48, 4)) (by decide) dX11_looks_161 f_X11_17 hT rfl (Nat.succ_ne_zero _) (fun q_161 h_161 => ?_)
                    refine e_iload_n dX11_looks_164 rfl ?_
                    refine m_iald (by decide) dX11_looks_165 h_161 (by omega) (by omega) ?_
                    simp only [makesF_3, makesF_4, cflF_2, cflF_3, cflF_4, cflF_5, cflF_16, q_us_ap, editsF_3, Int.reduceEq, Int.reduceNeg, false_and, and_false, and_self, if_true, if_false, true_and, and_true, ite_self]
                    have g_165 := rg_4 hW p (by omega) (by omega)
                    refine e_cV (as := [_, _, _, _]) (ci := 11) dX11_looks_166 k_X11_makes l_X11_176 i_X11_makes v_X11_makes hT rfl (by decide) ⟨_, _, rfl⟩ rfl rfl rfl rfl (Nat.le_of_ble_eq_true rfl) ⟨by decide, by decide⟩ (Nat.le_of_ble_eq_true rfl) (by decide) (m_makes hT hWc hv ⟨by omega, by omega⟩ ⟨by omega, by omega⟩ hg3 hg4) ?_
                    rw [show cflF M p lat 50 16 = M 50 16 from rfl]
                    refine e_iconst dX11_looks_169 ?_
                    refine e_iadd dX11_looks_170 ?_
                    refine m_iast (by decide) dX11_looks_171 h_141 (by omega) (by omega) ⟨by omega, by omega⟩ ?_
                    refine e_iconst dX11_looks_172 ?_
                    exact e_iret dX11_looks_173 (Or.inl rfl) (e_ok (by first | rw [el] | (rw [el]; congr 2; omega)) (by rw [el]) rfl)
                  · exact absurd c_119 (by decide)
          · rw [q_cmp_eq] at c_80
            refine e_iconst dX11_looks_83 ?_
            refine e_goto (tgt := 88) dX11_looks_84 (by decide) ?_
            refine e_istore (ls2 := [_, _, _, _, _, _]) dX11_looks_88 (Nat.le_of_ble_eq_true rfl) rfl ?_
            refine e_aload_n dX11_looks_90 rfl ?_
            refine e_dup dX11_looks_91 rfl ?_
            refine m_getI (by decide) dX11_looks_92 f_X11_190 (Or.inl rfl) hT ?_
            have g_92 := rs_37 hW
            refine e_iload_n dX11_looks_95 rfl ?_
            refine e_if_eq (tgt := 108) dX11_looks_96 (by decide) ⟨by decide, by decide⟩ (fun c_96 => ?_) (fun c_96 => ?_)
            · exact absurd c_96 (by decide)
            · refine e_iload dX11_looks_99 rfl ?_
              refine e_if_eq (tgt := 108) dX11_looks_101 (by decide) ⟨by decide, by decide⟩ (fun c_101 => ?_) (fun c_101 => ?_)
              · exact absurd c_101 (by decide)
              · refine e_iconst dX11_looks_104 ?_
                refine e_goto (tgt := 109) dX11_looks_105 (by decide) ?_
                refine e_iadd dX11_looks_109 ?_
                refine m_putI (by decide) dX11_looks_110 f_X11_190 rfl hT ⟨by omega, by omega⟩ ?_
                rw [show q_us M 50 37 (M 50 37 + 0) = cflF M p lat from by unfold cflF; rw [if_pos ⟨hm, hs⟩]]
                refine e_iload_n dX11_looks_113 rfl ?_
                refine e_if_eq (tgt := 122) dX11_looks_114 (by decide) ⟨by decide, by decide⟩ (fun c_114 => ?_) (fun c_114 => ?_)
                · exact absurd c_114 (by decide)
                · refine e_iload dX11_looks_117 rfl ?_
                  refine e_if_ne (tgt := 140) dX11_looks_119 (by decide) ⟨by decide, by decide⟩ (fun c_119 => ?_) (fun c_119 => ?_)
                  · refine e_aload_n dX11_looks_140 rfl ?_
                    refine m_getR (kt := (20, 48, 5)) (by decide) dX11_looks_141 f_X11_20 hT rfl (Nat.succ_ne_zero _) (fun q_141 h_141 => ?_)
                    refine e_iload_n dX11_looks_144 rfl ?_
                    refine e_aload_n dX11_looks_145 rfl ?_
                    refine e_iload_n dX11_looks_146 rfl ?_
                    refine e_bipush dX11_looks_147 (by decide) ?_
                    refine e_irem dX11_looks_149 ⟨by omega, by omega⟩ ⟨by omega, by omega⟩ ?_
                    refine e_iload_n dX11_looks_150 rfl ?_
                    refine e_bipush dX11_looks_151 (by decide) ?_
                    refine e_idiv dX11_looks_153 ⟨by omega, by omega⟩ ⟨by omega, by omega⟩ ?_
                    refine e_aload_n dX11_looks_154 rfl ?_
                    refine m_getR (kt := (21, 48, 3)) (by decide) dX11_looks_155 f_X11_13 hT rfl (Nat.succ_ne_zero _) (fun q_155 h_155 => ?_)
                    refine e_iload_n dX11_looks_158 rfl ?_
                    refine m_lald (by decide) dX11_looks_159 h_155 (by omega) (by omega) ?_
                    simp only [makesF_3, makesF_4, cflF_2, cflF_3, cflF_4, cflF_5, cflF_16, q_us_ap, editsF_3, Int.reduceEq, Int.reduceNeg, false_and, and_false, and_self, if_true, if_false, true_and, and_true, ite_self]
                    have g_159 := rg_3 hW p (by omega) (by omega)
                    refine e_aload_n dX11_looks_160 rfl ?_
                    refine m_getR (kt := (20, 48, 4)) (by decide) dX11_looks_161 f_X11_17 hT rfl (Nat.succ_ne_zero _) (fun q_161 h_161 => ?_)
                    refine e_iload_n dX11_looks_164 rfl ?_
                    refine m_iald (by decide) dX11_looks_165 h_161 (by omega) (by omega) ?_
                    simp only [makesF_3, makesF_4, cflF_2, cflF_3, cflF_4, cflF_5, cflF_16, q_us_ap, editsF_3, Int.reduceEq, Int.reduceNeg, false_and, and_false, and_self, if_true, if_false, true_and, and_true, ite_self]
                    have g_165 := rg_4 hW p (by omega) (by omega)
                    refine e_cV (as := [_, _, _, _]) (ci := 11) dX11_looks_166 k_X11_makes l_X11_176 i_X11_makes v_X11_makes hT rfl (by decide) ⟨_, _, rfl⟩ rfl rfl rfl rfl (Nat.le_of_ble_eq_true rfl) ⟨by decide, by decide⟩ (Nat.le_of_ble_eq_true rfl) (by decide) (m_makes hT hWc hv ⟨by omega, by omega⟩ ⟨by omega, by omega⟩ hg3 hg4) ?_
                    rw [show cflF M p lat 50 16 = M 50 16 from rfl]
                    refine e_iconst dX11_looks_169 ?_
                    refine e_iadd dX11_looks_170 ?_
                    refine m_iast (by decide) dX11_looks_171 h_141 (by omega) (by omega) ⟨by omega, by omega⟩ ?_
                    refine e_iconst dX11_looks_172 ?_
                    exact e_iret dX11_looks_173 (Or.inl rfl) (e_ok (by first | rw [el] | (rw [el]; congr 2; omega)) (by rw [el]) rfl)
                  · exact absurd c_119 (by decide)
    · by_cases hd : ¬ lat = -1 ∧ M 21 lat = 0
      · by_cases ha : M 2 p = 0
        · have el : look2 M p lat = (0, becomesF (cflF M p lat) p lat) := by
            unfold look2; rw [if_neg h0]; rw [if_neg (fun h => h.elim (fun h => hs h.2) (fun h => h.1 ha)), if_pos ha]
          have hcl : LE (cflF M p lat) (look2 M p lat).2 := by rw [el]; exact LE.becomes _ _ _
          have hcc := hcl.ct hC
          have hWc := hW.cfl hcc.2.1
          have hg37b : M 50 37 + (if okP M p lat then 0 else 1) ≤ 1000000 := hcc.2.1
          have hsum : M 50 37 + 1 ≤ 1000001 := by omega
          rw [if_neg (fun h => hs h.2)] at hg37b
          refine e_aload_n dX11_looks_41 rfl ?_
          refine e_iload_n dX11_looks_42 rfl ?_
          refine e_iload_n dX11_looks_43 rfl ?_
          refine e_cV (as := [_, _]) (ci := 11) dX11_looks_44 k_X11_may l_X11_187 i_X11_may v_X11_may hT rfl (by decide) ⟨_, _, rfl⟩ rfl rfl rfl rfl (Nat.le_of_ble_eq_true rfl) ⟨by decide, by decide⟩ (Nat.le_of_ble_eq_true rfl) (by decide) (m_may hT hW ⟨by omega, by omega⟩ ⟨by omega, by omega⟩) ?_
          rw [bi_t hm]
          refine e_istore_n (ls2 := [_, _, _, _, _, _]) dX11_looks_47 (Nat.le_of_ble_eq_true rfl) rfl ?_
          refine e_iload_n dX11_looks_48 rfl ?_
          refine e_aload_n dX11_looks_49 rfl ?_
          refine m_getR (kt := (20, 48, 5)) (by decide) dX11_looks_50 f_X11_20 hT rfl (Nat.succ_ne_zero _) (fun q_50 h_50 => ?_)
          refine e_iload_n dX11_looks_53 rfl ?_
          refine m_iaw (by decide) (rg_5 hW) dX11_looks_54 h_50 (by omega) (by omega) (fun g_54 => ?_)
          refine e_iconst dX11_looks_55 ?_
          refine e_isub dX11_looks_56 ?_
          refine e_icmp_ne (tgt := 64) dX11_looks_57 (by decide) ⟨by omega, by omega⟩ ⟨by omega, by omega⟩ (fun c_57 => ?_) (fun c_57 => ?_)
          · refine e_iconst dX11_looks_64 ?_
            refine e_istore (ls2 := [_, _, _, _, _, _]) dX11_looks_65 (Nat.le_of_ble_eq_true rfl) rfl ?_
            refine e_iload_n dX11_looks_67 rfl ?_
            refine e_iconst dX11_looks_68 ?_
            refine e_icmp_eq (tgt := 87) dX11_looks_69 (by decide) ⟨by omega, by omega⟩ ⟨by omega, by omega⟩ (fun c_69 => ?_) (fun c_69 => ?_)
            · exfalso; omega
            · refine e_aload_n dX11_looks_72 rfl ?_
              refine m_getR (kt := (21, 120, 21)) (by decide) dX11_looks_73 f_X11_56 hT rfl (Nat.succ_ne_zero _) (fun q_73 h_73 => ?_)
              refine e_iload_n dX11_looks_76 rfl ?_
              refine m_law (by decide) (rg_21 hW) dX11_looks_77 h_73 (by omega) (by omega) (fun g_77 => ?_)
              refine e_lconst (z := 0) dX11_looks_78 rfl ?_
              refine e_lcmp dX11_looks_79 ⟨by omega, by omega⟩ ⟨by omega, by omega⟩ ?_
              refine e_if_ne (tgt := 87) dX11_looks_80 (by decide) (q_cmp_iI _ _) (fun c_80 => ?_) (fun c_80 => ?_)
              · rw [q_cmp_eq] at c_80
                exfalso; omega
              · rw [q_cmp_eq] at c_80
                refine e_iconst dX11_looks_83 ?_
                refine e_goto (tgt := 88) dX11_looks_84 (by decide) ?_
                refine e_istore (ls2 := [_, _, _, _, _, _]) dX11_looks_88 (Nat.le_of_ble_eq_true rfl) rfl ?_
                refine e_aload_n dX11_looks_90 rfl ?_
                refine e_dup dX11_looks_91 rfl ?_
                refine m_getI (by decide) dX11_looks_92 f_X11_190 (Or.inl rfl) hT ?_
                have g_92 := rs_37 hW
                refine e_iload_n dX11_looks_95 rfl ?_
                refine e_if_eq (tgt := 108) dX11_looks_96 (by decide) ⟨by decide, by decide⟩ (fun c_96 => ?_) (fun c_96 => ?_)
                · exact absurd c_96 (by decide)
                · refine e_iload dX11_looks_99 rfl ?_
                  refine e_if_eq (tgt := 108) dX11_looks_101 (by decide) ⟨by decide, by decide⟩ (fun c_101 => ?_) (fun c_101 => ?_)
                  · refine e_iconst dX11_looks_108 ?_
                    refine e_iadd dX11_looks_109 ?_
                    refine m_putI (by decide) dX11_looks_110 f_X11_190 rfl hT ⟨by omega, by omega⟩ ?_
                    rw [show q_us M 50 37 (M 50 37 + 1) = cflF M p lat from by unfold cflF; rw [if_neg (fun h => hs h.2)]]
                    refine e_iload_n dX11_looks_113 rfl ?_
                    refine e_if_eq (tgt := 122) dX11_looks_114 (by decide) ⟨by decide, by decide⟩ (fun c_114 => ?_) (fun c_114 => ?_)
                    · exact absurd c_114 (by decide)
                    · refine e_iload dX11_looks_117 rfl ?_
                      refine e_if_ne (tgt := 140) dX11_looks_119 (by decide) ⟨by decide, by decide⟩ (fun c_119 => ?_) (fun c_119 => ?_)
                      · exact absurd c_119 (by decide)
                      · refine e_aload_n dX11_looks_122 rfl ?_
                        refine m_getR (kt := (20, 48, 2)) (by decide) dX11_looks_123 f_X11_7 hT rfl (Nat.succ_ne_zero _) (fun q_123 h_123 => ?_)
                        refine e_iload_n dX11_looks_126 rfl ?_
                        refine m_iald (by decide) dX11_looks_127 h_123 (by omega) (by omega) ?_
                        simp only [makesF_3, makesF_4, cflF_2, cflF_3, cflF_4, cflF_5, cflF_16, q_us_ap, editsF_3, Int.reduceEq, Int.reduceNeg, false_and, and_false, and_self, if_true, if_false, true_and, and_true, ite_self]
                        have g_127 := rg_2 hW p (by omega) (by omega)
                        refine e_if_eq (tgt := 174) dX11_looks_128 (by decide) ⟨by omega, by omega⟩ (fun c_128 => ?_) (fun c_128 => ?_)
                        · refine e_aload_n dX11_looks_174 rfl ?_
                          refine m_getR (kt := (20, 48, 2)) (by decide) dX11_looks_175 f_X11_7 hT rfl (Nat.succ_ne_zero _) (fun q_175 h_175 => ?_)
                          refine e_iload_n dX11_looks_178 rfl ?_
                          refine m_iald (by decide) dX11_looks_179 h_175 (by omega) (by omega) ?_
                          simp only [makesF_3, makesF_4, cflF_2, cflF_3, cflF_4, cflF_5, cflF_16, q_us_ap, editsF_3, Int.reduceEq, Int.reduceNeg, false_and, and_false, and_self, if_true, if_false, true_and, and_true, ite_self]
                          have g_179 := rg_2 hW p (by omega) (by omega)
                          refine e_if_ne (tgt := 191) dX11_looks_180 (by decide) ⟨by omega, by omega⟩ (fun c_180 => ?_) (fun c_180 => ?_)
                          · exfalso; omega
                          · refine e_aload_n dX11_looks_183 rfl ?_
                            refine e_iload_n dX11_looks_184 rfl ?_
                            refine e_iload_n dX11_looks_185 rfl ?_
                            refine e_cV (as := [_, _]) (ci := 11) dX11_looks_186 k_X11_becomes l_X11_180 i_X11_becomes v_X11_becomes hT rfl (by decide) ⟨_, _, rfl⟩ rfl rfl rfl rfl (Nat.le_of_ble_eq_true rfl) ⟨by decide, by decide⟩ (Nat.le_of_ble_eq_true rfl) (by decide) (m_becomes hT hWc hp hl) ?_
                            refine e_iconst dX11_looks_189 ?_
                            exact e_iret dX11_looks_190 (Or.inl rfl) (e_ok (by first | rw [el] | (rw [el]; congr 2; omega)) (by rw [el]) rfl)
                        · exfalso; omega
                  · exact absurd c_101 (by decide)
          · exfalso; omega
        · have el : look2 M p lat = (1, q_us (makesF (cflF M p lat) (p % 16) (p / 16) (M 3 p) (M 4 p)) 5 p (M 50 16 + 1)) := by
            unfold look2; rw [if_neg h0]; rw [if_pos (Or.inr ⟨ha, hd, hm⟩)]
          have hcl : LE (cflF M p lat) (look2 M p lat).2 := by rw [el]; exact (LE.makes _ _ _ _ _).trans (LE.us (by decide))
          have hcc := hcl.ct hC
          have hWc := hW.cfl hcc.2.1
          have hg37b : M 50 37 + (if okP M p lat then 0 else 1) ≤ 1000000 := hcc.2.1
          have hsum : M 50 37 + 1 ≤ 1000001 := by omega
          have hv : (cflF M p lat) 50 16 < 120 := by
            have e1 := hC.2.2.2.2
            rw [el] at e1
            simp only [makesF, cflF_16, q_us_ap, Int.reduceEq, false_and, true_and, and_false, and_true, and_self, if_false, if_true] at e1
            rw [cflF_16]; omega
          rw [if_neg (fun h => hs h.2)] at hg37b
          refine e_aload_n dX11_looks_41 rfl ?_
          refine e_iload_n dX11_looks_42 rfl ?_
          refine e_iload_n dX11_looks_43 rfl ?_
          refine e_cV (as := [_, _]) (ci := 11) dX11_looks_44 k_X11_may l_X11_187 i_X11_may v_X11_may hT rfl (by decide) ⟨_, _, rfl⟩ rfl rfl rfl rfl (Nat.le_of_ble_eq_true rfl) ⟨by decide, by decide⟩ (Nat.le_of_ble_eq_true rfl) (by decide) (m_may hT hW ⟨by omega, by omega⟩ ⟨by omega, by omega⟩) ?_
          rw [bi_t hm]
          refine e_istore_n (ls2 := [_, _, _, _, _, _]) dX11_looks_47 (Nat.le_of_ble_eq_true rfl) rfl ?_
          refine e_iload_n dX11_looks_48 rfl ?_
          refine e_aload_n dX11_looks_49 rfl ?_
          refine m_getR (kt := (20, 48, 5)) (by decide) dX11_looks_50 f_X11_20 hT rfl (Nat.succ_ne_zero _) (fun q_50 h_50 => ?_)
          refine e_iload_n dX11_looks_53 rfl ?_
          refine m_iaw (by decide) (rg_5 hW) dX11_looks_54 h_50 (by omega) (by omega) (fun g_54 => ?_)
          refine e_iconst dX11_looks_55 ?_
          refine e_isub dX11_looks_56 ?_
          refine e_icmp_ne (tgt := 64) dX11_looks_57 (by decide) ⟨by omega, by omega⟩ ⟨by omega, by omega⟩ (fun c_57 => ?_) (fun c_57 => ?_)
          · refine e_iconst dX11_looks_64 ?_
            refine e_istore (ls2 := [_, _, _, _, _, _]) dX11_looks_65 (Nat.le_of_ble_eq_true rfl) rfl ?_
            refine e_iload_n dX11_looks_67 rfl ?_
            refine e_iconst dX11_looks_68 ?_
            refine e_icmp_eq (tgt := 87) dX11_looks_69 (by decide) ⟨by omega, by omega⟩ ⟨by omega, by omega⟩ (fun c_69 => ?_) (fun c_69 => ?_)
            · exfalso; omega
            · refine e_aload_n dX11_looks_72 rfl ?_
              refine m_getR (kt := (21, 120, 21)) (by decide) dX11_looks_73 f_X11_56 hT rfl (Nat.succ_ne_zero _) (fun q_73 h_73 => ?_)
              refine e_iload_n dX11_looks_76 rfl ?_
              refine m_law (by decide) (rg_21 hW) dX11_looks_77 h_73 (by omega) (by omega) (fun g_77 => ?_)
              refine e_lconst (z := 0) dX11_looks_78 rfl ?_
              refine e_lcmp dX11_looks_79 ⟨by omega, by omega⟩ ⟨by omega, by omega⟩ ?_
              refine e_if_ne (tgt := 87) dX11_looks_80 (by decide) (q_cmp_iI _ _) (fun c_80 => ?_) (fun c_80 => ?_)
              · rw [q_cmp_eq] at c_80
                exfalso; omega
              · rw [q_cmp_eq] at c_80
                refine e_iconst dX11_looks_83 ?_
                refine e_goto (tgt := 88) dX11_looks_84 (by decide) ?_
                refine e_istore (ls2 := [_, _, _, _, _, _]) dX11_looks_88 (Nat.le_of_ble_eq_true rfl) rfl ?_
                refine e_aload_n dX11_looks_90 rfl ?_
                refine e_dup dX11_looks_91 rfl ?_
                refine m_getI (by decide) dX11_looks_92 f_X11_190 (Or.inl rfl) hT ?_
                have g_92 := rs_37 hW
                refine e_iload_n dX11_looks_95 rfl ?_
                refine e_if_eq (tgt := 108) dX11_looks_96 (by decide) ⟨by decide, by decide⟩ (fun c_96 => ?_) (fun c_96 => ?_)
                · exact absurd c_96 (by decide)
                · refine e_iload dX11_looks_99 rfl ?_
                  refine e_if_eq (tgt := 108) dX11_looks_101 (by decide) ⟨by decide, by decide⟩ (fun c_101 => ?_) (fun c_101 => ?_)
                  · refine e_iconst dX11_looks_108 ?_
                    refine e_iadd dX11_looks_109 ?_
                    refine m_putI (by decide) dX11_looks_110 f_X11_190 rfl hT ⟨by omega, by omega⟩ ?_
                    rw [show q_us M 50 37 (M 50 37 + 1) = cflF M p lat from by unfold cflF; rw [if_neg (fun h => hs h.2)]]
                    refine e_iload_n dX11_looks_113 rfl ?_
                    refine e_if_eq (tgt := 122) dX11_looks_114 (by decide) ⟨by decide, by decide⟩ (fun c_114 => ?_) (fun c_114 => ?_)
                    · exact absurd c_114 (by decide)
                    · refine e_iload dX11_looks_117 rfl ?_
                      refine e_if_ne (tgt := 140) dX11_looks_119 (by decide) ⟨by decide, by decide⟩ (fun c_119 => ?_) (fun c_119 => ?_)
                      · exact absurd c_119 (by decide)
                      · refine e_aload_n dX11_looks_122 rfl ?_
                        refine m_getR (kt := (20, 48, 2)) (by decide) dX11_looks_123 f_X11_7 hT rfl (Nat.succ_ne_zero _) (fun q_123 h_123 => ?_)
                        refine e_iload_n dX11_looks_126 rfl ?_
                        refine m_iald (by decide) dX11_looks_127 h_123 (by omega) (by omega) ?_
                        simp only [makesF_3, makesF_4, cflF_2, cflF_3, cflF_4, cflF_5, cflF_16, q_us_ap, editsF_3, Int.reduceEq, Int.reduceNeg, false_and, and_false, and_self, if_true, if_false, true_and, and_true, ite_self]
                        have g_127 := rg_2 hW p (by omega) (by omega)
                        refine e_if_eq (tgt := 174) dX11_looks_128 (by decide) ⟨by omega, by omega⟩ (fun c_128 => ?_) (fun c_128 => ?_)
                        · exfalso; omega
                        · refine e_iload dX11_looks_131 rfl ?_
                          refine e_if_eq (tgt := 174) dX11_looks_133 (by decide) ⟨by decide, by decide⟩ (fun c_133 => ?_) (fun c_133 => ?_)
                          · exact absurd c_133 (by decide)
                          · refine e_iload_n dX11_looks_136 rfl ?_
                            refine e_if_eq (tgt := 174) dX11_looks_137 (by decide) ⟨by decide, by decide⟩ (fun c_137 => ?_) (fun c_137 => ?_)
                            · exact absurd c_137 (by decide)
                            · refine e_aload_n dX11_looks_140 rfl ?_
                              refine m_getR (kt := (20, 48, 5)) (by decide) dX11_looks_141 f_X11_20 hT rfl (Nat.succ_ne_zero _) (fun q_141 h_141 => ?_)
                              refine e_iload_n dX11_looks_144 rfl ?_
                              refine e_aload_n dX11_looks_145 rfl ?_
                              refine e_iload_n dX11_looks_146 rfl ?_
                              refine e_bipush dX11_looks_147 (by decide) ?_
                              refine e_irem dX11_looks_149 ⟨by omega, by omega⟩ ⟨by omega, by omega⟩ ?_
                              refine e_iload_n dX11_looks_150 rfl ?_
                              refine e_bipush dX11_looks_151 (by decide) ?_
                              refine e_idiv dX11_looks_153 ⟨by omega, by omega⟩ ⟨by omega, by omega⟩ ?_
                              refine e_aload_n dX11_looks_154 rfl ?_
                              refine m_getR (kt := (21, 48, 3)) (by decide) dX11_looks_155 f_X11_13 hT rfl (Nat.succ_ne_zero _) (fun q_155 h_155 => ?_)
                              refine e_iload_n dX11_looks_158 rfl ?_
                              refine m_lald (by decide) dX11_looks_159 h_155 (by omega) (by omega) ?_
                              simp only [makesF_3, makesF_4, cflF_2, cflF_3, cflF_4, cflF_5, cflF_16, q_us_ap, editsF_3, Int.reduceEq, Int.reduceNeg, false_and, and_false, and_self, if_true, if_false, true_and, and_true, ite_self]
                              have g_159 := rg_3 hW p (by omega) (by omega)
                              refine e_aload_n dX11_looks_160 rfl ?_
                              refine m_getR (kt := (20, 48, 4)) (by decide) dX11_looks_161 f_X11_17 hT rfl (Nat.succ_ne_zero _) (fun q_161 h_161 => ?_)
                              refine e_iload_n dX11_looks_164 rfl ?_
                              refine m_iald (by decide) dX11_looks_165 h_161 (by omega) (by omega) ?_
                              simp only [makesF_3, makesF_4, cflF_2, cflF_3, cflF_4, cflF_5, cflF_16, q_us_ap, editsF_3, Int.reduceEq, Int.reduceNeg, false_and, and_false, and_self, if_true, if_false, true_and, and_true, ite_self]
                              have g_165 := rg_4 hW p (by omega) (by omega)
                              refine e_cV (as := [_, _, _, _]) (ci := 11) dX11_looks_166 k_X11_makes l_X11_176 i_X11_makes v_X11_makes hT rfl (by decide) ⟨_, _, rfl⟩ rfl rfl rfl rfl (Nat.le_of_ble_eq_true rfl) ⟨by decide, by decide⟩ (Nat.le_of_ble_eq_true rfl) (by decide) (m_makes hT hWc hv ⟨by omega, by omega⟩ ⟨by omega, by omega⟩ hg3 hg4) ?_
                              rw [show cflF M p lat 50 16 = M 50 16 from rfl]
                              refine e_iconst dX11_looks_169 ?_
                              refine e_iadd dX11_looks_170 ?_
                              refine m_iast (by decide) dX11_looks_171 h_141 (by omega) (by omega) ⟨by omega, by omega⟩ ?_
                              refine e_iconst dX11_looks_172 ?_
                              exact e_iret dX11_looks_173 (Or.inl rfl) (e_ok (by first | rw [el] | (rw [el]; congr 2; omega)) (by rw [el]) rfl)
                  · exact absurd c_101 (by decide)
          · exfalso; omega
      · by_cases ha : M 2 p = 0
        · have el : look2 M p lat = (0, becomesF (cflF M p lat) p lat) := by
            unfold look2; rw [if_neg h0]; rw [if_neg (fun h => h.elim (fun h => hs h.2) (fun h => h.1 ha)), if_pos ha]
          have hcl : LE (cflF M p lat) (look2 M p lat).2 := by rw [el]; exact LE.becomes _ _ _
          have hcc := hcl.ct hC
          have hWc := hW.cfl hcc.2.1
          have hg37b : M 50 37 + (if okP M p lat then 0 else 1) ≤ 1000000 := hcc.2.1
          have hsum : M 50 37 + 1 ≤ 1000001 := by omega
          rw [if_neg (fun h => hs h.2)] at hg37b
          refine e_aload_n dX11_looks_41 rfl ?_
          refine e_iload_n dX11_looks_42 rfl ?_
          refine e_iload_n dX11_looks_43 rfl ?_
          refine e_cV (as := [_, _]) (ci := 11) dX11_looks_44 k_X11_may l_X11_187 i_X11_may v_X11_may hT rfl (by decide) ⟨_, _, rfl⟩ rfl rfl rfl rfl (Nat.le_of_ble_eq_true rfl) ⟨by decide, by decide⟩ (Nat.le_of_ble_eq_true rfl) (by decide) (m_may hT hW ⟨by omega, by omega⟩ ⟨by omega, by omega⟩) ?_
          rw [bi_t hm]
          refine e_istore_n (ls2 := [_, _, _, _, _, _]) dX11_looks_47 (Nat.le_of_ble_eq_true rfl) rfl ?_
          refine e_iload_n dX11_looks_48 rfl ?_
          refine e_aload_n dX11_looks_49 rfl ?_
          refine m_getR (kt := (20, 48, 5)) (by decide) dX11_looks_50 f_X11_20 hT rfl (Nat.succ_ne_zero _) (fun q_50 h_50 => ?_)
          refine e_iload_n dX11_looks_53 rfl ?_
          refine m_iaw (by decide) (rg_5 hW) dX11_looks_54 h_50 (by omega) (by omega) (fun g_54 => ?_)
          refine e_iconst dX11_looks_55 ?_
          refine e_isub dX11_looks_56 ?_
          refine e_icmp_ne (tgt := 64) dX11_looks_57 (by decide) ⟨by omega, by omega⟩ ⟨by omega, by omega⟩ (fun c_57 => ?_) (fun c_57 => ?_)
          · refine e_iconst dX11_looks_64 ?_
            refine e_istore (ls2 := [_, _, _, _, _, _]) dX11_looks_65 (Nat.le_of_ble_eq_true rfl) rfl ?_
            refine e_iload_n dX11_looks_67 rfl ?_
            refine e_iconst dX11_looks_68 ?_
            refine e_icmp_eq (tgt := 87) dX11_looks_69 (by decide) ⟨by omega, by omega⟩ ⟨by omega, by omega⟩ (fun c_69 => ?_) (fun c_69 => ?_)
            · refine e_iconst dX11_looks_87 ?_
              refine e_istore (ls2 := [_, _, _, _, _, _]) dX11_looks_88 (Nat.le_of_ble_eq_true rfl) rfl ?_
              refine e_aload_n dX11_looks_90 rfl ?_
              refine e_dup dX11_looks_91 rfl ?_
              refine m_getI (by decide) dX11_looks_92 f_X11_190 (Or.inl rfl) hT ?_
              have g_92 := rs_37 hW
              refine e_iload_n dX11_looks_95 rfl ?_
              refine e_if_eq (tgt := 108) dX11_looks_96 (by decide) ⟨by decide, by decide⟩ (fun c_96 => ?_) (fun c_96 => ?_)
              · exact absurd c_96 (by decide)
              · refine e_iload dX11_looks_99 rfl ?_
                refine e_if_eq (tgt := 108) dX11_looks_101 (by decide) ⟨by decide, by decide⟩ (fun c_101 => ?_) (fun c_101 => ?_)
                · refine e_iconst dX11_looks_108 ?_
                  refine e_iadd dX11_looks_109 ?_
                  refine m_putI (by decide) dX11_looks_110 f_X11_190 rfl hT ⟨by omega, by omega⟩ ?_
                  rw [show q_us M 50 37 (M 50 37 + 1) = cflF M p lat from by unfold cflF; rw [if_neg (fun h => hs h.2)]]
                  refine e_iload_n dX11_looks_113 rfl ?_
                  refine e_if_eq (tgt := 122) dX11_looks_114 (by decide) ⟨by decide, by decide⟩ (fun c_114 => ?_) (fun c_114 => ?_)
                  · exact absurd c_114 (by decide)
                  · refine e_iload dX11_looks_117 rfl ?_
                    refine e_if_ne (tgt := 140) dX11_looks_119 (by decide) ⟨by decide, by decide⟩ (fun c_119 => ?_) (fun c_119 => ?_)
                    · exact absurd c_119 (by decide)
                    · refine e_aload_n dX11_looks_122 rfl ?_
                      refine m_getR (kt := (20, 48, 2)) (by decide) dX11_looks_123 f_X11_7 hT rfl (Nat.succ_ne_zero _) (fun q_123 h_123 => ?_)
                      refine e_iload_n dX11_looks_126 rfl ?_
                      refine m_iald (by decide) dX11_looks_127 h_123 (by omega) (by omega) ?_
                      simp only [makesF_3, makesF_4, cflF_2, cflF_3, cflF_4, cflF_5, cflF_16, q_us_ap, editsF_3, Int.reduceEq, Int.reduceNeg, false_and, and_false, and_self, if_true, if_false, true_and, and_true, ite_self]
                      have g_127 := rg_2 hW p (by omega) (by omega)
                      refine e_if_eq (tgt := 174) dX11_looks_128 (by decide) ⟨by omega, by omega⟩ (fun c_128 => ?_) (fun c_128 => ?_)
                      · refine e_aload_n dX11_looks_174 rfl ?_
                        refine m_getR (kt := (20, 48, 2)) (by decide) dX11_looks_175 f_X11_7 hT rfl (Nat.succ_ne_zero _) (fun q_175 h_175 => ?_)
                        refine e_iload_n dX11_looks_178 rfl ?_
                        refine m_iald (by decide) dX11_looks_179 h_175 (by omega) (by omega) ?_
                        simp only [makesF_3, makesF_4, cflF_2, cflF_3, cflF_4, cflF_5, cflF_16, q_us_ap, editsF_3, Int.reduceEq, Int.reduceNeg, false_and, and_false, and_self, if_true, if_false, true_and, and_true, ite_self]
                        have g_179 := rg_2 hW p (by omega) (by omega)
                        refine e_if_ne (tgt := 191) dX11_looks_180 (by decide) ⟨by omega, by omega⟩ (fun c_180 => ?_) (fun c_180 => ?_)
                        · exfalso; omega
                        · refine e_aload_n dX11_looks_183 rfl ?_
                          refine e_iload_n dX11_looks_184 rfl ?_
                          refine e_iload_n dX11_looks_185 rfl ?_
                          refine e_cV (as := [_, _]) (ci := 11) dX11_looks_186 k_X11_becomes l_X11_180 i_X11_becomes v_X11_becomes hT rfl (by decide) ⟨_, _, rfl⟩ rfl rfl rfl rfl (Nat.le_of_ble_eq_true rfl) ⟨by decide, by decide⟩ (Nat.le_of_ble_eq_true rfl) (by decide) (m_becomes hT hWc hp hl) ?_
                          refine e_iconst dX11_looks_189 ?_
                          exact e_iret dX11_looks_190 (Or.inl rfl) (e_ok (by first | rw [el] | (rw [el]; congr 2; omega)) (by rw [el]) rfl)
                      · exfalso; omega
                · exact absurd c_101 (by decide)
            · refine e_aload_n dX11_looks_72 rfl ?_
              refine m_getR (kt := (21, 120, 21)) (by decide) dX11_looks_73 f_X11_56 hT rfl (Nat.succ_ne_zero _) (fun q_73 h_73 => ?_)
              refine e_iload_n dX11_looks_76 rfl ?_
              refine m_law (by decide) (rg_21 hW) dX11_looks_77 h_73 (by omega) (by omega) (fun g_77 => ?_)
              refine e_lconst (z := 0) dX11_looks_78 rfl ?_
              refine e_lcmp dX11_looks_79 ⟨by omega, by omega⟩ ⟨by omega, by omega⟩ ?_
              refine e_if_ne (tgt := 87) dX11_looks_80 (by decide) (q_cmp_iI _ _) (fun c_80 => ?_) (fun c_80 => ?_)
              · rw [q_cmp_eq] at c_80
                refine e_iconst dX11_looks_87 ?_
                refine e_istore (ls2 := [_, _, _, _, _, _]) dX11_looks_88 (Nat.le_of_ble_eq_true rfl) rfl ?_
                refine e_aload_n dX11_looks_90 rfl ?_
                refine e_dup dX11_looks_91 rfl ?_
                refine m_getI (by decide) dX11_looks_92 f_X11_190 (Or.inl rfl) hT ?_
                have g_92 := rs_37 hW
                refine e_iload_n dX11_looks_95 rfl ?_
                refine e_if_eq (tgt := 108) dX11_looks_96 (by decide) ⟨by decide, by decide⟩ (fun c_96 => ?_) (fun c_96 => ?_)
                · exact absurd c_96 (by decide)
                · refine e_iload dX11_looks_99 rfl ?_
                  refine e_if_eq (tgt := 108) dX11_looks_101 (by decide) ⟨by decide, by decide⟩ (fun c_101 => ?_) (fun c_101 => ?_)
                  · refine e_iconst dX11_looks_108 ?_
                    refine e_iadd dX11_looks_109 ?_
                    refine m_putI (by decide) dX11_looks_110 f_X11_190 rfl hT ⟨by omega, by omega⟩ ?_
                    rw [show q_us M 50 37 (M 50 37 + 1) = cflF M p lat from by unfold cflF; rw [if_neg (fun h => hs h.2)]]
                    refine e_iload_n dX11_looks_113 rfl ?_
                    refine e_if_eq (tgt := 122) dX11_looks_114 (by decide) ⟨by decide, by decide⟩ (fun c_114 => ?_) (fun c_114 => ?_)
                    · exact absurd c_114 (by decide)
                    · refine e_iload dX11_looks_117 rfl ?_
                      refine e_if_ne (tgt := 140) dX11_looks_119 (by decide) ⟨by decide, by decide⟩ (fun c_119 => ?_) (fun c_119 => ?_)
                      · exact absurd c_119 (by decide)
                      · refine e_aload_n dX11_looks_122 rfl ?_
                        refine m_getR (kt := (20, 48, 2)) (by decide) dX11_looks_123 f_X11_7 hT rfl (Nat.succ_ne_zero _) (fun q_123 h_123 => ?_)
                        refine e_iload_n dX11_looks_126 rfl ?_
                        refine m_iald (by decide) dX11_looks_127 h_123 (by omega) (by omega) ?_
                        simp only [makesF_3, makesF_4, cflF_2, cflF_3, cflF_4, cflF_5, cflF_16, q_us_ap, editsF_3, Int.reduceEq, Int.reduceNeg, false_and, and_false, and_self, if_true, if_false, true_and, and_true, ite_self]
                        have g_127 := rg_2 hW p (by omega) (by omega)
                        refine e_if_eq (tgt := 174) dX11_looks_128 (by decide) ⟨by omega, by omega⟩ (fun c_128 => ?_) (fun c_128 => ?_)
                        · refine e_aload_n dX11_looks_174 rfl ?_
                          refine m_getR (kt := (20, 48, 2)) (by decide) dX11_looks_175 f_X11_7 hT rfl (Nat.succ_ne_zero _) (fun q_175 h_175 => ?_)
                          refine e_iload_n dX11_looks_178 rfl ?_
                          refine m_iald (by decide) dX11_looks_179 h_175 (by omega) (by omega) ?_
                          simp only [makesF_3, makesF_4, cflF_2, cflF_3, cflF_4, cflF_5, cflF_16, q_us_ap, editsF_3, Int.reduceEq, Int.reduceNeg, false_and, and_false, and_self, if_true, if_false, true_and, and_true, ite_self]
                          have g_179 := rg_2 hW p (by omega) (by omega)
                          refine e_if_ne (tgt := 191) dX11_looks_180 (by decide) ⟨by omega, by omega⟩ (fun c_180 => ?_) (fun c_180 => ?_)
                          · exfalso; omega
                          · refine e_aload_n dX11_looks_183 rfl ?_
                            refine e_iload_n dX11_looks_184 rfl ?_
                            refine e_iload_n dX11_looks_185 rfl ?_
                            refine e_cV (as := [_, _]) (ci := 11) dX11_looks_186 k_X11_becomes l_X11_180 i_X11_becomes v_X11_becomes hT rfl (by decide) ⟨_, _, rfl⟩ rfl rfl rfl rfl (Nat.le_of_ble_eq_true rfl) ⟨by decide, by decide⟩ (Nat.le_of_ble_eq_true rfl) (by decide) (m_becomes hT hWc hp hl) ?_
                            refine e_iconst dX11_looks_189 ?_
                            exact e_iret dX11_looks_190 (Or.inl rfl) (e_ok (by first | rw [el] | (rw [el]; congr 2; omega)) (by rw [el]) rfl)
                        · exfalso; omega
                  · exact absurd c_101 (by decide)
              · rw [q_cmp_eq] at c_80
                exfalso; omega
          · exfalso; omega
        · have el : look2 M p lat = keepsF (cflF M p lat) p lat := by
            unfold look2; rw [if_neg h0]; rw [if_neg (fun h => h.elim (fun h => hs h.2) (fun h => hd h.2.1)), if_neg ha]
          have hcl : LE (cflF M p lat) (look2 M p lat).2 := by rw [el]; exact LE.keeps _ _ _
          have hcc := hcl.ct hC
          have hWc := hW.cfl hcc.2.1
          have hg37b : M 50 37 + (if okP M p lat then 0 else 1) ≤ 1000000 := hcc.2.1
          have hsum : M 50 37 + 1 ≤ 1000001 := by omega
          rw [if_neg (fun h => hs h.2)] at hg37b
          refine e_aload_n dX11_looks_41 rfl ?_
          refine e_iload_n dX11_looks_42 rfl ?_
          refine e_iload_n dX11_looks_43 rfl ?_
          refine e_cV (as := [_, _]) (ci := 11) dX11_looks_44 k_X11_may l_X11_187 i_X11_may v_X11_may hT rfl (by decide) ⟨_, _, rfl⟩ rfl rfl rfl rfl (Nat.le_of_ble_eq_true rfl) ⟨by decide, by decide⟩ (Nat.le_of_ble_eq_true rfl) (by decide) (m_may hT hW ⟨by omega, by omega⟩ ⟨by omega, by omega⟩) ?_
          rw [bi_t hm]
          refine e_istore_n (ls2 := [_, _, _, _, _, _]) dX11_looks_47 (Nat.le_of_ble_eq_true rfl) rfl ?_
          refine e_iload_n dX11_looks_48 rfl ?_
          refine e_aload_n dX11_looks_49 rfl ?_
          refine m_getR (kt := (20, 48, 5)) (by decide) dX11_looks_50 f_X11_20 hT rfl (Nat.succ_ne_zero _) (fun q_50 h_50 => ?_)
          refine e_iload_n dX11_looks_53 rfl ?_
          refine m_iaw (by decide) (rg_5 hW) dX11_looks_54 h_50 (by omega) (by omega) (fun g_54 => ?_)
          refine e_iconst dX11_looks_55 ?_
          refine e_isub dX11_looks_56 ?_
          refine e_icmp_ne (tgt := 64) dX11_looks_57 (by decide) ⟨by omega, by omega⟩ ⟨by omega, by omega⟩ (fun c_57 => ?_) (fun c_57 => ?_)
          · refine e_iconst dX11_looks_64 ?_
            refine e_istore (ls2 := [_, _, _, _, _, _]) dX11_looks_65 (Nat.le_of_ble_eq_true rfl) rfl ?_
            refine e_iload_n dX11_looks_67 rfl ?_
            refine e_iconst dX11_looks_68 ?_
            refine e_icmp_eq (tgt := 87) dX11_looks_69 (by decide) ⟨by omega, by omega⟩ ⟨by omega, by omega⟩ (fun c_69 => ?_) (fun c_69 => ?_)
            · refine e_iconst dX11_looks_87 ?_
              refine e_istore (ls2 := [_, _, _, _, _, _]) dX11_looks_88 (Nat.le_of_ble_eq_true rfl) rfl ?_
              refine e_aload_n dX11_looks_90 rfl ?_
              refine e_dup dX11_looks_91 rfl ?_
              refine m_getI (by decide) dX11_looks_92 f_X11_190 (Or.inl rfl) hT ?_
              have g_92 := rs_37 hW
              refine e_iload_n dX11_looks_95 rfl ?_
              refine e_if_eq (tgt := 108) dX11_looks_96 (by decide) ⟨by decide, by decide⟩ (fun c_96 => ?_) (fun c_96 => ?_)
              · exact absurd c_96 (by decide)
              · refine e_iload dX11_looks_99 rfl ?_
                refine e_if_eq (tgt := 108) dX11_looks_101 (by decide) ⟨by decide, by decide⟩ (fun c_101 => ?_) (fun c_101 => ?_)
                · refine e_iconst dX11_looks_108 ?_
                  refine e_iadd dX11_looks_109 ?_
                  refine m_putI (by decide) dX11_looks_110 f_X11_190 rfl hT ⟨by omega, by omega⟩ ?_
                  rw [show q_us M 50 37 (M 50 37 + 1) = cflF M p lat from by unfold cflF; rw [if_neg (fun h => hs h.2)]]
                  refine e_iload_n dX11_looks_113 rfl ?_
                  refine e_if_eq (tgt := 122) dX11_looks_114 (by decide) ⟨by decide, by decide⟩ (fun c_114 => ?_) (fun c_114 => ?_)
                  · exact absurd c_114 (by decide)
                  · refine e_iload dX11_looks_117 rfl ?_
                    refine e_if_ne (tgt := 140) dX11_looks_119 (by decide) ⟨by decide, by decide⟩ (fun c_119 => ?_) (fun c_119 => ?_)
                    · exact absurd c_119 (by decide)
                    · refine e_aload_n dX11_looks_122 rfl ?_
                      refine m_getR (kt := (20, 48, 2)) (by decide) dX11_looks_123 f_X11_7 hT rfl (Nat.succ_ne_zero _) (fun q_123 h_123 => ?_)
                      refine e_iload_n dX11_looks_126 rfl ?_
                      refine m_iald (by decide) dX11_looks_127 h_123 (by omega) (by omega) ?_
                      simp only [makesF_3, makesF_4, cflF_2, cflF_3, cflF_4, cflF_5, cflF_16, q_us_ap, editsF_3, Int.reduceEq, Int.reduceNeg, false_and, and_false, and_self, if_true, if_false, true_and, and_true, ite_self]
                      have g_127 := rg_2 hW p (by omega) (by omega)
                      refine e_if_eq (tgt := 174) dX11_looks_128 (by decide) ⟨by omega, by omega⟩ (fun c_128 => ?_) (fun c_128 => ?_)
                      · exfalso; omega
                      · refine e_iload dX11_looks_131 rfl ?_
                        refine e_if_eq (tgt := 174) dX11_looks_133 (by decide) ⟨by decide, by decide⟩ (fun c_133 => ?_) (fun c_133 => ?_)
                        · refine e_aload_n dX11_looks_174 rfl ?_
                          refine m_getR (kt := (20, 48, 2)) (by decide) dX11_looks_175 f_X11_7 hT rfl (Nat.succ_ne_zero _) (fun q_175 h_175 => ?_)
                          refine e_iload_n dX11_looks_178 rfl ?_
                          refine m_iald (by decide) dX11_looks_179 h_175 (by omega) (by omega) ?_
                          simp only [makesF_3, makesF_4, cflF_2, cflF_3, cflF_4, cflF_5, cflF_16, q_us_ap, editsF_3, Int.reduceEq, Int.reduceNeg, false_and, and_false, and_self, if_true, if_false, true_and, and_true, ite_self]
                          have g_179 := rg_2 hW p (by omega) (by omega)
                          refine e_if_ne (tgt := 191) dX11_looks_180 (by decide) ⟨by omega, by omega⟩ (fun c_180 => ?_) (fun c_180 => ?_)
                          · refine e_aload_n dX11_looks_191 rfl ?_
                            refine e_iload_n dX11_looks_192 rfl ?_
                            refine e_iload_n dX11_looks_193 rfl ?_
                            refine e_cV (as := [_, _]) (ci := 11) dX11_looks_194 k_X11_keepsBoth l_X11_193 i_X11_keepsBoth v_X11_keepsBoth hT rfl (by decide) ⟨_, _, rfl⟩ rfl rfl rfl rfl (Nat.le_of_ble_eq_true rfl) ⟨by decide, by decide⟩ (Nat.le_of_ble_eq_true rfl) (by decide) (m_keepsBoth hT hWc hp hl (by rw [el] at hC; exact hC)) ?_
                            rw [← el]
                            have hl1 := look2_1 M p lat
                            refine e_if_eq (tgt := 204) dX11_looks_197 (by decide) ⟨by omega, by omega⟩ (fun c_197 => ?_) (fun c_197 => ?_)
                            · refine e_iconst dX11_looks_204 ?_
                              exact e_iret dX11_looks_205 (Or.inl rfl) (e_ok (by congr 2; omega) rfl rfl)
                            · refine e_iconst dX11_looks_200 ?_
                              refine e_goto (tgt := 205) dX11_looks_201 (by decide) ?_
                              exact e_iret dX11_looks_205 (Or.inl rfl) (e_ok (by congr 2; omega) rfl rfl)
                          · exfalso; omega
                        · exact absurd c_133 (by decide)
                · exact absurd c_101 (by decide)
            · refine e_aload_n dX11_looks_72 rfl ?_
              refine m_getR (kt := (21, 120, 21)) (by decide) dX11_looks_73 f_X11_56 hT rfl (Nat.succ_ne_zero _) (fun q_73 h_73 => ?_)
              refine e_iload_n dX11_looks_76 rfl ?_
              refine m_law (by decide) (rg_21 hW) dX11_looks_77 h_73 (by omega) (by omega) (fun g_77 => ?_)
              refine e_lconst (z := 0) dX11_looks_78 rfl ?_
              refine e_lcmp dX11_looks_79 ⟨by omega, by omega⟩ ⟨by omega, by omega⟩ ?_
              refine e_if_ne (tgt := 87) dX11_looks_80 (by decide) (q_cmp_iI _ _) (fun c_80 => ?_) (fun c_80 => ?_)
              · rw [q_cmp_eq] at c_80
                refine e_iconst dX11_looks_87 ?_
                refine e_istore (ls2 := [_, _, _, _, _, _]) dX11_looks_88 (Nat.le_of_ble_eq_true rfl) rfl ?_
                refine e_aload_n dX11_looks_90 rfl ?_
                refine e_dup dX11_looks_91 rfl ?_
                refine m_getI (by decide) dX11_looks_92 f_X11_190 (Or.inl rfl) hT ?_
                have g_92 := rs_37 hW
                refine e_iload_n dX11_looks_95 rfl ?_
                refine e_if_eq (tgt := 108) dX11_looks_96 (by decide) ⟨by decide, by decide⟩ (fun c_96 => ?_) (fun c_96 => ?_)
                · exact absurd c_96 (by decide)
                · refine e_iload dX11_looks_99 rfl ?_
                  refine e_if_eq (tgt := 108) dX11_looks_101 (by decide) ⟨by decide, by decide⟩ (fun c_101 => ?_) (fun c_101 => ?_)
                  · refine e_iconst dX11_looks_108 ?_
                    refine e_iadd dX11_looks_109 ?_
                    refine m_putI (by decide) dX11_looks_110 f_X11_190 rfl hT ⟨by omega, by omega⟩ ?_
                    rw [show q_us M 50 37 (M 50 37 + 1) = cflF M p lat from by unfold cflF; rw [if_neg (fun h => hs h.2)]]
                    refine e_iload_n dX11_looks_113 rfl ?_
                    refine e_if_eq (tgt := 122) dX11_looks_114 (by decide) ⟨by decide, by decide⟩ (fun c_114 => ?_) (fun c_114 => ?_)
                    · exact absurd c_114 (by decide)
                    · refine e_iload dX11_looks_117 rfl ?_
                      refine e_if_ne (tgt := 140) dX11_looks_119 (by decide) ⟨by decide, by decide⟩ (fun c_119 => ?_) (fun c_119 => ?_)
                      · exact absurd c_119 (by decide)
                      · refine e_aload_n dX11_looks_122 rfl ?_
                        refine m_getR (kt := (20, 48, 2)) (by decide) dX11_looks_123 f_X11_7 hT rfl (Nat.succ_ne_zero _) (fun q_123 h_123 => ?_)
                        refine e_iload_n dX11_looks_126 rfl ?_
                        refine m_iald (by decide) dX11_looks_127 h_123 (by omega) (by omega) ?_
                        simp only [makesF_3, makesF_4, cflF_2, cflF_3, cflF_4, cflF_5, cflF_16, q_us_ap, editsF_3, Int.reduceEq, Int.reduceNeg, false_and, and_false, and_self, if_true, if_false, true_and, and_true, ite_self]
                        have g_127 := rg_2 hW p (by omega) (by omega)
                        refine e_if_eq (tgt := 174) dX11_looks_128 (by decide) ⟨by omega, by omega⟩ (fun c_128 => ?_) (fun c_128 => ?_)
                        · exfalso; omega
                        · refine e_iload dX11_looks_131 rfl ?_
                          refine e_if_eq (tgt := 174) dX11_looks_133 (by decide) ⟨by decide, by decide⟩ (fun c_133 => ?_) (fun c_133 => ?_)
                          · refine e_aload_n dX11_looks_174 rfl ?_
                            refine m_getR (kt := (20, 48, 2)) (by decide) dX11_looks_175 f_X11_7 hT rfl (Nat.succ_ne_zero _) (fun q_175 h_175 => ?_)
                            refine e_iload_n dX11_looks_178 rfl ?_
                            refine m_iald (by decide) dX11_looks_179 h_175 (by omega) (by omega) ?_
                            simp only [makesF_3, makesF_4, cflF_2, cflF_3, cflF_4, cflF_5, cflF_16, q_us_ap, editsF_3, Int.reduceEq, Int.reduceNeg, false_and, and_false, and_self, if_true, if_false, true_and, and_true, ite_self]
                            have g_179 := rg_2 hW p (by omega) (by omega)
                            refine e_if_ne (tgt := 191) dX11_looks_180 (by decide) ⟨by omega, by omega⟩ (fun c_180 => ?_) (fun c_180 => ?_)
                            · refine e_aload_n dX11_looks_191 rfl ?_
                              refine e_iload_n dX11_looks_192 rfl ?_
                              refine e_iload_n dX11_looks_193 rfl ?_
                              refine e_cV (as := [_, _]) (ci := 11) dX11_looks_194 k_X11_keepsBoth l_X11_193 i_X11_keepsBoth v_X11_keepsBoth hT rfl (by decide) ⟨_, _, rfl⟩ rfl rfl rfl rfl (Nat.le_of_ble_eq_true rfl) ⟨by decide, by decide⟩ (Nat.le_of_ble_eq_true rfl) (by decide) (m_keepsBoth hT hWc hp hl (by rw [el] at hC; exact hC)) ?_
                              rw [← el]
                              have hl1 := look2_1 M p lat
                              refine e_if_eq (tgt := 204) dX11_looks_197 (by decide) ⟨by omega, by omega⟩ (fun c_197 => ?_) (fun c_197 => ?_)
                              · refine e_iconst dX11_looks_204 ?_
                                exact e_iret dX11_looks_205 (Or.inl rfl) (e_ok (by congr 2; omega) rfl rfl)
                              · refine e_iconst dX11_looks_200 ?_
                                refine e_goto (tgt := 205) dX11_looks_201 (by decide) ?_
                                exact e_iret dX11_looks_205 (Or.inl rfl) (e_ok (by congr 2; omega) rfl rfl)
                            · exfalso; omega
                          · exact absurd c_133 (by decide)
                  · exact absurd c_101 (by decide)
              · rw [q_cmp_eq] at c_80
                exfalso; omega
          · exfalso; omega
  · by_cases ha : M 2 p = 0
    · have el : look2 M p lat = (0, becomesF (cflF M p lat) p lat) := by
        unfold look2; rw [if_neg h0]; rw [if_neg (fun h => h.elim (fun h => hm h.1) (fun h => hm h.2.2)), if_pos ha]
      have hcl : LE (cflF M p lat) (look2 M p lat).2 := by rw [el]; exact LE.becomes _ _ _
      have hcc := hcl.ct hC
      have hWc := hW.cfl hcc.2.1
      have hg37b : M 50 37 + (if okP M p lat then 0 else 1) ≤ 1000000 := hcc.2.1
      have hsum : M 50 37 + 1 ≤ 1000001 := by omega
      rw [if_neg (fun h => hm h.1)] at hg37b
      refine e_aload_n dX11_looks_41 rfl ?_
      refine e_iload_n dX11_looks_42 rfl ?_
      refine e_iload_n dX11_looks_43 rfl ?_
      refine e_cV (as := [_, _]) (ci := 11) dX11_looks_44 k_X11_may l_X11_187 i_X11_may v_X11_may hT rfl (by decide) ⟨_, _, rfl⟩ rfl rfl rfl rfl (Nat.le_of_ble_eq_true rfl) ⟨by decide, by decide⟩ (Nat.le_of_ble_eq_true rfl) (by decide) (m_may hT hW ⟨by omega, by omega⟩ ⟨by omega, by omega⟩) ?_
      rw [bi_f hm]
      refine e_istore_n (ls2 := [_, _, _, _, _, _]) dX11_looks_47 (Nat.le_of_ble_eq_true rfl) rfl ?_
      refine e_iload_n dX11_looks_48 rfl ?_
      refine e_aload_n dX11_looks_49 rfl ?_
      refine m_getR (kt := (20, 48, 5)) (by decide) dX11_looks_50 f_X11_20 hT rfl (Nat.succ_ne_zero _) (fun q_50 h_50 => ?_)
      refine e_iload_n dX11_looks_53 rfl ?_
      refine m_iaw (by decide) (rg_5 hW) dX11_looks_54 h_50 (by omega) (by omega) (fun g_54 => ?_)
      refine e_iconst dX11_looks_55 ?_
      refine e_isub dX11_looks_56 ?_
      refine e_icmp_ne (tgt := 64) dX11_looks_57 (by decide) ⟨by omega, by omega⟩ ⟨by omega, by omega⟩ (fun c_57 => ?_) (fun c_57 => ?_)
      · refine e_iconst dX11_looks_64 ?_
        refine e_istore (ls2 := [_, _, _, _, _, _]) dX11_looks_65 (Nat.le_of_ble_eq_true rfl) rfl ?_
        refine e_iload_n dX11_looks_67 rfl ?_
        refine e_iconst dX11_looks_68 ?_
        refine e_icmp_eq (tgt := 87) dX11_looks_69 (by decide) ⟨by omega, by omega⟩ ⟨by omega, by omega⟩ (fun c_69 => ?_) (fun c_69 => ?_)
        · refine e_iconst dX11_looks_87 ?_
          refine e_istore (ls2 := [_, _, _, _, _, _]) dX11_looks_88 (Nat.le_of_ble_eq_true rfl) rfl ?_
          refine e_aload_n dX11_looks_90 rfl ?_
          refine e_dup dX11_looks_91 rfl ?_
          refine m_getI (by decide) dX11_looks_92 f_X11_190 (Or.inl rfl) hT ?_
          have g_92 := rs_37 hW
          refine e_iload_n dX11_looks_95 rfl ?_
          refine e_if_eq (tgt := 108) dX11_looks_96 (by decide) ⟨by decide, by decide⟩ (fun c_96 => ?_) (fun c_96 => ?_)
          · refine e_iconst dX11_looks_108 ?_
            refine e_iadd dX11_looks_109 ?_
            refine m_putI (by decide) dX11_looks_110 f_X11_190 rfl hT ⟨by omega, by omega⟩ ?_
            rw [show q_us M 50 37 (M 50 37 + 1) = cflF M p lat from by unfold cflF; rw [if_neg (fun h => hm h.1)]]
            refine e_iload_n dX11_looks_113 rfl ?_
            refine e_if_eq (tgt := 122) dX11_looks_114 (by decide) ⟨by decide, by decide⟩ (fun c_114 => ?_) (fun c_114 => ?_)
            · refine e_aload_n dX11_looks_122 rfl ?_
              refine m_getR (kt := (20, 48, 2)) (by decide) dX11_looks_123 f_X11_7 hT rfl (Nat.succ_ne_zero _) (fun q_123 h_123 => ?_)
              refine e_iload_n dX11_looks_126 rfl ?_
              refine m_iald (by decide) dX11_looks_127 h_123 (by omega) (by omega) ?_
              simp only [makesF_3, makesF_4, cflF_2, cflF_3, cflF_4, cflF_5, cflF_16, q_us_ap, editsF_3, Int.reduceEq, Int.reduceNeg, false_and, and_false, and_self, if_true, if_false, true_and, and_true, ite_self]
              have g_127 := rg_2 hW p (by omega) (by omega)
              refine e_if_eq (tgt := 174) dX11_looks_128 (by decide) ⟨by omega, by omega⟩ (fun c_128 => ?_) (fun c_128 => ?_)
              · refine e_aload_n dX11_looks_174 rfl ?_
                refine m_getR (kt := (20, 48, 2)) (by decide) dX11_looks_175 f_X11_7 hT rfl (Nat.succ_ne_zero _) (fun q_175 h_175 => ?_)
                refine e_iload_n dX11_looks_178 rfl ?_
                refine m_iald (by decide) dX11_looks_179 h_175 (by omega) (by omega) ?_
                simp only [makesF_3, makesF_4, cflF_2, cflF_3, cflF_4, cflF_5, cflF_16, q_us_ap, editsF_3, Int.reduceEq, Int.reduceNeg, false_and, and_false, and_self, if_true, if_false, true_and, and_true, ite_self]
                have g_179 := rg_2 hW p (by omega) (by omega)
                refine e_if_ne (tgt := 191) dX11_looks_180 (by decide) ⟨by omega, by omega⟩ (fun c_180 => ?_) (fun c_180 => ?_)
                · exfalso; omega
                · refine e_aload_n dX11_looks_183 rfl ?_
                  refine e_iload_n dX11_looks_184 rfl ?_
                  refine e_iload_n dX11_looks_185 rfl ?_
                  refine e_cV (as := [_, _]) (ci := 11) dX11_looks_186 k_X11_becomes l_X11_180 i_X11_becomes v_X11_becomes hT rfl (by decide) ⟨_, _, rfl⟩ rfl rfl rfl rfl (Nat.le_of_ble_eq_true rfl) ⟨by decide, by decide⟩ (Nat.le_of_ble_eq_true rfl) (by decide) (m_becomes hT hWc hp hl) ?_
                  refine e_iconst dX11_looks_189 ?_
                  exact e_iret dX11_looks_190 (Or.inl rfl) (e_ok (by first | rw [el] | (rw [el]; congr 2; omega)) (by rw [el]) rfl)
              · exfalso; omega
            · exact absurd c_114 (by decide)
          · exact absurd c_96 (by decide)
        · refine e_aload_n dX11_looks_72 rfl ?_
          refine m_getR (kt := (21, 120, 21)) (by decide) dX11_looks_73 f_X11_56 hT rfl (Nat.succ_ne_zero _) (fun q_73 h_73 => ?_)
          refine e_iload_n dX11_looks_76 rfl ?_
          refine m_law (by decide) (rg_21 hW) dX11_looks_77 h_73 (by omega) (by omega) (fun g_77 => ?_)
          refine e_lconst (z := 0) dX11_looks_78 rfl ?_
          refine e_lcmp dX11_looks_79 ⟨by omega, by omega⟩ ⟨by omega, by omega⟩ ?_
          refine e_if_ne (tgt := 87) dX11_looks_80 (by decide) (q_cmp_iI _ _) (fun c_80 => ?_) (fun c_80 => ?_)
          · rw [q_cmp_eq] at c_80
            refine e_iconst dX11_looks_87 ?_
            refine e_istore (ls2 := [_, _, _, _, _, _]) dX11_looks_88 (Nat.le_of_ble_eq_true rfl) rfl ?_
            refine e_aload_n dX11_looks_90 rfl ?_
            refine e_dup dX11_looks_91 rfl ?_
            refine m_getI (by decide) dX11_looks_92 f_X11_190 (Or.inl rfl) hT ?_
            have g_92 := rs_37 hW
            refine e_iload_n dX11_looks_95 rfl ?_
            refine e_if_eq (tgt := 108) dX11_looks_96 (by decide) ⟨by decide, by decide⟩ (fun c_96 => ?_) (fun c_96 => ?_)
            · refine e_iconst dX11_looks_108 ?_
              refine e_iadd dX11_looks_109 ?_
              refine m_putI (by decide) dX11_looks_110 f_X11_190 rfl hT ⟨by omega, by omega⟩ ?_
              rw [show q_us M 50 37 (M 50 37 + 1) = cflF M p lat from by unfold cflF; rw [if_neg (fun h => hm h.1)]]
              refine e_iload_n dX11_looks_113 rfl ?_
              refine e_if_eq (tgt := 122) dX11_looks_114 (by decide) ⟨by decide, by decide⟩ (fun c_114 => ?_) (fun c_114 => ?_)
              · refine e_aload_n dX11_looks_122 rfl ?_
                refine m_getR (kt := (20, 48, 2)) (by decide) dX11_looks_123 f_X11_7 hT rfl (Nat.succ_ne_zero _) (fun q_123 h_123 => ?_)
                refine e_iload_n dX11_looks_126 rfl ?_
                refine m_iald (by decide) dX11_looks_127 h_123 (by omega) (by omega) ?_
                simp only [makesF_3, makesF_4, cflF_2, cflF_3, cflF_4, cflF_5, cflF_16, q_us_ap, editsF_3, Int.reduceEq, Int.reduceNeg, false_and, and_false, and_self, if_true, if_false, true_and, and_true, ite_self]
                have g_127 := rg_2 hW p (by omega) (by omega)
                refine e_if_eq (tgt := 174) dX11_looks_128 (by decide) ⟨by omega, by omega⟩ (fun c_128 => ?_) (fun c_128 => ?_)
                · refine e_aload_n dX11_looks_174 rfl ?_
                  refine m_getR (kt := (20, 48, 2)) (by decide) dX11_looks_175 f_X11_7 hT rfl (Nat.succ_ne_zero _) (fun q_175 h_175 => ?_)
                  refine e_iload_n dX11_looks_178 rfl ?_
                  refine m_iald (by decide) dX11_looks_179 h_175 (by omega) (by omega) ?_
                  simp only [makesF_3, makesF_4, cflF_2, cflF_3, cflF_4, cflF_5, cflF_16, q_us_ap, editsF_3, Int.reduceEq, Int.reduceNeg, false_and, and_false, and_self, if_true, if_false, true_and, and_true, ite_self]
                  have g_179 := rg_2 hW p (by omega) (by omega)
                  refine e_if_ne (tgt := 191) dX11_looks_180 (by decide) ⟨by omega, by omega⟩ (fun c_180 => ?_) (fun c_180 => ?_)
                  · exfalso; omega
                  · refine e_aload_n dX11_looks_183 rfl ?_
                    refine e_iload_n dX11_looks_184 rfl ?_
                    refine e_iload_n dX11_looks_185 rfl ?_
                    refine e_cV (as := [_, _]) (ci := 11) dX11_looks_186 k_X11_becomes l_X11_180 i_X11_becomes v_X11_becomes hT rfl (by decide) ⟨_, _, rfl⟩ rfl rfl rfl rfl (Nat.le_of_ble_eq_true rfl) ⟨by decide, by decide⟩ (Nat.le_of_ble_eq_true rfl) (by decide) (m_becomes hT hWc hp hl) ?_
                    refine e_iconst dX11_looks_189 ?_
                    exact e_iret dX11_looks_190 (Or.inl rfl) (e_ok (by first | rw [el] | (rw [el]; congr 2; omega)) (by rw [el]) rfl)
                · exfalso; omega
              · exact absurd c_114 (by decide)
            · exact absurd c_96 (by decide)
          · rw [q_cmp_eq] at c_80
            refine e_iconst dX11_looks_83 ?_
            refine e_goto (tgt := 88) dX11_looks_84 (by decide) ?_
            refine e_istore (ls2 := [_, _, _, _, _, _]) dX11_looks_88 (Nat.le_of_ble_eq_true rfl) rfl ?_
            refine e_aload_n dX11_looks_90 rfl ?_
            refine e_dup dX11_looks_91 rfl ?_
            refine m_getI (by decide) dX11_looks_92 f_X11_190 (Or.inl rfl) hT ?_
            have g_92 := rs_37 hW
            refine e_iload_n dX11_looks_95 rfl ?_
            refine e_if_eq (tgt := 108) dX11_looks_96 (by decide) ⟨by decide, by decide⟩ (fun c_96 => ?_) (fun c_96 => ?_)
            · refine e_iconst dX11_looks_108 ?_
              refine e_iadd dX11_looks_109 ?_
              refine m_putI (by decide) dX11_looks_110 f_X11_190 rfl hT ⟨by omega, by omega⟩ ?_
              rw [show q_us M 50 37 (M 50 37 + 1) = cflF M p lat from by unfold cflF; rw [if_neg (fun h => hm h.1)]]
              refine e_iload_n dX11_looks_113 rfl ?_
              refine e_if_eq (tgt := 122) dX11_looks_114 (by decide) ⟨by decide, by decide⟩ (fun c_114 => ?_) (fun c_114 => ?_)
              · refine e_aload_n dX11_looks_122 rfl ?_
                refine m_getR (kt := (20, 48, 2)) (by decide) dX11_looks_123 f_X11_7 hT rfl (Nat.succ_ne_zero _) (fun q_123 h_123 => ?_)
                refine e_iload_n dX11_looks_126 rfl ?_
                refine m_iald (by decide) dX11_looks_127 h_123 (by omega) (by omega) ?_
                simp only [makesF_3, makesF_4, cflF_2, cflF_3, cflF_4, cflF_5, cflF_16, q_us_ap, editsF_3, Int.reduceEq, Int.reduceNeg, false_and, and_false, and_self, if_true, if_false, true_and, and_true, ite_self]
                have g_127 := rg_2 hW p (by omega) (by omega)
                refine e_if_eq (tgt := 174) dX11_looks_128 (by decide) ⟨by omega, by omega⟩ (fun c_128 => ?_) (fun c_128 => ?_)
                · refine e_aload_n dX11_looks_174 rfl ?_
                  refine m_getR (kt := (20, 48, 2)) (by decide) dX11_looks_175 f_X11_7 hT rfl (Nat.succ_ne_zero _) (fun q_175 h_175 => ?_)
                  refine e_iload_n dX11_looks_178 rfl ?_
                  refine m_iald (by decide) dX11_looks_179 h_175 (by omega) (by omega) ?_
                  simp only [makesF_3, makesF_4, cflF_2, cflF_3, cflF_4, cflF_5, cflF_16, q_us_ap, editsF_3, Int.reduceEq, Int.reduceNeg, false_and, and_false, and_self, if_true, if_false, true_and, and_true, ite_self]
                  have g_179 := rg_2 hW p (by omega) (by omega)
                  refine e_if_ne (tgt := 191) dX11_looks_180 (by decide) ⟨by omega, by omega⟩ (fun c_180 => ?_) (fun c_180 => ?_)
                  · exfalso; omega
                  · refine e_aload_n dX11_looks_183 rfl ?_
                    refine e_iload_n dX11_looks_184 rfl ?_
                    refine e_iload_n dX11_looks_185 rfl ?_
                    refine e_cV (as := [_, _]) (ci := 11) dX11_looks_186 k_X11_becomes l_X11_180 i_X11_becomes v_X11_becomes hT rfl (by decide) ⟨_, _, rfl⟩ rfl rfl rfl rfl (Nat.le_of_ble_eq_true rfl) ⟨by decide, by decide⟩ (Nat.le_of_ble_eq_true rfl) (by decide) (m_becomes hT hWc hp hl) ?_
                    refine e_iconst dX11_looks_189 ?_
                    exact e_iret dX11_looks_190 (Or.inl rfl) (e_ok (by first | rw [el] | (rw [el]; congr 2; omega)) (by rw [el]) rfl)
                · exfalso; omega
              · exact absurd c_114 (by decide)
            · exact absurd c_96 (by decide)
      · refine e_iconst dX11_looks_60 ?_
        refine e_goto (tgt := 65) dX11_looks_61 (by decide) ?_
        refine e_istore (ls2 := [_, _, _, _, _, _]) dX11_looks_65 (Nat.le_of_ble_eq_true rfl) rfl ?_
        refine e_iload_n dX11_looks_67 rfl ?_
        refine e_iconst dX11_looks_68 ?_
        refine e_icmp_eq (tgt := 87) dX11_looks_69 (by decide) ⟨by omega, by omega⟩ ⟨by omega, by omega⟩ (fun c_69 => ?_) (fun c_69 => ?_)
        · refine e_iconst dX11_looks_87 ?_
          refine e_istore (ls2 := [_, _, _, _, _, _]) dX11_looks_88 (Nat.le_of_ble_eq_true rfl) rfl ?_
          refine e_aload_n dX11_looks_90 rfl ?_
          refine e_dup dX11_looks_91 rfl ?_
          refine m_getI (by decide) dX11_looks_92 f_X11_190 (Or.inl rfl) hT ?_
          have g_92 := rs_37 hW
          refine e_iload_n dX11_looks_95 rfl ?_
          refine e_if_eq (tgt := 108) dX11_looks_96 (by decide) ⟨by decide, by decide⟩ (fun c_96 => ?_) (fun c_96 => ?_)
          · refine e_iconst dX11_looks_108 ?_
            refine e_iadd dX11_looks_109 ?_
            refine m_putI (by decide) dX11_looks_110 f_X11_190 rfl hT ⟨by omega, by omega⟩ ?_
            rw [show q_us M 50 37 (M 50 37 + 1) = cflF M p lat from by unfold cflF; rw [if_neg (fun h => hm h.1)]]
            refine e_iload_n dX11_looks_113 rfl ?_
            refine e_if_eq (tgt := 122) dX11_looks_114 (by decide) ⟨by decide, by decide⟩ (fun c_114 => ?_) (fun c_114 => ?_)
            · refine e_aload_n dX11_looks_122 rfl ?_
              refine m_getR (kt := (20, 48, 2)) (by decide) dX11_looks_123 f_X11_7 hT rfl (Nat.succ_ne_zero _) (fun q_123 h_123 => ?_)
              refine e_iload_n dX11_looks_126 rfl ?_
              refine m_iald (by decide) dX11_looks_127 h_123 (by omega) (by omega) ?_
              simp only [makesF_3, makesF_4, cflF_2, cflF_3, cflF_4, cflF_5, cflF_16, q_us_ap, editsF_3, Int.reduceEq, Int.reduceNeg, false_and, and_false, and_self, if_true, if_false, true_and, and_true, ite_self]
              have g_127 := rg_2 hW p (by omega) (by omega)
              refine e_if_eq (tgt := 174) dX11_looks_128 (by decide) ⟨by omega, by omega⟩ (fun c_128 => ?_) (fun c_128 => ?_)
              · refine e_aload_n dX11_looks_174 rfl ?_
                refine m_getR (kt := (20, 48, 2)) (by decide) dX11_looks_175 f_X11_7 hT rfl (Nat.succ_ne_zero _) (fun q_175 h_175 => ?_)
                refine e_iload_n dX11_looks_178 rfl ?_
                refine m_iald (by decide) dX11_looks_179 h_175 (by omega) (by omega) ?_
                simp only [makesF_3, makesF_4, cflF_2, cflF_3, cflF_4, cflF_5, cflF_16, q_us_ap, editsF_3, Int.reduceEq, Int.reduceNeg, false_and, and_false, and_self, if_true, if_false, true_and, and_true, ite_self]
                have g_179 := rg_2 hW p (by omega) (by omega)
                refine e_if_ne (tgt := 191) dX11_looks_180 (by decide) ⟨by omega, by omega⟩ (fun c_180 => ?_) (fun c_180 => ?_)
                · exfalso; omega
                · refine e_aload_n dX11_looks_183 rfl ?_
                  refine e_iload_n dX11_looks_184 rfl ?_
                  refine e_iload_n dX11_looks_185 rfl ?_
                  refine e_cV (as := [_, _]) (ci := 11) dX11_looks_186 k_X11_becomes l_X11_180 i_X11_becomes v_X11_becomes hT rfl (by decide) ⟨_, _, rfl⟩ rfl rfl rfl rfl (Nat.le_of_ble_eq_true rfl) ⟨by decide, by decide⟩ (Nat.le_of_ble_eq_true rfl) (by decide) (m_becomes hT hWc hp hl) ?_
                  refine e_iconst dX11_looks_189 ?_
                  exact e_iret dX11_looks_190 (Or.inl rfl) (e_ok (by first | rw [el] | (rw [el]; congr 2; omega)) (by rw [el]) rfl)
              · exfalso; omega
            · exact absurd c_114 (by decide)
          · exact absurd c_96 (by decide)
        · refine e_aload_n dX11_looks_72 rfl ?_
          refine m_getR (kt := (21, 120, 21)) (by decide) dX11_looks_73 f_X11_56 hT rfl (Nat.succ_ne_zero _) (fun q_73 h_73 => ?_)
          refine e_iload_n dX11_looks_76 rfl ?_
          refine m_law (by decide) (rg_21 hW) dX11_looks_77 h_73 (by omega) (by omega) (fun g_77 => ?_)
          refine e_lconst (z := 0) dX11_looks_78 rfl ?_
          refine e_lcmp dX11_looks_79 ⟨by omega, by omega⟩ ⟨by omega, by omega⟩ ?_
          refine e_if_ne (tgt := 87) dX11_looks_80 (by decide) (q_cmp_iI _ _) (fun c_80 => ?_) (fun c_80 => ?_)
          · rw [q_cmp_eq] at c_80
            refine e_iconst dX11_looks_87 ?_
            refine e_istore (ls2 := [_, _, _, _, _, _]) dX11_looks_88 (Nat.le_of_ble_eq_true rfl) rfl ?_
            refine e_aload_n dX11_looks_90 rfl ?_
            refine e_dup dX11_looks_91 rfl ?_
            refine m_getI (by decide) dX11_looks_92 f_X11_190 (Or.inl rfl) hT ?_
            have g_92 := rs_37 hW
            refine e_iload_n dX11_looks_95 rfl ?_
            refine e_if_eq (tgt := 108) dX11_looks_96 (by decide) ⟨by decide, by decide⟩ (fun c_96 => ?_) (fun c_96 => ?_)
            · refine e_iconst dX11_looks_108 ?_
              refine e_iadd dX11_looks_109 ?_
              refine m_putI (by decide) dX11_looks_110 f_X11_190 rfl hT ⟨by omega, by omega⟩ ?_
              rw [show q_us M 50 37 (M 50 37 + 1) = cflF M p lat from by unfold cflF; rw [if_neg (fun h => hm h.1)]]
              refine e_iload_n dX11_looks_113 rfl ?_
              refine e_if_eq (tgt := 122) dX11_looks_114 (by decide) ⟨by decide, by decide⟩ (fun c_114 => ?_) (fun c_114 => ?_)
              · refine e_aload_n dX11_looks_122 rfl ?_
                refine m_getR (kt := (20, 48, 2)) (by decide) dX11_looks_123 f_X11_7 hT rfl (Nat.succ_ne_zero _) (fun q_123 h_123 => ?_)
                refine e_iload_n dX11_looks_126 rfl ?_
                refine m_iald (by decide) dX11_looks_127 h_123 (by omega) (by omega) ?_
                simp only [makesF_3, makesF_4, cflF_2, cflF_3, cflF_4, cflF_5, cflF_16, q_us_ap, editsF_3, Int.reduceEq, Int.reduceNeg, false_and, and_false, and_self, if_true, if_false, true_and, and_true, ite_self]
                have g_127 := rg_2 hW p (by omega) (by omega)
                refine e_if_eq (tgt := 174) dX11_looks_128 (by decide) ⟨by omega, by omega⟩ (fun c_128 => ?_) (fun c_128 => ?_)
                · refine e_aload_n dX11_looks_174 rfl ?_
                  refine m_getR (kt := (20, 48, 2)) (by decide) dX11_looks_175 f_X11_7 hT rfl (Nat.succ_ne_zero _) (fun q_175 h_175 => ?_)
                  refine e_iload_n dX11_looks_178 rfl ?_
                  refine m_iald (by decide) dX11_looks_179 h_175 (by omega) (by omega) ?_
                  simp only [makesF_3, makesF_4, cflF_2, cflF_3, cflF_4, cflF_5, cflF_16, q_us_ap, editsF_3, Int.reduceEq, Int.reduceNeg, false_and, and_false, and_self, if_true, if_false, true_and, and_true, ite_self]
                  have g_179 := rg_2 hW p (by omega) (by omega)
                  refine e_if_ne (tgt := 191) dX11_looks_180 (by decide) ⟨by omega, by omega⟩ (fun c_180 => ?_) (fun c_180 => ?_)
                  · exfalso; omega
                  · refine e_aload_n dX11_looks_183 rfl ?_
                    refine e_iload_n dX11_looks_184 rfl ?_
                    refine e_iload_n dX11_looks_185 rfl ?_
                    refine e_cV (as := [_, _]) (ci := 11) dX11_looks_186 k_X11_becomes l_X11_180 i_X11_becomes v_X11_becomes hT rfl (by decide) ⟨_, _, rfl⟩ rfl rfl rfl rfl (Nat.le_of_ble_eq_true rfl) ⟨by decide, by decide⟩ (Nat.le_of_ble_eq_true rfl) (by decide) (m_becomes hT hWc hp hl) ?_
                    refine e_iconst dX11_looks_189 ?_
                    exact e_iret dX11_looks_190 (Or.inl rfl) (e_ok (by first | rw [el] | (rw [el]; congr 2; omega)) (by rw [el]) rfl)
                · exfalso; omega
              · exact absurd c_114 (by decide)
            · exact absurd c_96 (by decide)
          · rw [q_cmp_eq] at c_80
            refine e_iconst dX11_looks_83 ?_
            refine e_goto (tgt := 88) dX11_looks_84 (by decide) ?_
            refine e_istore (ls2 := [_, _, _, _, _, _]) dX11_looks_88 (Nat.le_of_ble_eq_true rfl) rfl ?_
            refine e_aload_n dX11_looks_90 rfl ?_
            refine e_dup dX11_looks_91 rfl ?_
            refine m_getI (by decide) dX11_looks_92 f_X11_190 (Or.inl rfl) hT ?_
            have g_92 := rs_37 hW
            refine e_iload_n dX11_looks_95 rfl ?_
            refine e_if_eq (tgt := 108) dX11_looks_96 (by decide) ⟨by decide, by decide⟩ (fun c_96 => ?_) (fun c_96 => ?_)
            · refine e_iconst dX11_looks_108 ?_
              refine e_iadd dX11_looks_109 ?_
              refine m_putI (by decide) dX11_looks_110 f_X11_190 rfl hT ⟨by omega, by omega⟩ ?_
              rw [show q_us M 50 37 (M 50 37 + 1) = cflF M p lat from by unfold cflF; rw [if_neg (fun h => hm h.1)]]
              refine e_iload_n dX11_looks_113 rfl ?_
              refine e_if_eq (tgt := 122) dX11_looks_114 (by decide) ⟨by decide, by decide⟩ (fun c_114 => ?_) (fun c_114 => ?_)
              · refine e_aload_n dX11_looks_122 rfl ?_
                refine m_getR (kt := (20, 48, 2)) (by decide) dX11_looks_123 f_X11_7 hT rfl (Nat.succ_ne_zero _) (fun q_123 h_123 => ?_)
                refine e_iload_n dX11_looks_126 rfl ?_
                refine m_iald (by decide) dX11_looks_127 h_123 (by omega) (by omega) ?_
                simp only [makesF_3, makesF_4, cflF_2, cflF_3, cflF_4, cflF_5, cflF_16, q_us_ap, editsF_3, Int.reduceEq, Int.reduceNeg, false_and, and_false, and_self, if_true, if_false, true_and, and_true, ite_self]
                have g_127 := rg_2 hW p (by omega) (by omega)
                refine e_if_eq (tgt := 174) dX11_looks_128 (by decide) ⟨by omega, by omega⟩ (fun c_128 => ?_) (fun c_128 => ?_)
                · refine e_aload_n dX11_looks_174 rfl ?_
                  refine m_getR (kt := (20, 48, 2)) (by decide) dX11_looks_175 f_X11_7 hT rfl (Nat.succ_ne_zero _) (fun q_175 h_175 => ?_)
                  refine e_iload_n dX11_looks_178 rfl ?_
                  refine m_iald (by decide) dX11_looks_179 h_175 (by omega) (by omega) ?_
                  simp only [makesF_3, makesF_4, cflF_2, cflF_3, cflF_4, cflF_5, cflF_16, q_us_ap, editsF_3, Int.reduceEq, Int.reduceNeg, false_and, and_false, and_self, if_true, if_false, true_and, and_true, ite_self]
                  have g_179 := rg_2 hW p (by omega) (by omega)
                  refine e_if_ne (tgt := 191) dX11_looks_180 (by decide) ⟨by omega, by omega⟩ (fun c_180 => ?_) (fun c_180 => ?_)
                  · exfalso; omega
                  · refine e_aload_n dX11_looks_183 rfl ?_
                    refine e_iload_n dX11_looks_184 rfl ?_
                    refine e_iload_n dX11_looks_185 rfl ?_
                    refine e_cV (as := [_, _]) (ci := 11) dX11_looks_186 k_X11_becomes l_X11_180 i_X11_becomes v_X11_becomes hT rfl (by decide) ⟨_, _, rfl⟩ rfl rfl rfl rfl (Nat.le_of_ble_eq_true rfl) ⟨by decide, by decide⟩ (Nat.le_of_ble_eq_true rfl) (by decide) (m_becomes hT hWc hp hl) ?_
                    refine e_iconst dX11_looks_189 ?_
                    exact e_iret dX11_looks_190 (Or.inl rfl) (e_ok (by first | rw [el] | (rw [el]; congr 2; omega)) (by rw [el]) rfl)
                · exfalso; omega
              · exact absurd c_114 (by decide)
            · exact absurd c_96 (by decide)
    · have el : look2 M p lat = keepsF (cflF M p lat) p lat := by
        unfold look2; rw [if_neg h0]; rw [if_neg (fun h => h.elim (fun h => hm h.1) (fun h => hm h.2.2)), if_neg ha]
      have hcl : LE (cflF M p lat) (look2 M p lat).2 := by rw [el]; exact LE.keeps _ _ _
      have hcc := hcl.ct hC
      have hWc := hW.cfl hcc.2.1
      have hg37b : M 50 37 + (if okP M p lat then 0 else 1) ≤ 1000000 := hcc.2.1
      have hsum : M 50 37 + 1 ≤ 1000001 := by omega
      rw [if_neg (fun h => hm h.1)] at hg37b
      refine e_aload_n dX11_looks_41 rfl ?_
      refine e_iload_n dX11_looks_42 rfl ?_
      refine e_iload_n dX11_looks_43 rfl ?_
      refine e_cV (as := [_, _]) (ci := 11) dX11_looks_44 k_X11_may l_X11_187 i_X11_may v_X11_may hT rfl (by decide) ⟨_, _, rfl⟩ rfl rfl rfl rfl (Nat.le_of_ble_eq_true rfl) ⟨by decide, by decide⟩ (Nat.le_of_ble_eq_true rfl) (by decide) (m_may hT hW ⟨by omega, by omega⟩ ⟨by omega, by omega⟩) ?_
      rw [bi_f hm]
      refine e_istore_n (ls2 := [_, _, _, _, _, _]) dX11_looks_47 (Nat.le_of_ble_eq_true rfl) rfl ?_
      refine e_iload_n dX11_looks_48 rfl ?_
      refine e_aload_n dX11_looks_49 rfl ?_
      refine m_getR (kt := (20, 48, 5)) (by decide) dX11_looks_50 f_X11_20 hT rfl (Nat.succ_ne_zero _) (fun q_50 h_50 => ?_)
      refine e_iload_n dX11_looks_53 rfl ?_
      refine m_iaw (by decide) (rg_5 hW) dX11_looks_54 h_50 (by omega) (by omega) (fun g_54 => ?_)
      refine e_iconst dX11_looks_55 ?_
      refine e_isub dX11_looks_56 ?_
      refine e_icmp_ne (tgt := 64) dX11_looks_57 (by decide) ⟨by omega, by omega⟩ ⟨by omega, by omega⟩ (fun c_57 => ?_) (fun c_57 => ?_)
      · refine e_iconst dX11_looks_64 ?_
        refine e_istore (ls2 := [_, _, _, _, _, _]) dX11_looks_65 (Nat.le_of_ble_eq_true rfl) rfl ?_
        refine e_iload_n dX11_looks_67 rfl ?_
        refine e_iconst dX11_looks_68 ?_
        refine e_icmp_eq (tgt := 87) dX11_looks_69 (by decide) ⟨by omega, by omega⟩ ⟨by omega, by omega⟩ (fun c_69 => ?_) (fun c_69 => ?_)
        · refine e_iconst dX11_looks_87 ?_
          refine e_istore (ls2 := [_, _, _, _, _, _]) dX11_looks_88 (Nat.le_of_ble_eq_true rfl) rfl ?_
          refine e_aload_n dX11_looks_90 rfl ?_
          refine e_dup dX11_looks_91 rfl ?_
          refine m_getI (by decide) dX11_looks_92 f_X11_190 (Or.inl rfl) hT ?_
          have g_92 := rs_37 hW
          refine e_iload_n dX11_looks_95 rfl ?_
          refine e_if_eq (tgt := 108) dX11_looks_96 (by decide) ⟨by decide, by decide⟩ (fun c_96 => ?_) (fun c_96 => ?_)
          · refine e_iconst dX11_looks_108 ?_
            refine e_iadd dX11_looks_109 ?_
            refine m_putI (by decide) dX11_looks_110 f_X11_190 rfl hT ⟨by omega, by omega⟩ ?_
            rw [show q_us M 50 37 (M 50 37 + 1) = cflF M p lat from by unfold cflF; rw [if_neg (fun h => hm h.1)]]
            refine e_iload_n dX11_looks_113 rfl ?_
            refine e_if_eq (tgt := 122) dX11_looks_114 (by decide) ⟨by decide, by decide⟩ (fun c_114 => ?_) (fun c_114 => ?_)
            · refine e_aload_n dX11_looks_122 rfl ?_
              refine m_getR (kt := (20, 48, 2)) (by decide) dX11_looks_123 f_X11_7 hT rfl (Nat.succ_ne_zero _) (fun q_123 h_123 => ?_)
              refine e_iload_n dX11_looks_126 rfl ?_
              refine m_iald (by decide) dX11_looks_127 h_123 (by omega) (by omega) ?_
              simp only [makesF_3, makesF_4, cflF_2, cflF_3, cflF_4, cflF_5, cflF_16, q_us_ap, editsF_3, Int.reduceEq, Int.reduceNeg, false_and, and_false, and_self, if_true, if_false, true_and, and_true, ite_self]
              have g_127 := rg_2 hW p (by omega) (by omega)
              refine e_if_eq (tgt := 174) dX11_looks_128 (by decide) ⟨by omega, by omega⟩ (fun c_128 => ?_) (fun c_128 => ?_)
              · exfalso; omega
              · refine e_iload dX11_looks_131 rfl ?_
                refine e_if_eq (tgt := 174) dX11_looks_133 (by decide) ⟨by decide, by decide⟩ (fun c_133 => ?_) (fun c_133 => ?_)
                · refine e_aload_n dX11_looks_174 rfl ?_
                  refine m_getR (kt := (20, 48, 2)) (by decide) dX11_looks_175 f_X11_7 hT rfl (Nat.succ_ne_zero _) (fun q_175 h_175 => ?_)
                  refine e_iload_n dX11_looks_178 rfl ?_
                  refine m_iald (by decide) dX11_looks_179 h_175 (by omega) (by omega) ?_
                  simp only [makesF_3, makesF_4, cflF_2, cflF_3, cflF_4, cflF_5, cflF_16, q_us_ap, editsF_3, Int.reduceEq, Int.reduceNeg, false_and, and_false, and_self, if_true, if_false, true_and, and_true, ite_self]
                  have g_179 := rg_2 hW p (by omega) (by omega)
                  refine e_if_ne (tgt := 191) dX11_looks_180 (by decide) ⟨by omega, by omega⟩ (fun c_180 => ?_) (fun c_180 => ?_)
                  · refine e_aload_n dX11_looks_191 rfl ?_
                    refine e_iload_n dX11_looks_192 rfl ?_
                    refine e_iload_n dX11_looks_193 rfl ?_
                    refine e_cV (as := [_, _]) (ci := 11) dX11_looks_194 k_X11_keepsBoth l_X11_193 i_X11_keepsBoth v_X11_keepsBoth hT rfl (by decide) ⟨_, _, rfl⟩ rfl rfl rfl rfl (Nat.le_of_ble_eq_true rfl) ⟨by decide, by decide⟩ (Nat.le_of_ble_eq_true rfl) (by decide) (m_keepsBoth hT hWc hp hl (by rw [el] at hC; exact hC)) ?_
                    rw [← el]
                    have hl1 := look2_1 M p lat
                    refine e_if_eq (tgt := 204) dX11_looks_197 (by decide) ⟨by omega, by omega⟩ (fun c_197 => ?_) (fun c_197 => ?_)
                    · refine e_iconst dX11_looks_204 ?_
                      exact e_iret dX11_looks_205 (Or.inl rfl) (e_ok (by congr 2; omega) rfl rfl)
                    · refine e_iconst dX11_looks_200 ?_
                      refine e_goto (tgt := 205) dX11_looks_201 (by decide) ?_
                      exact e_iret dX11_looks_205 (Or.inl rfl) (e_ok (by congr 2; omega) rfl rfl)
                  · exfalso; omega
                · exact absurd c_133 (by decide)
            · exact absurd c_114 (by decide)
          · exact absurd c_96 (by decide)
        · refine e_aload_n dX11_looks_72 rfl ?_
          refine m_getR (kt := (21, 120, 21)) (by decide) dX11_looks_73 f_X11_56 hT rfl (Nat.succ_ne_zero _) (fun q_73 h_73 => ?_)
          refine e_iload_n dX11_looks_76 rfl ?_
          refine m_law (by decide) (rg_21 hW) dX11_looks_77 h_73 (by omega) (by omega) (fun g_77 => ?_)
          refine e_lconst (z := 0) dX11_looks_78 rfl ?_
          refine e_lcmp dX11_looks_79 ⟨by omega, by omega⟩ ⟨by omega, by omega⟩ ?_
          refine e_if_ne (tgt := 87) dX11_looks_80 (by decide) (q_cmp_iI _ _) (fun c_80 => ?_) (fun c_80 => ?_)
          · rw [q_cmp_eq] at c_80
            refine e_iconst dX11_looks_87 ?_
            refine e_istore (ls2 := [_, _, _, _, _, _]) dX11_looks_88 (Nat.le_of_ble_eq_true rfl) rfl ?_
            refine e_aload_n dX11_looks_90 rfl ?_
            refine e_dup dX11_looks_91 rfl ?_
            refine m_getI (by decide) dX11_looks_92 f_X11_190 (Or.inl rfl) hT ?_
            have g_92 := rs_37 hW
            refine e_iload_n dX11_looks_95 rfl ?_
            refine e_if_eq (tgt := 108) dX11_looks_96 (by decide) ⟨by decide, by decide⟩ (fun c_96 => ?_) (fun c_96 => ?_)
            · refine e_iconst dX11_looks_108 ?_
              refine e_iadd dX11_looks_109 ?_
              refine m_putI (by decide) dX11_looks_110 f_X11_190 rfl hT ⟨by omega, by omega⟩ ?_
              rw [show q_us M 50 37 (M 50 37 + 1) = cflF M p lat from by unfold cflF; rw [if_neg (fun h => hm h.1)]]
              refine e_iload_n dX11_looks_113 rfl ?_
              refine e_if_eq (tgt := 122) dX11_looks_114 (by decide) ⟨by decide, by decide⟩ (fun c_114 => ?_) (fun c_114 => ?_)
              · refine e_aload_n dX11_looks_122 rfl ?_
                refine m_getR (kt := (20, 48, 2)) (by decide) dX11_looks_123 f_X11_7 hT rfl (Nat.succ_ne_zero _) (fun q_123 h_123 => ?_)
                refine e_iload_n dX11_looks_126 rfl ?_
                refine m_iald (by decide) dX11_looks_127 h_123 (by omega) (by omega) ?_
                simp only [makesF_3, makesF_4, cflF_2, cflF_3, cflF_4, cflF_5, cflF_16, q_us_ap, editsF_3, Int.reduceEq, Int.reduceNeg, false_and, and_false, and_self, if_true, if_false, true_and, and_true, ite_self]
                have g_127 := rg_2 hW p (by omega) (by omega)
                refine e_if_eq (tgt := 174) dX11_looks_128 (by decide) ⟨by omega, by omega⟩ (fun c_128 => ?_) (fun c_128 => ?_)
                · exfalso; omega
                · refine e_iload dX11_looks_131 rfl ?_
                  refine e_if_eq (tgt := 174) dX11_looks_133 (by decide) ⟨by decide, by decide⟩ (fun c_133 => ?_) (fun c_133 => ?_)
                  · refine e_aload_n dX11_looks_174 rfl ?_
                    refine m_getR (kt := (20, 48, 2)) (by decide) dX11_looks_175 f_X11_7 hT rfl (Nat.succ_ne_zero _) (fun q_175 h_175 => ?_)
                    refine e_iload_n dX11_looks_178 rfl ?_
                    refine m_iald (by decide) dX11_looks_179 h_175 (by omega) (by omega) ?_
                    simp only [makesF_3, makesF_4, cflF_2, cflF_3, cflF_4, cflF_5, cflF_16, q_us_ap, editsF_3, Int.reduceEq, Int.reduceNeg, false_and, and_false, and_self, if_true, if_false, true_and, and_true, ite_self]
                    have g_179 := rg_2 hW p (by omega) (by omega)
                    refine e_if_ne (tgt := 191) dX11_looks_180 (by decide) ⟨by omega, by omega⟩ (fun c_180 => ?_) (fun c_180 => ?_)
                    · refine e_aload_n dX11_looks_191 rfl ?_
                      refine e_iload_n dX11_looks_192 rfl ?_
                      refine e_iload_n dX11_looks_193 rfl ?_
                      refine e_cV (as := [_, _]) (ci := 11) dX11_looks_194 k_X11_keepsBoth l_X11_193 i_X11_keepsBoth v_X11_keepsBoth hT rfl (by decide) ⟨_, _, rfl⟩ rfl rfl rfl rfl (Nat.le_of_ble_eq_true rfl) ⟨by decide, by decide⟩ (Nat.le_of_ble_eq_true rfl) (by decide) (m_keepsBoth hT hWc hp hl (by rw [el] at hC; exact hC)) ?_
                      rw [← el]
                      have hl1 := look2_1 M p lat
                      refine e_if_eq (tgt := 204) dX11_looks_197 (by decide) ⟨by omega, by omega⟩ (fun c_197 => ?_) (fun c_197 => ?_)
                      · refine e_iconst dX11_looks_204 ?_
                        exact e_iret dX11_looks_205 (Or.inl rfl) (e_ok (by congr 2; omega) rfl rfl)
                      · refine e_iconst dX11_looks_200 ?_
                        refine e_goto (tgt := 205) dX11_looks_201 (by decide) ?_
                        exact e_iret dX11_looks_205 (Or.inl rfl) (e_ok (by congr 2; omega) rfl rfl)
                    · exfalso; omega
                  · exact absurd c_133 (by decide)
              · exact absurd c_114 (by decide)
            · exact absurd c_96 (by decide)
          · rw [q_cmp_eq] at c_80
            refine e_iconst dX11_looks_83 ?_
            refine e_goto (tgt := 88) dX11_looks_84 (by decide) ?_
            refine e_istore (ls2 := [_, _, _, _, _, _]) dX11_looks_88 (Nat.le_of_ble_eq_true rfl) rfl ?_
            refine e_aload_n dX11_looks_90 rfl ?_
            refine e_dup dX11_looks_91 rfl ?_
            refine m_getI (by decide) dX11_looks_92 f_X11_190 (Or.inl rfl) hT ?_
            have g_92 := rs_37 hW
            refine e_iload_n dX11_looks_95 rfl ?_
            refine e_if_eq (tgt := 108) dX11_looks_96 (by decide) ⟨by decide, by decide⟩ (fun c_96 => ?_) (fun c_96 => ?_)
            · refine e_iconst dX11_looks_108 ?_
              refine e_iadd dX11_looks_109 ?_
              refine m_putI (by decide) dX11_looks_110 f_X11_190 rfl hT ⟨by omega, by omega⟩ ?_
              rw [show q_us M 50 37 (M 50 37 + 1) = cflF M p lat from by unfold cflF; rw [if_neg (fun h => hm h.1)]]
              refine e_iload_n dX11_looks_113 rfl ?_
              refine e_if_eq (tgt := 122) dX11_looks_114 (by decide) ⟨by decide, by decide⟩ (fun c_114 => ?_) (fun c_114 => ?_)
              · refine e_aload_n dX11_looks_122 rfl ?_
                refine m_getR (kt := (20, 48, 2)) (by decide) dX11_looks_123 f_X11_7 hT rfl (Nat.succ_ne_zero _) (fun q_123 h_123 => ?_)
                refine e_iload_n dX11_looks_126 rfl ?_
                refine m_iald (by decide) dX11_looks_127 h_123 (by omega) (by omega) ?_
                simp only [makesF_3, makesF_4, cflF_2, cflF_3, cflF_4, cflF_5, cflF_16, q_us_ap, editsF_3, Int.reduceEq, Int.reduceNeg, false_and, and_false, and_self, if_true, if_false, true_and, and_true, ite_self]
                have g_127 := rg_2 hW p (by omega) (by omega)
                refine e_if_eq (tgt := 174) dX11_looks_128 (by decide) ⟨by omega, by omega⟩ (fun c_128 => ?_) (fun c_128 => ?_)
                · exfalso; omega
                · refine e_iload dX11_looks_131 rfl ?_
                  refine e_if_eq (tgt := 174) dX11_looks_133 (by decide) ⟨by decide, by decide⟩ (fun c_133 => ?_) (fun c_133 => ?_)
                  · exact absurd c_133 (by decide)
                  · refine e_iload_n dX11_looks_136 rfl ?_
                    refine e_if_eq (tgt := 174) dX11_looks_137 (by decide) ⟨by decide, by decide⟩ (fun c_137 => ?_) (fun c_137 => ?_)
                    · refine e_aload_n dX11_looks_174 rfl ?_
                      refine m_getR (kt := (20, 48, 2)) (by decide) dX11_looks_175 f_X11_7 hT rfl (Nat.succ_ne_zero _) (fun q_175 h_175 => ?_)
                      refine e_iload_n dX11_looks_178 rfl ?_
                      refine m_iald (by decide) dX11_looks_179 h_175 (by omega) (by omega) ?_
                      simp only [makesF_3, makesF_4, cflF_2, cflF_3, cflF_4, cflF_5, cflF_16, q_us_ap, editsF_3, Int.reduceEq, Int.reduceNeg, false_and, and_false, and_self, if_true, if_false, true_and, and_true, ite_self]
                      have g_179 := rg_2 hW p (by omega) (by omega)
                      refine e_if_ne (tgt := 191) dX11_looks_180 (by decide) ⟨by omega, by omega⟩ (fun c_180 => ?_) (fun c_180 => ?_)
                      · refine e_aload_n dX11_looks_191 rfl ?_
                        refine e_iload_n dX11_looks_192 rfl ?_
                        refine e_iload_n dX11_looks_193 rfl ?_
                        refine e_cV (as := [_, _]) (ci := 11) dX11_looks_194 k_X11_keepsBoth l_X11_193 i_X11_keepsBoth v_X11_keepsBoth hT rfl (by decide) ⟨_, _, rfl⟩ rfl rfl rfl rfl (Nat.le_of_ble_eq_true rfl) ⟨by decide, by decide⟩ (Nat.le_of_ble_eq_true rfl) (by decide) (m_keepsBoth hT hWc hp hl (by rw [el] at hC; exact hC)) ?_
                        rw [← el]
                        have hl1 := look2_1 M p lat
                        refine e_if_eq (tgt := 204) dX11_looks_197 (by decide) ⟨by omega, by omega⟩ (fun c_197 => ?_) (fun c_197 => ?_)
                        · refine e_iconst dX11_looks_204 ?_
                          exact e_iret dX11_looks_205 (Or.inl rfl) (e_ok (by congr 2; omega) rfl rfl)
                        · refine e_iconst dX11_looks_200 ?_
                          refine e_goto (tgt := 205) dX11_looks_201 (by decide) ?_
                          exact e_iret dX11_looks_205 (Or.inl rfl) (e_ok (by congr 2; omega) rfl rfl)
                      · exfalso; omega
                    · exact absurd c_137 (by decide)
              · exact absurd c_114 (by decide)
            · exact absurd c_96 (by decide)
      · refine e_iconst dX11_looks_60 ?_
        refine e_goto (tgt := 65) dX11_looks_61 (by decide) ?_
        refine e_istore (ls2 := [_, _, _, _, _, _]) dX11_looks_65 (Nat.le_of_ble_eq_true rfl) rfl ?_
        refine e_iload_n dX11_looks_67 rfl ?_
        refine e_iconst dX11_looks_68 ?_
        refine e_icmp_eq (tgt := 87) dX11_looks_69 (by decide) ⟨by omega, by omega⟩ ⟨by omega, by omega⟩ (fun c_69 => ?_) (fun c_69 => ?_)
        · refine e_iconst dX11_looks_87 ?_
          refine e_istore (ls2 := [_, _, _, _, _, _]) dX11_looks_88 (Nat.le_of_ble_eq_true rfl) rfl ?_
          refine e_aload_n dX11_looks_90 rfl ?_
          refine e_dup dX11_looks_91 rfl ?_
          refine m_getI (by decide) dX11_looks_92 f_X11_190 (Or.inl rfl) hT ?_
          have g_92 := rs_37 hW
          refine e_iload_n dX11_looks_95 rfl ?_
          refine e_if_eq (tgt := 108) dX11_looks_96 (by decide) ⟨by decide, by decide⟩ (fun c_96 => ?_) (fun c_96 => ?_)
          · refine e_iconst dX11_looks_108 ?_
            refine e_iadd dX11_looks_109 ?_
            refine m_putI (by decide) dX11_looks_110 f_X11_190 rfl hT ⟨by omega, by omega⟩ ?_
            rw [show q_us M 50 37 (M 50 37 + 1) = cflF M p lat from by unfold cflF; rw [if_neg (fun h => hm h.1)]]
            refine e_iload_n dX11_looks_113 rfl ?_
            refine e_if_eq (tgt := 122) dX11_looks_114 (by decide) ⟨by decide, by decide⟩ (fun c_114 => ?_) (fun c_114 => ?_)
            · refine e_aload_n dX11_looks_122 rfl ?_
              refine m_getR (kt := (20, 48, 2)) (by decide) dX11_looks_123 f_X11_7 hT rfl (Nat.succ_ne_zero _) (fun q_123 h_123 => ?_)
              refine e_iload_n dX11_looks_126 rfl ?_
              refine m_iald (by decide) dX11_looks_127 h_123 (by omega) (by omega) ?_
              simp only [makesF_3, makesF_4, cflF_2, cflF_3, cflF_4, cflF_5, cflF_16, q_us_ap, editsF_3, Int.reduceEq, Int.reduceNeg, false_and, and_false, and_self, if_true, if_false, true_and, and_true, ite_self]
              have g_127 := rg_2 hW p (by omega) (by omega)
              refine e_if_eq (tgt := 174) dX11_looks_128 (by decide) ⟨by omega, by omega⟩ (fun c_128 => ?_) (fun c_128 => ?_)
              · exfalso; omega
              · refine e_iload dX11_looks_131 rfl ?_
                refine e_if_eq (tgt := 174) dX11_looks_133 (by decide) ⟨by decide, by decide⟩ (fun c_133 => ?_) (fun c_133 => ?_)
                · refine e_aload_n dX11_looks_174 rfl ?_
                  refine m_getR (kt := (20, 48, 2)) (by decide) dX11_looks_175 f_X11_7 hT rfl (Nat.succ_ne_zero _) (fun q_175 h_175 => ?_)
                  refine e_iload_n dX11_looks_178 rfl ?_
                  refine m_iald (by decide) dX11_looks_179 h_175 (by omega) (by omega) ?_
                  simp only [makesF_3, makesF_4, cflF_2, cflF_3, cflF_4, cflF_5, cflF_16, q_us_ap, editsF_3, Int.reduceEq, Int.reduceNeg, false_and, and_false, and_self, if_true, if_false, true_and, and_true, ite_self]
                  have g_179 := rg_2 hW p (by omega) (by omega)
                  refine e_if_ne (tgt := 191) dX11_looks_180 (by decide) ⟨by omega, by omega⟩ (fun c_180 => ?_) (fun c_180 => ?_)
                  · refine e_aload_n dX11_looks_191 rfl ?_
                    refine e_iload_n dX11_looks_192 rfl ?_
                    refine e_iload_n dX11_looks_193 rfl ?_
                    refine e_cV (as := [_, _]) (ci := 11) dX11_looks_194 k_X11_keepsBoth l_X11_193 i_X11_keepsBoth v_X11_keepsBoth hT rfl (by decide) ⟨_, _, rfl⟩ rfl rfl rfl rfl (Nat.le_of_ble_eq_true rfl) ⟨by decide, by decide⟩ (Nat.le_of_ble_eq_true rfl) (by decide) (m_keepsBoth hT hWc hp hl (by rw [el] at hC; exact hC)) ?_
                    rw [← el]
                    have hl1 := look2_1 M p lat
                    refine e_if_eq (tgt := 204) dX11_looks_197 (by decide) ⟨by omega, by omega⟩ (fun c_197 => ?_) (fun c_197 => ?_)
                    · refine e_iconst dX11_looks_204 ?_
                      exact e_iret dX11_looks_205 (Or.inl rfl) (e_ok (by congr 2; omega) rfl rfl)
                    · refine e_iconst dX11_looks_200 ?_
                      refine e_goto (tgt := 205) dX11_looks_201 (by decide) ?_
                      exact e_iret dX11_looks_205 (Or.inl rfl) (e_ok (by congr 2; omega) rfl rfl)
                  · exfalso; omega
                · exact absurd c_133 (by decide)
            · exact absurd c_114 (by decide)
          · exact absurd c_96 (by decide)
        · refine e_aload_n dX11_looks_72 rfl ?_
          refine m_getR (kt := (21, 120, 21)) (by decide) dX11_looks_73 f_X11_56 hT rfl (Nat.succ_ne_zero _) (fun q_73 h_73 => ?_)
          refine e_iload_n dX11_looks_76 rfl ?_
          refine m_law (by decide) (rg_21 hW) dX11_looks_77 h_73 (by omega) (by omega) (fun g_77 => ?_)
          refine e_lconst (z := 0) dX11_looks_78 rfl ?_
          refine e_lcmp dX11_looks_79 ⟨by omega, by omega⟩ ⟨by omega, by omega⟩ ?_
          refine e_if_ne (tgt := 87) dX11_looks_80 (by decide) (q_cmp_iI _ _) (fun c_80 => ?_) (fun c_80 => ?_)
          · rw [q_cmp_eq] at c_80
            refine e_iconst dX11_looks_87 ?_
            refine e_istore (ls2 := [_, _, _, _, _, _]) dX11_looks_88 (Nat.le_of_ble_eq_true rfl) rfl ?_
            refine e_aload_n dX11_looks_90 rfl ?_
            refine e_dup dX11_looks_91 rfl ?_
            refine m_getI (by decide) dX11_looks_92 f_X11_190 (Or.inl rfl) hT ?_
            have g_92 := rs_37 hW
            refine e_iload_n dX11_looks_95 rfl ?_
            refine e_if_eq (tgt := 108) dX11_looks_96 (by decide) ⟨by decide, by decide⟩ (fun c_96 => ?_) (fun c_96 => ?_)
            · refine e_iconst dX11_looks_108 ?_
              refine e_iadd dX11_looks_109 ?_
              refine m_putI (by decide) dX11_looks_110 f_X11_190 rfl hT ⟨by omega, by omega⟩ ?_
              rw [show q_us M 50 37 (M 50 37 + 1) = cflF M p lat from by unfold cflF; rw [if_neg (fun h => hm h.1)]]
              refine e_iload_n dX11_looks_113 rfl ?_
              refine e_if_eq (tgt := 122) dX11_looks_114 (by decide) ⟨by decide, by decide⟩ (fun c_114 => ?_) (fun c_114 => ?_)
              · refine e_aload_n dX11_looks_122 rfl ?_
                refine m_getR (kt := (20, 48, 2)) (by decide) dX11_looks_123 f_X11_7 hT rfl (Nat.succ_ne_zero _) (fun q_123 h_123 => ?_)
                refine e_iload_n dX11_looks_126 rfl ?_
                refine m_iald (by decide) dX11_looks_127 h_123 (by omega) (by omega) ?_
                simp only [makesF_3, makesF_4, cflF_2, cflF_3, cflF_4, cflF_5, cflF_16, q_us_ap, editsF_3, Int.reduceEq, Int.reduceNeg, false_and, and_false, and_self, if_true, if_false, true_and, and_true, ite_self]
                have g_127 := rg_2 hW p (by omega) (by omega)
                refine e_if_eq (tgt := 174) dX11_looks_128 (by decide) ⟨by omega, by omega⟩ (fun c_128 => ?_) (fun c_128 => ?_)
                · exfalso; omega
                · refine e_iload dX11_looks_131 rfl ?_
                  refine e_if_eq (tgt := 174) dX11_looks_133 (by decide) ⟨by decide, by decide⟩ (fun c_133 => ?_) (fun c_133 => ?_)
                  · refine e_aload_n dX11_looks_174 rfl ?_
                    refine m_getR (kt := (20, 48, 2)) (by decide) dX11_looks_175 f_X11_7 hT rfl (Nat.succ_ne_zero _) (fun q_175 h_175 => ?_)
                    refine e_iload_n dX11_looks_178 rfl ?_
                    refine m_iald (by decide) dX11_looks_179 h_175 (by omega) (by omega) ?_
                    simp only [makesF_3, makesF_4, cflF_2, cflF_3, cflF_4, cflF_5, cflF_16, q_us_ap, editsF_3, Int.reduceEq, Int.reduceNeg, false_and, and_false, and_self, if_true, if_false, true_and, and_true, ite_self]
                    have g_179 := rg_2 hW p (by omega) (by omega)
                    refine e_if_ne (tgt := 191) dX11_looks_180 (by decide) ⟨by omega, by omega⟩ (fun c_180 => ?_) (fun c_180 => ?_)
                    · refine e_aload_n dX11_looks_191 rfl ?_
                      refine e_iload_n dX11_looks_192 rfl ?_
                      refine e_iload_n dX11_looks_193 rfl ?_
                      refine e_cV (as := [_, _]) (ci := 11) dX11_looks_194 k_X11_keepsBoth l_X11_193 i_X11_keepsBoth v_X11_keepsBoth hT rfl (by decide) ⟨_, _, rfl⟩ rfl rfl rfl rfl (Nat.le_of_ble_eq_true rfl) ⟨by decide, by decide⟩ (Nat.le_of_ble_eq_true rfl) (by decide) (m_keepsBoth hT hWc hp hl (by rw [el] at hC; exact hC)) ?_
                      rw [← el]
                      have hl1 := look2_1 M p lat
                      refine e_if_eq (tgt := 204) dX11_looks_197 (by decide) ⟨by omega, by omega⟩ (fun c_197 => ?_) (fun c_197 => ?_)
                      · refine e_iconst dX11_looks_204 ?_
                        exact e_iret dX11_looks_205 (Or.inl rfl) (e_ok (by congr 2; omega) rfl rfl)
                      · refine e_iconst dX11_looks_200 ?_
                        refine e_goto (tgt := 205) dX11_looks_201 (by decide) ?_
                        exact e_iret dX11_looks_205 (Or.inl rfl) (e_ok (by congr 2; omega) rfl rfl)
                    · exfalso; omega
                  · exact absurd c_133 (by decide)
              · exact absurd c_114 (by decide)
            · exact absurd c_96 (by decide)
          · rw [q_cmp_eq] at c_80
            refine e_iconst dX11_looks_83 ?_
            refine e_goto (tgt := 88) dX11_looks_84 (by decide) ?_
            refine e_istore (ls2 := [_, _, _, _, _, _]) dX11_looks_88 (Nat.le_of_ble_eq_true rfl) rfl ?_
            refine e_aload_n dX11_looks_90 rfl ?_
            refine e_dup dX11_looks_91 rfl ?_
            refine m_getI (by decide) dX11_looks_92 f_X11_190 (Or.inl rfl) hT ?_
            have g_92 := rs_37 hW
            refine e_iload_n dX11_looks_95 rfl ?_
            refine e_if_eq (tgt := 108) dX11_looks_96 (by decide) ⟨by decide, by decide⟩ (fun c_96 => ?_) (fun c_96 => ?_)
            · refine e_iconst dX11_looks_108 ?_
              refine e_iadd dX11_looks_109 ?_
              refine m_putI (by decide) dX11_looks_110 f_X11_190 rfl hT ⟨by omega, by omega⟩ ?_
              rw [show q_us M 50 37 (M 50 37 + 1) = cflF M p lat from by unfold cflF; rw [if_neg (fun h => hm h.1)]]
              refine e_iload_n dX11_looks_113 rfl ?_
              refine e_if_eq (tgt := 122) dX11_looks_114 (by decide) ⟨by decide, by decide⟩ (fun c_114 => ?_) (fun c_114 => ?_)
              · refine e_aload_n dX11_looks_122 rfl ?_
                refine m_getR (kt := (20, 48, 2)) (by decide) dX11_looks_123 f_X11_7 hT rfl (Nat.succ_ne_zero _) (fun q_123 h_123 => ?_)
                refine e_iload_n dX11_looks_126 rfl ?_
                refine m_iald (by decide) dX11_looks_127 h_123 (by omega) (by omega) ?_
                simp only [makesF_3, makesF_4, cflF_2, cflF_3, cflF_4, cflF_5, cflF_16, q_us_ap, editsF_3, Int.reduceEq, Int.reduceNeg, false_and, and_false, and_self, if_true, if_false, true_and, and_true, ite_self]
                have g_127 := rg_2 hW p (by omega) (by omega)
                refine e_if_eq (tgt := 174) dX11_looks_128 (by decide) ⟨by omega, by omega⟩ (fun c_128 => ?_) (fun c_128 => ?_)
                · exfalso; omega
                · refine e_iload dX11_looks_131 rfl ?_
                  refine e_if_eq (tgt := 174) dX11_looks_133 (by decide) ⟨by decide, by decide⟩ (fun c_133 => ?_) (fun c_133 => ?_)
                  · exact absurd c_133 (by decide)
                  · refine e_iload_n dX11_looks_136 rfl ?_
                    refine e_if_eq (tgt := 174) dX11_looks_137 (by decide) ⟨by decide, by decide⟩ (fun c_137 => ?_) (fun c_137 => ?_)
                    · refine e_aload_n dX11_looks_174 rfl ?_
                      refine m_getR (kt := (20, 48, 2)) (by decide) dX11_looks_175 f_X11_7 hT rfl (Nat.succ_ne_zero _) (fun q_175 h_175 => ?_)
                      refine e_iload_n dX11_looks_178 rfl ?_
                      refine m_iald (by decide) dX11_looks_179 h_175 (by omega) (by omega) ?_
                      simp only [makesF_3, makesF_4, cflF_2, cflF_3, cflF_4, cflF_5, cflF_16, q_us_ap, editsF_3, Int.reduceEq, Int.reduceNeg, false_and, and_false, and_self, if_true, if_false, true_and, and_true, ite_self]
                      have g_179 := rg_2 hW p (by omega) (by omega)
                      refine e_if_ne (tgt := 191) dX11_looks_180 (by decide) ⟨by omega, by omega⟩ (fun c_180 => ?_) (fun c_180 => ?_)
                      · refine e_aload_n dX11_looks_191 rfl ?_
                        refine e_iload_n dX11_looks_192 rfl ?_
                        refine e_iload_n dX11_looks_193 rfl ?_
                        refine e_cV (as := [_, _]) (ci := 11) dX11_looks_194 k_X11_keepsBoth l_X11_193 i_X11_keepsBoth v_X11_keepsBoth hT rfl (by decide) ⟨_, _, rfl⟩ rfl rfl rfl rfl (Nat.le_of_ble_eq_true rfl) ⟨by decide, by decide⟩ (Nat.le_of_ble_eq_true rfl) (by decide) (m_keepsBoth hT hWc hp hl (by rw [el] at hC; exact hC)) ?_
                        rw [← el]
                        have hl1 := look2_1 M p lat
                        refine e_if_eq (tgt := 204) dX11_looks_197 (by decide) ⟨by omega, by omega⟩ (fun c_197 => ?_) (fun c_197 => ?_)
                        · refine e_iconst dX11_looks_204 ?_
                          exact e_iret dX11_looks_205 (Or.inl rfl) (e_ok (by congr 2; omega) rfl rfl)
                        · refine e_iconst dX11_looks_200 ?_
                          refine e_goto (tgt := 205) dX11_looks_201 (by decide) ?_
                          exact e_iret dX11_looks_205 (Or.inl rfl) (e_ok (by congr 2; omega) rfl rfl)
                      · exfalso; omega
                    · exact absurd c_137 (by decide)
              · exact absurd c_114 (by decide)
            · exact absurd c_96 (by decide)
set_option maxRecDepth 20000 in
set_option maxHeartbeats 4000000 in
theorem m_look2 {K : q_K} {M C : q_S} {a : Nat} (hT : K a = (12, 0, 50)) (hW : WR M) {p lat : Int} (hp : 0 ≤ p ∧ p < 48) (hl : -1 ≤ lat ∧ lat < 120) (hC : CT (look2 M p lat).2) : q_E mX11_looks 16 [some (q_R a), some (q_I p), some (q_I lat), none, none, none] [] K M C 0 0 (e_is (some (q_I (look2 M p lat).1)) K (look2 M p lat).2 C) := by
  refine e_iload_n dX11_looks_16 rfl ?_
  refine e_iconst dX11_looks_17 ?_
  refine e_icmp_eq (tgt := 41) dX11_looks_18 (by decide) ⟨by omega, by omega⟩ ⟨by omega, by omega⟩ (fun c_18 => ?_) (fun c_18 => ?_)
  · exact m_look3 hT hW hp hl (fun h => by first | exact h.1 c_18 | exact c_27 h.2) hC
  · refine e_aload_n dX11_looks_21 rfl ?_
    refine e_iload_n dX11_looks_22 rfl ?_
    refine e_iload_n dX11_looks_23 rfl ?_
    refine e_cV (as := [_, _]) (ci := 11) dX11_looks_24 k_X11_isAs l_X11_148 i_X11_isAs v_X11_isAs hT rfl (by decide) ⟨_, _, rfl⟩ rfl rfl rfl rfl (Nat.le_of_ble_eq_true rfl) ⟨by decide, by decide⟩ (Nat.le_of_ble_eq_true rfl) (by decide) (m_isAs hT hW ⟨by omega, by omega⟩ ⟨by omega, by omega⟩) ?_
    refine e_if_eq (tgt := 41) dX11_looks_27 (by decide) bi_iI (fun c_27 => ?_) (fun c_27 => ?_)
    · simp only [bi_z, Classical.not_not] at c_27
      exact m_look3 hT hW hp hl (fun h => by first | exact h.1 c_18 | exact c_27 h.2) hC
    · simp only [bi_z, Classical.not_not] at c_27
      have el : look2 M p lat = (0, q_us M 5 p (lat + 1)) := by unfold look2; rw [if_pos ⟨c_18, c_27⟩]
      refine e_aload_n dX11_looks_30 rfl ?_
      refine m_getR (kt := (20, 48, 5)) (by decide) dX11_looks_31 f_X11_20 hT rfl (Nat.succ_ne_zero _) (fun q_31 h_31 => ?_)
      refine e_iload_n dX11_looks_34 rfl ?_
      refine e_iload_n dX11_looks_35 rfl ?_
      refine e_iconst dX11_looks_36 ?_
      refine e_iadd dX11_looks_37 ?_
      refine m_iast (by decide) dX11_looks_38 h_31 (by omega) (by omega) ⟨by omega, by omega⟩ ?_
      refine e_iconst dX11_looks_39 ?_
      exact e_iret dX11_looks_40 (Or.inl rfl) (e_ok (by rw [el]) (by rw [el]) rfl)
set_option maxRecDepth 20000 in
set_option maxHeartbeats 4000000 in
theorem m_looks {K : q_K} {M C : q_S} {a : Nat} (hT : K a = (12, 0, 50)) (hW : WR M) {p : Int} (hp : 0 ≤ p ∧ p < 48) (hC : CT (looksF M p).2) : q_E mX11_looks 0 [some (q_R a), some (q_I p), none, none, none, none] [] K M C 0 0 (e_is (some (q_I (looksF M p).1)) K (looksF M p).2 C) := by
  refine e_aload_n dX11_looks_0 rfl ?_
  refine e_iload_n dX11_looks_1 rfl ?_
  refine e_bipush dX11_looks_2 (by decide) ?_
  refine e_irem dX11_looks_4 ⟨by omega, by omega⟩ ⟨by omega, by omega⟩ ?_
  refine e_cV (as := [_]) (ci := 11) dX11_looks_5 k_X11_latestOf l_X11_184 i_X11_latestOf v_X11_latestOf hT rfl (by decide) ⟨_, _, rfl⟩ rfl rfl rfl rfl (Nat.le_of_ble_eq_true rfl) ⟨by decide, by decide⟩ (Nat.le_of_ble_eq_true rfl) (by decide) (m_latestOf hT hW ⟨by omega, by omega⟩) ?_
  have g_5 := latestOf_rg hW (p % 16)
  refine e_istore_n (ls2 := [_, _, _, _, _, _]) dX11_looks_8 (Nat.le_of_ble_eq_true rfl) rfl ?_
  refine e_aload_n dX11_looks_9 rfl ?_
  refine m_getR (kt := (20, 48, 8)) (by decide) dX11_looks_10 f_X11_29 hT rfl (Nat.succ_ne_zero _) (fun q_10 h_10 => ?_)
  refine e_iload_n dX11_looks_13 rfl ?_
  refine e_iconst dX11_looks_14 ?_
  refine m_iast (by decide) dX11_looks_15 h_10 (by omega) (by omega) ⟨by omega, by omega⟩ ?_
  have hl9 := latestOf_rg hW (p % 16)
  have hg9 := rs_16 hW
  exact m_look2 hT (WR.up hW ⟨(show (0 : Int) ≤ 0 by decide), (show (0 : Int) ≤ 1000000 by decide)⟩) hp ⟨by omega, by omega⟩ hC
