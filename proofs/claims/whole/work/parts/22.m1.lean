set_option maxRecDepth 20000 in
set_option maxHeartbeats 4000000 in
theorem m_in {K : q_K} {M C : q_S} {v lo hi : Int} (hv : q_iI v) (hl : q_iI lo) (hh : q_iI hi) : q_E mX11_in 0 [some (q_I v), some (q_I lo), some (q_I hi)] [] K M C 0 0 (e_is (some (q_I (bi (lo ≤ v ∧ v ≤ hi)))) K M C) := by
  refine e_iload_n dX11_in_0 rfl ?_
  refine e_iload_n dX11_in_1 rfl ?_
  refine e_icmp_lt (tgt := 14) dX11_in_2 (by decide) hv hl (fun c_2 => ?_) (fun c_2 => ?_)
  · refine e_iconst dX11_in_14 ?_
    exact e_iret dX11_in_15 (Or.inr ⟨rfl, by omega⟩) (e_ok (by unfold bi; split <;> first | rfl | (exfalso; omega)) rfl rfl)
  · refine e_iload_n dX11_in_5 rfl ?_
    refine e_iload_n dX11_in_6 rfl ?_
    refine e_icmp_gt (tgt := 14) dX11_in_7 (by decide) hv hh (fun c_7 => ?_) (fun c_7 => ?_)
    · refine e_iconst dX11_in_14 ?_
      exact e_iret dX11_in_15 (Or.inr ⟨rfl, by omega⟩) (e_ok (by unfold bi; split <;> first | rfl | (exfalso; omega)) rfl rfl)
    · refine e_iconst dX11_in_10 ?_
      refine e_goto (tgt := 15) dX11_in_11 (by decide) ?_
      exact e_iret dX11_in_15 (Or.inr ⟨rfl, by omega⟩) (e_ok (by unfold bi; split <;> first | rfl | (exfalso; omega)) rfl rfl)
set_option maxRecDepth 20000 in
set_option maxHeartbeats 4000000 in
theorem m_isMachine {K : q_K} {M C : q_S} {v : Int} (hv : q_iI v) : q_E mX11_isMachine 0 [some (q_I v)] [] K M C 0 0 (e_is (some (q_I (bi (0 ≤ v ∧ v ≤ 2)))) K M C) := by
  refine e_iload_n dX11_isMachine_0 rfl ?_
  refine e_iconst dX11_isMachine_1 ?_
  refine e_iconst dX11_isMachine_2 ?_
  refine e_cS (as := [_, _, _]) dX11_isMachine_3 k_X11_in l_X11_105 s_X11_in rfl rfl rfl rfl (Nat.le_of_ble_eq_true rfl) ⟨by decide, by decide⟩ (Nat.le_of_ble_eq_true rfl) (by decide) (m_in (by assumption) ⟨by decide, by decide⟩ ⟨by decide, by decide⟩) ?_
  exact e_iret dX11_isMachine_6 (Or.inr ⟨rfl, bi_01⟩) (e_ok rfl rfl rfl)
set_option maxRecDepth 20000 in
set_option maxHeartbeats 4000000 in
theorem m_isFile {K : q_K} {M C : q_S} {v : Int} (hv : q_iI v) : q_E mX11_isFile 0 [some (q_I v)] [] K M C 0 0 (e_is (some (q_I (bi (0 ≤ v ∧ v ≤ 15)))) K M C) := by
  refine e_iload_n dX11_isFile_0 rfl ?_
  refine e_iconst dX11_isFile_1 ?_
  refine e_bipush dX11_isFile_2 (by decide) ?_
  refine e_cS (as := [_, _, _]) dX11_isFile_4 k_X11_in l_X11_105 s_X11_in rfl rfl rfl rfl (Nat.le_of_ble_eq_true rfl) ⟨by decide, by decide⟩ (Nat.le_of_ble_eq_true rfl) (by decide) (m_in (by assumption) ⟨by decide, by decide⟩ ⟨by decide, by decide⟩) ?_
  exact e_iret dX11_isFile_7 (Or.inr ⟨rfl, bi_01⟩) (e_ok rfl rfl rfl)
set_option maxRecDepth 20000 in
set_option maxHeartbeats 4000000 in
theorem m_thrown {K : q_K} {M C : q_S} {a : Nat} (hT : K a = (12, 0, 50)) : q_E mX11_thrown 0 [some (q_R a)] [] K M C 0 0 (e_is (some (q_I (M 50 41))) K M C) := by
  refine e_aload_n dX11_thrown_0 rfl ?_
  refine m_getI (by decide) dX11_thrown_1 f_X11_101 (Or.inl rfl) hT ?_
  exact e_iret dX11_thrown_4 (Or.inl rfl) (e_ok rfl rfl rfl)
set_option maxRecDepth 20000 in
set_option maxHeartbeats 4000000 in
theorem m_lengthOf {K : q_K} {M C : q_S} {c : Int} (hc : 0 ≤ c ∧ c ≤ 1000000000000000000) : q_E mX11_lengthOf 0 [some (q_L c), none, none, none, none] [] K M C 0 0 (e_is (some (q_I (mlen c))) K M C) := by
  have lp : ∀ (k : Nat) (n l : Int), n + dcn k l = dcn 20 c - 1 → -1 ≤ n → n + k ≤ 19 → 0 ≤ l → l < 10 ^ k → l ≤ 1000000000000000000 → q_E mX11_lengthOf 4 [some (q_L c), none, some (q_I n), some (q_L l), none] [] K M C 0 0 (e_is (some (q_I (mlen c))) K M C) := by
    intro k
    induction k with
    | zero =>
      intro n l h1 h2 h3 h4 h5 h6
      have h7 : l = 0 := by simp at h5; omega
      rw [dcn_0] at h1
      have h8 := dcn_nn 20 c
      have h9 : 0 < c → 1 ≤ dcn 20 c := dcn_pos20
      have h10 : ¬ 0 < c → dcn 20 c = 0 := dcn_np20
      refine e_lload_n dX11_lengthOf_4 rfl ?_
      refine e_lconst (z := 0) dX11_lengthOf_5 rfl ?_
      refine e_lcmp dX11_lengthOf_6 ⟨by omega, by omega⟩ ⟨by omega, by omega⟩ ?_
      refine e_if_le (tgt := 22) dX11_lengthOf_7 (by decide) (q_cmp_iI _ _) (fun c_7 => ?_) (fun c_7 => ?_)
      · rw [q_cmp_le] at c_7
        refine e_iload_n dX11_lengthOf_22 rfl ?_
        refine e_if_ge (tgt := 30) dX11_lengthOf_23 (by decide) ⟨by omega, by omega⟩ (fun c_23 => ?_) (fun c_23 => ?_)
        · refine e_iload_n dX11_lengthOf_30 rfl ?_
          exact e_iret dX11_lengthOf_31 (Or.inl rfl) (e_ok (by unfold mlen; split <;> congr 2 <;> omega) rfl rfl)
        · refine e_iconst dX11_lengthOf_26 ?_
          refine e_goto (tgt := 31) dX11_lengthOf_27 (by decide) ?_
          exact e_iret dX11_lengthOf_31 (Or.inl rfl) (e_ok (by unfold mlen; split <;> congr 2 <;> omega) rfl rfl)
      · rw [q_cmp_le] at c_7
        exfalso; omega
    | succ k ih =>
      intro n l h1 h2 h3 h4 h5 h6
      have h8 := dcn_nn 20 c
      have h9 : 0 < c → 1 ≤ dcn 20 c := dcn_pos20
      have h10 : ¬ 0 < c → dcn 20 c = 0 := dcn_np20
      rw [dcn_s k l] at h1
      refine e_lload_n dX11_lengthOf_4 rfl ?_
      refine e_lconst (z := 0) dX11_lengthOf_5 rfl ?_
      refine e_lcmp dX11_lengthOf_6 ⟨by omega, by omega⟩ ⟨by omega, by omega⟩ ?_
      refine e_if_le (tgt := 22) dX11_lengthOf_7 (by decide) (q_cmp_iI _ _) (fun c_7 => ?_) (fun c_7 => ?_)
      · rw [q_cmp_le] at c_7
        rw [if_neg (by omega)] at h1
        refine e_iload_n dX11_lengthOf_22 rfl ?_
        refine e_if_ge (tgt := 30) dX11_lengthOf_23 (by decide) ⟨by omega, by omega⟩ (fun c_23 => ?_) (fun c_23 => ?_)
        · refine e_iload_n dX11_lengthOf_30 rfl ?_
          exact e_iret dX11_lengthOf_31 (Or.inl rfl) (e_ok (by unfold mlen; split <;> congr 2 <;> omega) rfl rfl)
        · refine e_iconst dX11_lengthOf_26 ?_
          refine e_goto (tgt := 31) dX11_lengthOf_27 (by decide) ?_
          exact e_iret dX11_lengthOf_31 (Or.inl rfl) (e_ok (by unfold mlen; split <;> congr 2 <;> omega) rfl rfl)
      · rw [q_cmp_le] at c_7
        refine e_iinc (ls2 := [_, _, _, _, _]) dX11_lengthOf_10 rfl (Nat.le_of_ble_eq_true rfl) rfl ?_
        refine e_lload_n dX11_lengthOf_13 rfl ?_
        refine e_ldc2 dX11_lengthOf_14 cl_X11_109 ?_
        refine e_ldiv dX11_lengthOf_17 ⟨by omega, by omega⟩ ⟨by omega, by omega⟩ ?_
        refine e_lstore_n (ls2 := [_, _, _, _, _]) dX11_lengthOf_18 (Nat.le_of_ble_eq_true rfl) rfl ?_
        refine e_goto (tgt := 4) dX11_lengthOf_19 (by decide) ?_
        exact ih _ _ (by rw [if_pos (by omega)] at h1; omega) (by omega) (by omega) (by omega) (by rw [Int.pow_succ] at h5; omega) (by omega)
  refine e_iconst dX11_lengthOf_0 ?_
  refine e_istore_n (ls2 := [_, _, _, _, _]) dX11_lengthOf_1 (Nat.le_of_ble_eq_true rfl) rfl ?_
  refine e_lload_n dX11_lengthOf_2 rfl ?_
  refine e_lstore_n (ls2 := [_, _, _, _, _]) dX11_lengthOf_3 (Nat.le_of_ble_eq_true rfl) rfl ?_
  exact lp 20 (-1) c (by omega) (by omega) (by omega) (by omega) (Int.lt_of_le_of_lt hc.2 (by decide)) (by omega)
