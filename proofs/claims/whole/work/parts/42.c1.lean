set_option maxRecDepth 20000 in
set_option maxHeartbeats 4000000 in
theorem c_nI1 {K : q_K} {B C : q_S} {i n : Int} (hi : q_iI i) (hn : q_iI n) (h : 0 ≤ i ∧ i < n) : q_E mX10_needIndex 0 [some (q_I i), some (q_I n)] [] K B C 0 0 (e_is none K B C) := by
  have hi1 := hi.1
  have hi2 := hi.2
  have hn1 := hn.1
  have hn2 := hn.2
  refine e_iload_n dX10_needIndex_0 rfl ?_
  refine e_if_lt (tgt := 9) dX10_needIndex_1 (by decide) ⟨by omega, by omega⟩ (fun c_1 => ?_) (fun c_1 => ?_)
  · exfalso; omega
  · refine e_iload_n dX10_needIndex_4 rfl ?_
    refine e_iload_n dX10_needIndex_5 rfl ?_
    refine e_icmp_lt (tgt := 20) dX10_needIndex_6 (by decide) ⟨by omega, by omega⟩ ⟨by omega, by omega⟩ (fun c_6 => ?_) (fun c_6 => ?_)
    · exact e_ret dX10_needIndex_20 rfl (e_ok rfl rfl rfl)
    · exfalso; omega
set_option maxRecDepth 20000 in
set_option maxHeartbeats 4000000 in
theorem c_nI0 {K : q_K} {B C : q_S} {i n : Int} (hi : q_iI i) (hn : q_iI n) {c s : Nat} (hc : 1 ≤ c) (hs : 6 ≤ s) (h : ¬ (0 ≤ i ∧ i < n)) : q_E mX10_needIndex 0 [some (q_I i), some (q_I n)] [] K B C c s (e_th "java/lang/IndexOutOfBoundsException" K B C) := by
  have hi1 := hi.1
  have hi2 := hi.2
  have hn1 := hn.1
  have hn2 := hn.2
  refine e_iload_n dX10_needIndex_0 rfl ?_
  refine e_if_lt (tgt := 9) dX10_needIndex_1 (by decide) ⟨by omega, by omega⟩ (fun c_1 => ?_) (fun c_1 => ?_)
  · exact e_thrW dX10_needIndex_9 dX10_needIndex_12 dX10_needIndex_13 dX10_needIndex_16 dX10_needIndex_19 x_idx y_such rfl (Nat.le_of_ble_eq_true rfl) ⟨by decide, by decide⟩ hc hs e_tok
  · refine e_iload_n dX10_needIndex_4 rfl ?_
    refine e_iload_n dX10_needIndex_5 rfl ?_
    refine e_icmp_lt (tgt := 20) dX10_needIndex_6 (by decide) ⟨by omega, by omega⟩ ⟨by omega, by omega⟩ (fun c_6 => ?_) (fun c_6 => ?_)
    · exfalso; omega
    · exact e_thrW dX10_needIndex_9 dX10_needIndex_12 dX10_needIndex_13 dX10_needIndex_16 dX10_needIndex_19 x_idx y_such rfl (Nat.le_of_ble_eq_true rfl) ⟨by decide, by decide⟩ hc hs e_tok
set_option maxRecDepth 20000 in
set_option maxHeartbeats 4000000 in
theorem c_nR1 {K : q_K} {B C : q_S} {x lo hi : Int} (hx : q_iI x) (hl : q_iI lo) (hh : q_iI hi) (h : lo ≤ x ∧ x ≤ hi) : q_E mX10_needRange 0 [some (q_I x), some (q_I lo), some (q_I hi)] [] K B C 0 0 (e_is none K B C) := by
  have hx1 := hx.1
  have hx2 := hx.2
  have hl1 := hl.1
  have hl2 := hl.2
  have hh1 := hh.1
  have hh2 := hh.2
  refine e_iload_n dX10_needRange_0 rfl ?_
  refine e_iload_n dX10_needRange_1 rfl ?_
  refine e_icmp_lt (tgt := 10) dX10_needRange_2 (by decide) ⟨by omega, by omega⟩ ⟨by omega, by omega⟩ (fun c_2 => ?_) (fun c_2 => ?_)
  · exfalso; omega
  · refine e_iload_n dX10_needRange_5 rfl ?_
    refine e_iload_n dX10_needRange_6 rfl ?_
    refine e_icmp_le (tgt := 21) dX10_needRange_7 (by decide) ⟨by omega, by omega⟩ ⟨by omega, by omega⟩ (fun c_7 => ?_) (fun c_7 => ?_)
    · exact e_ret dX10_needRange_21 rfl (e_ok rfl rfl rfl)
    · exfalso; omega
set_option maxRecDepth 20000 in
set_option maxHeartbeats 4000000 in
theorem c_nR0 {K : q_K} {B C : q_S} {x lo hi : Int} (hx : q_iI x) (hl : q_iI lo) (hh : q_iI hi) {c s : Nat} (hc : 1 ≤ c) (hs : 6 ≤ s) (h : ¬ (lo ≤ x ∧ x ≤ hi)) : q_E mX10_needRange 0 [some (q_I x), some (q_I lo), some (q_I hi)] [] K B C c s (e_th "java/lang/IllegalArgumentException" K B C) := by
  have hx1 := hx.1
  have hx2 := hx.2
  have hl1 := hl.1
  have hl2 := hl.2
  have hh1 := hh.1
  have hh2 := hh.2
  refine e_iload_n dX10_needRange_0 rfl ?_
  refine e_iload_n dX10_needRange_1 rfl ?_
  refine e_icmp_lt (tgt := 10) dX10_needRange_2 (by decide) ⟨by omega, by omega⟩ ⟨by omega, by omega⟩ (fun c_2 => ?_) (fun c_2 => ?_)
  · exact e_thrW dX10_needRange_10 dX10_needRange_13 dX10_needRange_14 dX10_needRange_17 dX10_needRange_20 x_arg y_rang rfl (Nat.le_of_ble_eq_true rfl) ⟨by decide, by decide⟩ hc hs e_tok
  · refine e_iload_n dX10_needRange_5 rfl ?_
    refine e_iload_n dX10_needRange_6 rfl ?_
    refine e_icmp_le (tgt := 21) dX10_needRange_7 (by decide) ⟨by omega, by omega⟩ ⟨by omega, by omega⟩ (fun c_7 => ?_) (fun c_7 => ?_)
    · exfalso; omega
    · exact e_thrW dX10_needRange_10 dX10_needRange_13 dX10_needRange_14 dX10_needRange_17 dX10_needRange_20 x_arg y_rang rfl (Nat.le_of_ble_eq_true rfl) ⟨by decide, by decide⟩ hc hs e_tok
set_option maxRecDepth 20000 in
set_option maxHeartbeats 4000000 in
theorem c_nF1 {K : q_K} {B M C : q_S} {a : Nat} (hT : K a = (11, 0, 100)) (hR : RC M C) (hI : MI M) (hW : WR M) (h : M 50 16 ≤ 100) : q_E mX10_needFewVersions 0 [some (q_R a)] [] K B C 0 0 (e_is none K B C) := by
  refine e_aload_n dX10_needFewVersions_0 rfl ?_
  refine c_getR (kt := (6, 0, 104)) (by decide) (Or.inl (by decide)) dX10_needFewVersions_1 f_X10_83 hT rfl (Nat.succ_ne_zero _) (fun q_1 h_1 => ?_)
  refine c_getI (by decide) dX10_needFewVersions_4 f_X10_159 (Or.inl rfl) h_1 ?_
  rw [rs_made hR]
  have g_4 := rs_16 hW
  refine e_bipush dX10_needFewVersions_7 (by decide) ?_
  refine e_icmp_le (tgt := 23) dX10_needFewVersions_9 (by decide) ⟨by omega, by omega⟩ ⟨by omega, by omega⟩ (fun c_9 => ?_) (fun c_9 => ?_)
  · exact e_ret dX10_needFewVersions_23 rfl (e_ok rfl rfl rfl)
  · exfalso; omega
set_option maxRecDepth 20000 in
set_option maxHeartbeats 4000000 in
theorem c_nF0 {K : q_K} {B M C : q_S} {a : Nat} (hT : K a = (11, 0, 100)) (hR : RC M C) (hI : MI M) (hW : WR M) {c s : Nat} (hc : 1 ≤ c) (hs : 6 ≤ s) (h : ¬ M 50 16 ≤ 100) : q_E mX10_needFewVersions 0 [some (q_R a)] [] K B C c s (e_th "java/lang/IllegalStateException" K B C) := by
  refine e_aload_n dX10_needFewVersions_0 rfl ?_
  refine c_getR (kt := (6, 0, 104)) (by decide) (Or.inl (by decide)) dX10_needFewVersions_1 f_X10_83 hT rfl (Nat.succ_ne_zero _) (fun q_1 h_1 => ?_)
  refine c_getI (by decide) dX10_needFewVersions_4 f_X10_159 (Or.inl rfl) h_1 ?_
  rw [rs_made hR]
  have g_4 := rs_16 hW
  refine e_bipush dX10_needFewVersions_7 (by decide) ?_
  refine e_icmp_le (tgt := 23) dX10_needFewVersions_9 (by decide) ⟨by omega, by omega⟩ ⟨by omega, by omega⟩ (fun c_9 => ?_) (fun c_9 => ?_)
  · exfalso; omega
  · exact e_thrW dX10_needFewVersions_12 dX10_needFewVersions_15 dX10_needFewVersions_16 dX10_needFewVersions_19 dX10_needFewVersions_22 x_sta y_more rfl (Nat.le_of_ble_eq_true rfl) ⟨by decide, by decide⟩ hc hs e_tok
set_option maxRecDepth 20000 in
set_option maxHeartbeats 4000000 in
theorem c_0_numberIn {K : q_K} {B M C : q_S} {x : Nat} {c : Int} (hx : K x = (1, 0, (1000000 + 3 * c))) (hc : vcode c) (hR : RC M C) (hI : MI M) (hW : WR M) {k : Int} (hk : q_iI k) : q_E mX0_numberIn 0 [some (q_R x), some (q_I k)] [] K B C 0 0 (e_is (some (q_I (if 0 ≤ k ∧ k < mlen c then fig c k else -1))) K B C) := by
  have hc0 := hc.1
  have hcl := vcode_len hc
  have hk1 := hk.1
  have hk2 := hk.2
  refine e_iload_n dX0_numberIn_0 rfl ?_
  refine e_if_lt (tgt := 21) dX0_numberIn_1 (by decide) ⟨by omega, by omega⟩ (fun c_1 => ?_) (fun c_1 => ?_)
  · refine e_iconst dX0_numberIn_21 ?_
    exact e_iret dX0_numberIn_22 (Or.inl rfl) (e_ok (by first | rw [if_pos ⟨by omega, by omega⟩] | rw [if_neg (by omega)]) rfl rfl)
  · refine e_iload_n dX0_numberIn_4 rfl ?_
    refine e_aload_n dX0_numberIn_5 rfl ?_
    refine c_getI (by omega) dX0_numberIn_6 f_X0_27 (Or.inl rfl) hx ?_
    rw [cc_0 (rc_C hR) (c := c) (by assumption)]
    have g_6 := mlen_nn c
    refine e_icmp_ge (tgt := 21) dX0_numberIn_9 (by decide) ⟨by omega, by omega⟩ ⟨by omega, by omega⟩ (fun c_9 => ?_) (fun c_9 => ?_)
    · refine e_iconst dX0_numberIn_21 ?_
      exact e_iret dX0_numberIn_22 (Or.inl rfl) (e_ok (by first | rw [if_pos ⟨by omega, by omega⟩] | rw [if_neg (by omega)]) rfl rfl)
    · refine e_aload_n dX0_numberIn_12 rfl ?_
      refine c_getR (kt := (20, 12, (1000000 + 3 * c + 1))) (by omega) (Or.inl (by omega)) dX0_numberIn_13 f_X0_9 hx (kl_cn (by omega)) (Nat.succ_ne_zero _) (fun q_13 h_13 => ?_)
      refine e_iload_n dX0_numberIn_16 rfl ?_
      refine c_iald (by omega) dX0_numberIn_17 h_13 (by omega) (by omega) ?_
      rw [cc_n (rc_C hR) (c := c) (i := k) (by assumption) ⟨by omega, by omega⟩]
      have g_17 := fig_rg c k
      refine e_goto (tgt := 22) dX0_numberIn_18 (by decide) ?_
      exact e_iret dX0_numberIn_22 (Or.inl rfl) (e_ok (by first | rw [if_pos ⟨by omega, by omega⟩] | rw [if_neg (by omega)]) rfl rfl)
set_option maxRecDepth 20000 in
set_option maxHeartbeats 4000000 in
theorem c_0_pieceIn {K : q_K} {B M C : q_S} {x : Nat} {c : Int} (hx : K x = (1, 0, (1000000 + 3 * c))) (hc : vcode c) (hR : RC M C) (hI : MI M) (hW : WR M) {k : Int} (hk : q_iI k) : q_E mX0_pieceIn 0 [some (q_R x), some (q_I k)] [] K B C 0 0 (e_is (some (q_I (if 0 ≤ k ∧ k < ncut c then pce c k else -1))) K B C) := by
  have hc0 := hc.1
  have hcl := vcode_len hc
  have hk1 := hk.1
  have hk2 := hk.2
  have hnc := ncut_rg c
  refine e_iload_n dX0_pieceIn_0 rfl ?_
  refine e_if_lt (tgt := 21) dX0_pieceIn_1 (by decide) ⟨by omega, by omega⟩ (fun c_1 => ?_) (fun c_1 => ?_)
  · refine e_iconst dX0_pieceIn_21 ?_
    exact e_iret dX0_pieceIn_22 (Or.inl rfl) (e_ok (by first | rw [if_pos ⟨by omega, by omega⟩] | rw [if_neg (by omega)]) rfl rfl)
  · refine e_iload_n dX0_pieceIn_4 rfl ?_
    refine e_aload_n dX0_pieceIn_5 rfl ?_
    refine c_getI (by omega) dX0_pieceIn_6 f_X0_31 (Or.inl rfl) hx ?_
    rw [cc_1 (rc_C hR) (c := c) (by assumption)]
    have g_6 := ncut_rg c
    refine e_icmp_ge (tgt := 21) dX0_pieceIn_9 (by decide) ⟨by omega, by omega⟩ ⟨by omega, by omega⟩ (fun c_9 => ?_) (fun c_9 => ?_)
    · refine e_iconst dX0_pieceIn_21 ?_
      exact e_iret dX0_pieceIn_22 (Or.inl rfl) (e_ok (by first | rw [if_pos ⟨by omega, by omega⟩] | rw [if_neg (by omega)]) rfl rfl)
    · refine e_aload_n dX0_pieceIn_12 rfl ?_
      refine c_getR (kt := (20, 12, (1000000 + 3 * c + 2))) (by omega) (Or.inl (by omega)) dX0_pieceIn_13 f_X0_15 hx (kl_cp (by omega)) (Nat.succ_ne_zero _) (fun q_13 h_13 => ?_)
      refine e_iload_n dX0_pieceIn_16 rfl ?_
      refine c_iald (by omega) dX0_pieceIn_17 h_13 (by omega) (by omega) ?_
      rw [cc_p (rc_C hR) (c := c) (i := k) (by assumption) ⟨by omega, by omega⟩]
      have g_17 := pce_rg c k
      refine e_goto (tgt := 22) dX0_pieceIn_18 (by decide) ?_
      exact e_iret dX0_pieceIn_22 (Or.inl rfl) (e_ok (by first | rw [if_pos ⟨by omega, by omega⟩] | rw [if_neg (by omega)]) rfl rfl)
set_option maxRecDepth 20000 in
set_option maxHeartbeats 4000000 in
theorem c_0_isSame {K : q_K} {B M C : q_S} {x : Nat} {c : Int} (hx : K x = (1, 0, (1000000 + 3 * c))) (hc : vcode c) {y : Nat} {d : Int} (hy : K y = (1, 0, (1000000 + 3 * d))) (hd : vcode d) (hR : RC M C) (hI : MI M) (hW : WR M) : q_E mX0_isSame 0 [some (q_R x), some (q_R y), none] [] K B C 0 0 (e_is (some (q_I (bi (c = d)))) K B C) := by
  have hc0 := hc.1
  have hcl := vcode_len hc
  have hd0 := hd.1
  have hdl := vcode_len hd
  have lp : mlen c = mlen d → ∀ (r : Nat) (i : Int), i + r = mlen c → 0 ≤ i → (∀ k, 0 ≤ k → k < i → fig c k = fig d k) → q_E mX0_isSame 15 [some (q_R x), some (q_R y), some (q_I i)] [] K B C 0 0 (e_is (some (q_I (bi (c = d)))) K B C) := by
    intro hl r
    induction r with
    | zero =>
      intro i h1 h2 h3
      refine e_iload_n dX0_isSame_15 rfl ?_
      refine e_aload_n dX0_isSame_16 rfl ?_
      refine c_getI (by omega) dX0_isSame_17 f_X0_27 (Or.inl rfl) hx ?_
      rw [cc_0 (rc_C hR) (c := c) (by assumption)]
      have g_17 := mlen_nn c
      refine e_icmp_ge (tgt := 46) dX0_isSame_20 (by decide) ⟨by omega, by omega⟩ ⟨by omega, by omega⟩ (fun c_20 => ?_) (fun c_20 => ?_)
      · refine e_iconst dX0_isSame_46 ?_
        exact e_iret dX0_isSame_47 (Or.inr ⟨rfl, by omega⟩) (e_ok (by rw [bi_t (vcode_ext hc hd hl (fun k g1 g2 => h3 k g1 (by omega)))]) rfl rfl)
      · exfalso; omega
    | succ r ih =>
      intro i h1 h2 h3
      refine e_iload_n dX0_isSame_15 rfl ?_
      refine e_aload_n dX0_isSame_16 rfl ?_
      refine c_getI (by omega) dX0_isSame_17 f_X0_27 (Or.inl rfl) hx ?_
      rw [cc_0 (rc_C hR) (c := c) (by assumption)]
      have g_17 := mlen_nn c
      refine e_icmp_ge (tgt := 46) dX0_isSame_20 (by decide) ⟨by omega, by omega⟩ ⟨by omega, by omega⟩ (fun c_20 => ?_) (fun c_20 => ?_)
      · exfalso; omega
      · refine e_aload_n dX0_isSame_23 rfl ?_
        refine c_getR (kt := (20, 12, (1000000 + 3 * c + 1))) (by omega) (Or.inl (by omega)) dX0_isSame_24 f_X0_9 hx (kl_cn (by omega)) (Nat.succ_ne_zero _) (fun q_24 h_24 => ?_)
        refine e_iload_n dX0_isSame_27 rfl ?_
        refine c_iald (by omega) dX0_isSame_28 h_24 (by omega) (by omega) ?_
        rw [cc_n (rc_C hR) (c := c) (i := i) (by assumption) ⟨by omega, by omega⟩]
        have g_28 := fig_rg c i
        refine e_aload_n dX0_isSame_29 rfl ?_
        refine c_getR (kt := (20, 12, (1000000 + 3 * d + 1))) (by omega) (Or.inl (by omega)) dX0_isSame_30 f_X0_9 hy (kl_cn (by omega)) (Nat.succ_ne_zero _) (fun q_30 h_30 => ?_)
        refine e_iload_n dX0_isSame_33 rfl ?_
        refine c_iald (by omega) dX0_isSame_34 h_30 (by omega) (by omega) ?_
        rw [cc_n (rc_C hR) (c := d) (i := i) (by assumption) ⟨by omega, by omega⟩]
        have g_34 := fig_rg d i
        refine e_icmp_eq (tgt := 40) dX0_isSame_35 (by decide) ⟨by omega, by omega⟩ ⟨by omega, by omega⟩ (fun c_35 => ?_) (fun c_35 => ?_)
        · refine e_iinc (ls2 := [_, _, _]) dX0_isSame_40 rfl (Nat.le_of_ble_eq_true rfl) rfl ?_
          refine e_goto (tgt := 15) dX0_isSame_43 (by decide) ?_
          exact ih (i + 1) (by omega) (by omega) (fun k g1 g2 => by by_cases e : k = i; (rw [e]; exact c_35); exact h3 k g1 (by omega))
        · refine e_iconst dX0_isSame_38 ?_
          exact e_iret dX0_isSame_39 (Or.inr ⟨rfl, by omega⟩) (e_ok (by rw [bi_f (fun e => c_35 (by rw [e]))]) rfl rfl)
  refine e_aload_n dX0_isSame_0 rfl ?_
  refine c_getI (by omega) dX0_isSame_1 f_X0_27 (Or.inl rfl) hx ?_
  rw [cc_0 (rc_C hR) (c := c) (by assumption)]
  have g_1 := mlen_nn c
  refine e_aload_n dX0_isSame_4 rfl ?_
  refine c_getI (by omega) dX0_isSame_5 f_X0_27 (Or.inl rfl) hy ?_
  rw [cc_0 (rc_C hR) (c := d) (by assumption)]
  have g_5 := mlen_nn d
  refine e_icmp_eq (tgt := 13) dX0_isSame_8 (by decide) ⟨by omega, by omega⟩ ⟨by omega, by omega⟩ (fun c_8 => ?_) (fun c_8 => ?_)
  · refine e_iconst dX0_isSame_13 ?_
    refine e_istore_n (ls2 := [_, _, _]) dX0_isSame_14 (Nat.le_of_ble_eq_true rfl) rfl ?_
    exact lp c_8 (mlen c).toNat 0 (by omega) (by omega) (fun k g1 g2 => by omega)
  · refine e_iconst dX0_isSame_11 ?_
    exact e_iret dX0_isSame_12 (Or.inr ⟨rfl, by omega⟩) (e_ok (by rw [bi_f (fun e => c_8 (by rw [e]))]) rfl rfl)
set_option maxRecDepth 20000 in
set_option maxHeartbeats 4000000 in
theorem c_9_isDeletion {K : q_K} {B M C : q_S} {x : Nat} {v : Int} (hx : K x = (10, 0, (vtag v))) (hv : -1 ≤ v ∧ v < M 50 16) (hR : RC M C) (hI : MI M) (hW : WR M) : q_E mX9_isDeletion 0 [some (q_R x)] [] K B C 0 0 (e_is (some (q_I (bi (vfo M v = -1)))) K B C) := by
  have h16 := rs_16 hW
  refine e_aload_n dX9_isDeletion_0 rfl ?_
  refine c_getI (by have := vtag_rg (v := v) (by omega); omega) dX9_isDeletion_1 f_X9_25 (Or.inl rfl) hx ?_
  rw [rv_3 hR (v := v) ⟨by omega, by omega⟩]
  have g_1 := vfo_rg hW v
  refine e_iconst dX9_isDeletion_4 ?_
  refine e_icmp_ne (tgt := 12) dX9_isDeletion_5 (by decide) ⟨by omega, by omega⟩ ⟨by omega, by omega⟩ (fun c_5 => ?_) (fun c_5 => ?_)
  · refine e_iconst dX9_isDeletion_12 ?_
    exact e_iret dX9_isDeletion_13 (Or.inr ⟨rfl, (by first | exact Or.inl rfl | exact Or.inr rfl)⟩) (e_ok (by unfold bi; split <;> first | rfl | (exfalso; omega)) rfl rfl)
  · refine e_iconst dX9_isDeletion_8 ?_
    refine e_goto (tgt := 13) dX9_isDeletion_9 (by decide) ?_
    exact e_iret dX9_isDeletion_13 (Or.inr ⟨rfl, (by first | exact Or.inl rfl | exact Or.inr rfl)⟩) (e_ok (by unfold bi; split <;> first | rfl | (exfalso; omega)) rfl rfl)
set_option maxRecDepth 20000 in
set_option maxHeartbeats 4000000 in
theorem c_9_isAs {K : q_K} {B M C : q_S} {x : Nat} {v : Int} (hx : K x = (10, 0, (vtag v))) (hv : -1 ≤ v ∧ v < M 50 16) {y : Nat} {d : Int} (hy : K y = (1, 0, (1000000 + 3 * d))) (hd : vcode d) (hR : RC M C) (hI : MI M) (hW : WR M) {fo : Int} (hf : -1 ≤ fo ∧ fo ≤ 3) : q_E mX9_isAs 0 [some (q_R x), some (q_I fo), some (q_R y)] [] K B C 0 0 (e_is (some (q_I (bi (vfo M v = fo ∧ vco M v = d)))) K B C) := by
  have h16 := rs_16 hW
  have hd0 := hd.1
  have hdl := vcode_len hd
  refine e_aload_n dX9_isAs_0 rfl ?_
  refine c_getI (by have := vtag_rg (v := v) (by omega); omega) dX9_isAs_1 f_X9_25 (Or.inl rfl) hx ?_
  rw [rv_3 hR (v := v) ⟨by omega, by omega⟩]
  have g_1 := vfo_rg hW v
  refine e_iload_n dX9_isAs_4 rfl ?_
  refine e_icmp_ne (tgt := 23) dX9_isAs_5 (by decide) ⟨by omega, by omega⟩ ⟨by omega, by omega⟩ (fun c_5 => ?_) (fun c_5 => ?_)
  · refine e_iconst dX9_isAs_23 ?_
    exact e_iret dX9_isAs_24 (Or.inr ⟨rfl, by omega⟩) (e_ok (by first | rw [bi_t (show vfo M v = fo ∧ vco M v = d from ⟨c_5, c_16⟩)] | rw [bi_f (show ¬ (vfo M v = fo ∧ vco M v = d) from fun g => c_5 g.1)] | rw [bi_f (show ¬ (vfo M v = fo ∧ vco M v = d) from fun g => c_16 g.2)]) rfl rfl)
  · refine e_aload_n dX9_isAs_8 rfl ?_
    have hv_9 : vcode (vco M v) := vco_ok hI ⟨by omega, by omega⟩
    have hg_9 := hv_9.1
    refine c_getR (kt := (1, 0, (1000000 + 3 * vco M v))) (by have := vtag_rg (v := v) (by omega); omega) (Or.inl (by have := vtag_rg (v := v) (by omega); omega)) dX9_isAs_9 f_X9_28 hx (kl_vc ⟨by omega, by omega⟩ (by omega) (rv_4 hR ⟨by omega, by omega⟩)) (Nat.succ_ne_zero _) (fun q_9 h_9 => ?_)
    refine e_aload_n dX9_isAs_12 rfl ?_
    refine e_cV (as := [_]) (ci := 0) dX9_isAs_13 k_X0_isSame l_X9_32 i_X0_isSame v_X0_isSame h_9 rfl (by decide) ⟨_, _, rfl⟩ rfl rfl rfl rfl (Nat.le_of_ble_eq_true rfl) ⟨by decide, by decide⟩ (Nat.le_of_ble_eq_true rfl) (by decide) (c_0_isSame h_9 hv_9 hy hd hR hI hW) ?_
    refine e_if_eq (tgt := 23) dX9_isAs_16 (by decide) bi_iI (fun c_16 => ?_) (fun c_16 => ?_)
    · simp only [bi_z, Classical.not_not] at c_16
      refine e_iconst dX9_isAs_23 ?_
      exact e_iret dX9_isAs_24 (Or.inr ⟨rfl, by omega⟩) (e_ok (by first | rw [bi_t (show vfo M v = fo ∧ vco M v = d from ⟨c_5, c_16⟩)] | rw [bi_f (show ¬ (vfo M v = fo ∧ vco M v = d) from fun g => c_5 g.1)] | rw [bi_f (show ¬ (vfo M v = fo ∧ vco M v = d) from fun g => c_16 g.2)]) rfl rfl)
    · simp only [bi_z, Classical.not_not] at c_16
      refine e_iconst dX9_isAs_19 ?_
      refine e_goto (tgt := 24) dX9_isAs_20 (by decide) ?_
      exact e_iret dX9_isAs_24 (Or.inr ⟨rfl, by omega⟩) (e_ok (by first | rw [bi_t (show vfo M v = fo ∧ vco M v = d from ⟨c_5, c_16⟩)] | rw [bi_f (show ¬ (vfo M v = fo ∧ vco M v = d) from fun g => c_5 g.1)] | rw [bi_f (show ¬ (vfo M v = fo ∧ vco M v = d) from fun g => c_16 g.2)]) rfl rfl)
set_option maxRecDepth 20000 in
set_option maxHeartbeats 4000000 in
theorem c_5_at {K : q_K} {B M C : q_S} {l : Nat} (hL : K l = (6, 0, 104)) (hR : RC M C) (hI : MI M) (hW : WR M) {v : Int} (hv : -1 ≤ v ∧ v < M 50 16) : q_E mX5_at 0 [some (q_R l), some (q_I v)] [] K B C 0 0 (e_rf (10, 0, vtag v) K B C) := by
  have h16 := rs_16 hW
  refine e_iload_n dX5_at_0 rfl ?_
  refine e_if_lt (tgt := 21) dX5_at_1 (by decide) ⟨by omega, by omega⟩ (fun c_1 => ?_) (fun c_1 => ?_)
  · refine e_aload_n dX5_at_21 rfl ?_
    refine c_getR (kt := (10, 0, (vtag (-1)))) (by decide) (Or.inl (by decide)) dX5_at_22 f_X5_28 hL rfl (Nat.succ_ne_zero _) (fun q_22 h_22 => ?_)
    exact e_aret dX5_at_25 rfl (by first | exact e_rok h_17 | (rw [show v = -1 by omega]; exact e_rok h_22))
  · refine e_iload_n dX5_at_4 rfl ?_
    refine e_aload_n dX5_at_5 rfl ?_
    refine c_getI (by decide) dX5_at_6 f_X5_9 (Or.inl rfl) hL ?_
    rw [rs_made hR]
    have g_6 := rs_16 hW
    refine e_icmp_ge (tgt := 21) dX5_at_9 (by decide) ⟨by omega, by omega⟩ ⟨by omega, by omega⟩ (fun c_9 => ?_) (fun c_9 => ?_)
    · exfalso; omega
    · refine e_aload_n dX5_at_12 rfl ?_
      refine c_getR (kt := (39, 120, 125)) (by decide) (Or.inl (by decide)) dX5_at_13 f_X5_21 hL rfl (Nat.succ_ne_zero _) (fun q_13 h_13 => ?_)
      refine e_iload_n dX5_at_16 rfl ?_
      refine c_aald (ci := 9) (kt := (10, 0, (vtag v))) (by decide) (Or.inl (by decide)) dX5_at_17 h_13 (by decide) (by omega) (by omega) (kl_r ⟨by omega, by omega⟩ (rw_v hR ⟨by omega, by omega⟩)) (Nat.succ_ne_zero _) (fun q_17 h_17 => ?_)
      refine e_goto (tgt := 25) dX5_at_18 (by decide) ?_
      exact e_aret dX5_at_25 rfl (by first | exact e_rok h_17 | (rw [show v = -1 by omega]; exact e_rok h_22))
set_option maxRecDepth 20000 in
set_option maxHeartbeats 4000000 in
theorem c_5_latestOf {K : q_K} {B M C : q_S} {l : Nat} (hL : K l = (6, 0, 104)) (hR : RC M C) (hI : MI M) (hW : WR M) {f : Int} (hf : 0 ≤ f ∧ f ≤ 15) : q_E mX5_latestOf 0 [some (q_R l), some (q_I f)] [] K B C 0 0 (e_is (some (q_I (latestOf M f))) K B C) := by
  have h16 := rs_16 hW
  refine e_iload_n dX5_latestOf_0 rfl ?_
  refine e_if_lt (tgt := 19) dX5_latestOf_1 (by decide) ⟨by omega, by omega⟩ (fun c_1 => ?_) (fun c_1 => ?_)
  · exfalso; omega
  · refine e_iload_n dX5_latestOf_4 rfl ?_
    refine e_bipush dX5_latestOf_5 (by decide) ?_
    refine e_icmp_ge (tgt := 19) dX5_latestOf_7 (by decide) ⟨by omega, by omega⟩ ⟨by omega, by omega⟩ (fun c_7 => ?_) (fun c_7 => ?_)
    · exfalso; omega
    · refine e_aload_n dX5_latestOf_10 rfl ?_
      refine c_getR (kt := (20, 16, 124)) (by decide) (Or.inl (by decide)) dX5_latestOf_11 f_X5_15 hL rfl (Nat.succ_ne_zero _) (fun q_11 h_11 => ?_)
      refine e_iload_n dX5_latestOf_14 rfl ?_
      refine c_iald (by decide) dX5_latestOf_15 h_11 (by omega) (by omega) ?_
      rw [rv_l hR (f := f) ⟨by omega, by omega⟩]
      have g_15 := latestOf_rg hW f
      refine e_goto (tgt := 20) dX5_latestOf_16 (by decide) ?_
      exact e_iret dX5_latestOf_20 (Or.inl rfl) (e_ok rfl rfl rfl)
set_option maxRecDepth 20000 in
set_option maxHeartbeats 4000000 in
theorem c_5_lastUpTo {K : q_K} {B M C : q_S} {l : Nat} (hL : K l = (6, 0, 104)) (hR : RC M C) (hI : MI M) (hW : WR M) {f t : Int} (hf : 0 ≤ f ∧ f ≤ 15) (ht : 0 ≤ t ∧ t ≤ 2000) : q_E mX5_lastUpTo 0 [some (q_R l), some (q_I f), some (q_I t), none, none] [] K B C 0 0 (e_is (some (q_I (asOfT M f t))) K B C) := by
  have h16 := rs_16 hW
  have lp : ∀ n : Nat, (n : Int) ≤ M 50 16 → asOfF M f t n = asOfT M f t → q_E mX5_lastUpTo 7 [some (q_R l), some (q_I f), some (q_I t), some (q_I ((n : Int) - 1)), none] [] K B C 0 0 (e_is (some (q_I (asOfT M f t))) K B C) := by
    intro n
    induction n with
    | zero =>
      intro h1 h2
      refine e_iload_n dX5_lastUpTo_7 rfl ?_
      refine e_if_lt (tgt := 53) dX5_lastUpTo_8 (by decide) ⟨by omega, by omega⟩ (fun c_8 => ?_) (fun c_8 => ?_)
      · refine e_iconst dX5_lastUpTo_53 ?_
        exact e_iret dX5_lastUpTo_54 (Or.inl rfl) (e_ok (by rw [← h2]; rfl) rfl rfl)
      · exfalso; omega
    | succ n ih =>
      intro h1 h2
      have e9 : ((n + 1 : Nat) : Int) - 1 = n := by omega
      rw [e9]
      simp only [asOfF] at h2
      refine e_iload_n dX5_lastUpTo_7 rfl ?_
      refine e_if_lt (tgt := 53) dX5_lastUpTo_8 (by decide) ⟨by omega, by omega⟩ (fun c_8 => ?_) (fun c_8 => ?_)
      · exfalso; omega
      · refine e_aload_n dX5_lastUpTo_11 rfl ?_
        refine c_getR (kt := (39, 120, 125)) (by decide) (Or.inl (by decide)) dX5_lastUpTo_12 f_X5_21 hL rfl (Nat.succ_ne_zero _) (fun q_12 h_12 => ?_)
        refine e_iload_n dX5_lastUpTo_15 rfl ?_
        refine c_aald (ci := 9) (kt := (10, 0, (vtag (n : Int)))) (by decide) (Or.inl (by decide)) dX5_lastUpTo_16 h_12 (by decide) (by omega) (by omega) (kl_r ⟨by omega, by omega⟩ (rw_v hR ⟨by omega, by omega⟩)) (Nat.succ_ne_zero _) (fun q_16 h_16 => ?_)
        refine e_astore (ls2 := [_, _, _, _, _]) dX5_lastUpTo_17 (Nat.le_of_ble_eq_true rfl) rfl ?_
        refine e_aload dX5_lastUpTo_19 rfl ?_
        refine c_getI (by have := vtag_rg (v := (n : Int)) (by omega); omega) dX5_lastUpTo_21 f_X5_32 (Or.inl rfl) h_16 ?_
        rw [rw_0 hR (v := (n : Int)) ⟨by omega, by omega⟩]
        have g_21 : 0 ≤ M 17 (n : Int) ∧ M 17 (n : Int) ≤ 15 := hW 17 (n : Int)
        refine e_iload_n dX5_lastUpTo_24 rfl ?_
        refine e_icmp_ne (tgt := 47) dX5_lastUpTo_25 (by decide) ⟨by omega, by omega⟩ ⟨by omega, by omega⟩ (fun c_25 => ?_) (fun c_25 => ?_)
        · refine e_iinc (ls2 := [_, _, _, _, _]) dX5_lastUpTo_47 rfl (Nat.le_of_ble_eq_true rfl) rfl ?_
          refine e_goto (tgt := 7) dX5_lastUpTo_50 (by decide) ?_
          refine e_drop (k := 4) (ls2 := [_, _, _, _, _]) rfl ?_
          exact ih (by omega) (by rw [if_neg (by omega)] at h2; exact h2)
        · refine e_aload dX5_lastUpTo_28 rfl ?_
          refine c_getI (by have := vtag_rg (v := (n : Int)) (by omega); omega) dX5_lastUpTo_30 f_X5_35 (Or.inr rfl) h_16 ?_
          rw [rw_5 hR (v := (n : Int)) ⟨by omega, by omega⟩]
          have g_30 : 0 ≤ M 22 (n : Int) ∧ M 22 (n : Int) ≤ 1 := hW 22 (n : Int)
          refine e_if_eq (tgt := 47) dX5_lastUpTo_33 (by decide) ⟨by omega, by omega⟩ (fun c_33 => ?_) (fun c_33 => ?_)
          · refine e_iinc (ls2 := [_, _, _, _, _]) dX5_lastUpTo_47 rfl (Nat.le_of_ble_eq_true rfl) rfl ?_
            refine e_goto (tgt := 7) dX5_lastUpTo_50 (by decide) ?_
            refine e_drop (k := 4) (ls2 := [_, _, _, _, _]) rfl ?_
            exact ih (by omega) (by rw [if_neg (by omega)] at h2; exact h2)
          · refine e_aload dX5_lastUpTo_36 rfl ?_
            refine c_getI (by have := vtag_rg (v := (n : Int)) (by omega); omega) dX5_lastUpTo_38 f_X5_39 (Or.inl rfl) h_16 ?_
            rw [rw_1 hR (v := (n : Int)) ⟨by omega, by omega⟩]
            have g_38 : 0 ≤ M 18 (n : Int) ∧ M 18 (n : Int) ≤ 2000 := hW 18 (n : Int)
            refine e_iload_n dX5_lastUpTo_41 rfl ?_
            refine e_icmp_gt (tgt := 47) dX5_lastUpTo_42 (by decide) ⟨by omega, by omega⟩ ⟨by omega, by omega⟩ (fun c_42 => ?_) (fun c_42 => ?_)
            · refine e_iinc (ls2 := [_, _, _, _, _]) dX5_lastUpTo_47 rfl (Nat.le_of_ble_eq_true rfl) rfl ?_
              refine e_goto (tgt := 7) dX5_lastUpTo_50 (by decide) ?_
              refine e_drop (k := 4) (ls2 := [_, _, _, _, _]) rfl ?_
              exact ih (by omega) (by rw [if_neg (by omega)] at h2; exact h2)
            · refine e_iload_n dX5_lastUpTo_45 rfl ?_
              exact e_iret dX5_lastUpTo_46 (Or.inl rfl) (e_ok (by rw [← h2, if_pos ⟨by omega, by omega, by omega⟩]) rfl rfl)
  refine e_aload_n dX5_lastUpTo_0 rfl ?_
  refine c_getI (by decide) dX5_lastUpTo_1 f_X5_9 (Or.inl rfl) hL ?_
  rw [rs_made hR]
  have g_1 := rs_16 hW
  refine e_iconst dX5_lastUpTo_4 ?_
  refine e_isub dX5_lastUpTo_5 ?_
  refine e_istore_n (ls2 := [_, _, _, _, _]) dX5_lastUpTo_6 (Nat.le_of_ble_eq_true rfl) rfl ?_
  have e8 : (((M 50 16).toNat : Nat) : Int) = M 50 16 := Int.toNat_of_nonneg (by omega)
  have := lp (M 50 16).toNat (by omega) rfl
  rw [e8] at this
  exact this
set_option maxRecDepth 20000 in
set_option maxHeartbeats 4000000 in
theorem c_5_lastOfSpan {K : q_K} {B M C : q_S} {l : Nat} (hL : K l = (6, 0, 104)) (hR : RC M C) (hI : MI M) (hW : WR M) {f t : Int} (hf : 0 ≤ f ∧ f ≤ 15) (ht : 0 ≤ t ∧ t ≤ 2000) : q_E mX5_lastOfSpan 0 [some (q_R l), some (q_I f), some (q_I t), none, none] [] K B C 0 0 (e_is (some (q_I (lsF M f t (M 50 16).toNat))) K B C) := by
  have h16 := rs_16 hW
  have lp : ∀ n : Nat, (n : Int) ≤ M 50 16 → lsF M f t n = lsF M f t (M 50 16).toNat → q_E mX5_lastOfSpan 7 [some (q_R l), some (q_I f), some (q_I t), some (q_I ((n : Int) - 1)), none] [] K B C 0 0 (e_is (some (q_I (lsF M f t (M 50 16).toNat))) K B C) := by
    intro n
    induction n with
    | zero =>
      intro h1 h2
      refine e_iload_n dX5_lastOfSpan_7 rfl ?_
      refine e_if_lt (tgt := 56) dX5_lastOfSpan_8 (by decide) ⟨by omega, by omega⟩ (fun c_8 => ?_) (fun c_8 => ?_)
      · refine e_iconst dX5_lastOfSpan_56 ?_
        exact e_iret dX5_lastOfSpan_57 (Or.inl rfl) (e_ok (by rw [← h2]; rfl) rfl rfl)
      · exfalso; omega
    | succ n ih =>
      intro h1 h2
      have e9 : ((n + 1 : Nat) : Int) - 1 = n := by omega
      rw [e9]
      simp only [lsF] at h2
      refine e_iload_n dX5_lastOfSpan_7 rfl ?_
      refine e_if_lt (tgt := 56) dX5_lastOfSpan_8 (by decide) ⟨by omega, by omega⟩ (fun c_8 => ?_) (fun c_8 => ?_)
      · exfalso; omega
      · refine e_aload_n dX5_lastOfSpan_11 rfl ?_
        refine c_getR (kt := (39, 120, 125)) (by decide) (Or.inl (by decide)) dX5_lastOfSpan_12 f_X5_21 hL rfl (Nat.succ_ne_zero _) (fun q_12 h_12 => ?_)
        refine e_iload_n dX5_lastOfSpan_15 rfl ?_
        refine c_aald (ci := 9) (kt := (10, 0, (vtag (n : Int)))) (by decide) (Or.inl (by decide)) dX5_lastOfSpan_16 h_12 (by decide) (by omega) (by omega) (kl_r ⟨by omega, by omega⟩ (rw_v hR ⟨by omega, by omega⟩)) (Nat.succ_ne_zero _) (fun q_16 h_16 => ?_)
        refine e_astore (ls2 := [_, _, _, _, _]) dX5_lastOfSpan_17 (Nat.le_of_ble_eq_true rfl) rfl ?_
        refine e_aload dX5_lastOfSpan_19 rfl ?_
        refine c_getI (by have := vtag_rg (v := (n : Int)) (by omega); omega) dX5_lastOfSpan_21 f_X5_32 (Or.inl rfl) h_16 ?_
        rw [rw_0 hR (v := (n : Int)) ⟨by omega, by omega⟩]
        have g_21 : 0 ≤ M 17 (n : Int) ∧ M 17 (n : Int) ≤ 15 := hW 17 (n : Int)
        refine e_iload_n dX5_lastOfSpan_24 rfl ?_
        refine e_icmp_ne (tgt := 50) dX5_lastOfSpan_25 (by decide) ⟨by omega, by omega⟩ ⟨by omega, by omega⟩ (fun c_25 => ?_) (fun c_25 => ?_)
        · refine e_iinc (ls2 := [_, _, _, _, _]) dX5_lastOfSpan_50 rfl (Nat.le_of_ble_eq_true rfl) rfl ?_
          refine e_goto (tgt := 7) dX5_lastOfSpan_53 (by decide) ?_
          refine e_drop (k := 4) (ls2 := [_, _, _, _, _]) rfl ?_
          exact ih (by omega) (by rw [if_neg (by omega)] at h2; exact h2)
        · refine e_aload dX5_lastOfSpan_28 rfl ?_
          refine c_getI (by have := vtag_rg (v := (n : Int)) (by omega); omega) dX5_lastOfSpan_30 f_X5_35 (Or.inr rfl) h_16 ?_
          rw [rw_5 hR (v := (n : Int)) ⟨by omega, by omega⟩]
          have g_30 : 0 ≤ M 22 (n : Int) ∧ M 22 (n : Int) ≤ 1 := hW 22 (n : Int)
          refine e_if_eq (tgt := 50) dX5_lastOfSpan_33 (by decide) ⟨by omega, by omega⟩ (fun c_33 => ?_) (fun c_33 => ?_)
          · refine e_iinc (ls2 := [_, _, _, _, _]) dX5_lastOfSpan_50 rfl (Nat.le_of_ble_eq_true rfl) rfl ?_
            refine e_goto (tgt := 7) dX5_lastOfSpan_53 (by decide) ?_
            refine e_drop (k := 4) (ls2 := [_, _, _, _, _]) rfl ?_
            exact ih (by omega) (by rw [if_neg (by omega)] at h2; exact h2)
          · refine e_aload dX5_lastOfSpan_36 rfl ?_
            refine c_getI (by have := vtag_rg (v := (n : Int)) (by omega); omega) dX5_lastOfSpan_38 f_X5_39 (Or.inl rfl) h_16 ?_
            rw [rw_1 hR (v := (n : Int)) ⟨by omega, by omega⟩]
            have g_38 : 0 ≤ M 18 (n : Int) ∧ M 18 (n : Int) ≤ 2000 := hW 18 (n : Int)
            refine e_bipush dX5_lastOfSpan_41 (by decide) ?_
            refine e_idiv dX5_lastOfSpan_43 ⟨by omega, by omega⟩ ⟨by omega, by omega⟩ ?_
            refine e_iload_n dX5_lastOfSpan_44 rfl ?_
            refine e_icmp_ne (tgt := 50) dX5_lastOfSpan_45 (by decide) ⟨by omega, by omega⟩ ⟨by omega, by omega⟩ (fun c_45 => ?_) (fun c_45 => ?_)
            · refine e_iinc (ls2 := [_, _, _, _, _]) dX5_lastOfSpan_50 rfl (Nat.le_of_ble_eq_true rfl) rfl ?_
              refine e_goto (tgt := 7) dX5_lastOfSpan_53 (by decide) ?_
              refine e_drop (k := 4) (ls2 := [_, _, _, _, _]) rfl ?_
              exact ih (by omega) (by rw [if_neg (by omega)] at h2; exact h2)
            · refine e_iload_n dX5_lastOfSpan_48 rfl ?_
              exact e_iret dX5_lastOfSpan_49 (Or.inl rfl) (e_ok (by rw [← h2, if_pos ⟨by omega, by omega, by omega⟩]) rfl rfl)
  refine e_aload_n dX5_lastOfSpan_0 rfl ?_
  refine c_getI (by decide) dX5_lastOfSpan_1 f_X5_9 (Or.inl rfl) hL ?_
  rw [rs_made hR]
  have g_1 := rs_16 hW
  refine e_iconst dX5_lastOfSpan_4 ?_
  refine e_isub dX5_lastOfSpan_5 ?_
  refine e_istore_n (ls2 := [_, _, _, _, _]) dX5_lastOfSpan_6 (Nat.le_of_ble_eq_true rfl) rfl ?_
  have e8 : (((M 50 16).toNat : Nat) : Int) = M 50 16 := Int.toNat_of_nonneg (by omega)
  have := lp (M 50 16).toNat (by omega) rfl
  rw [e8] at this
  exact this
set_option maxRecDepth 20000 in
set_option maxHeartbeats 4000000 in
theorem c_5_countKeptFrom {K : q_K} {B M C : q_S} {l : Nat} (hL : K l = (6, 0, 104)) (hR : RC M C) (hI : MI M) (hW : WR M) (h36 : M 50 36 ≤ M 50 16) : q_E mX5_countKeptFrom 0 [some (q_R l), some (q_I (M 50 36)), none, none] [] K B C 0 0 (e_is (some (q_I (dueF M (M 50 16 - M 50 36).toNat))) K B C) := by
  have h16 := rs_16 hW
  have g36 := rs_36 hW
  have lp : ∀ (r j : Nat) (k_ i : Int), j + r = (M 50 16 - M 50 36).toNat → k_ = dueF M j → i = M 50 36 + j → q_E mX5_countKeptFrom 8 [some (q_R l), some (q_I (M 50 36)), some (q_I k_), some (q_I i)] [] K B C 0 0 (e_is (some (q_I (dueF M (M 50 16 - M 50 36).toNat))) K B C) := by
    intro r
    induction r with
    | zero =>
      intro j k_ i h1 h2 h3
      have gd := dueF_rg hW j
      refine e_iload_n dX5_countKeptFrom_8 rfl ?_
      refine e_aload_n dX5_countKeptFrom_9 rfl ?_
      refine c_getI (by decide) dX5_countKeptFrom_10 f_X5_9 (Or.inl rfl) hL ?_
      rw [rs_made hR]
      have g_10 := rs_16 hW
      refine e_icmp_ge (tgt := 42) dX5_countKeptFrom_13 (by decide) ⟨by omega, by omega⟩ ⟨by omega, by omega⟩ (fun c_13 => ?_) (fun c_13 => ?_)
      · refine e_iload_n dX5_countKeptFrom_42 rfl ?_
        exact e_iret dX5_countKeptFrom_43 (Or.inl rfl) (e_ok (by rw [h2, show (M 50 16 - M 50 36).toNat = j by omega]) rfl rfl)
      · exfalso; omega
    | succ r ih =>
      intro j k_ i h1 h2 h3
      have gd := dueF_rg hW j
      refine e_iload_n dX5_countKeptFrom_8 rfl ?_
      refine e_aload_n dX5_countKeptFrom_9 rfl ?_
      refine c_getI (by decide) dX5_countKeptFrom_10 f_X5_9 (Or.inl rfl) hL ?_
      rw [rs_made hR]
      have g_10 := rs_16 hW
      refine e_icmp_ge (tgt := 42) dX5_countKeptFrom_13 (by decide) ⟨by omega, by omega⟩ ⟨by omega, by omega⟩ (fun c_13 => ?_) (fun c_13 => ?_)
      · exfalso; omega
      · refine e_iload_n dX5_countKeptFrom_16 rfl ?_
        refine e_aload_n dX5_countKeptFrom_17 rfl ?_
        refine c_getR (kt := (39, 120, 125)) (by decide) (Or.inl (by decide)) dX5_countKeptFrom_18 f_X5_21 hL rfl (Nat.succ_ne_zero _) (fun q_18 h_18 => ?_)
        refine e_iload_n dX5_countKeptFrom_21 rfl ?_
        refine c_aald (ci := 9) (kt := (10, 0, (vtag i))) (by decide) (Or.inl (by decide)) dX5_countKeptFrom_22 h_18 (by decide) (by omega) (by omega) (kl_r ⟨by omega, by omega⟩ (rw_v hR ⟨by omega, by omega⟩)) (Nat.succ_ne_zero _) (fun q_22 h_22 => ?_)
        refine c_getI (by have := vtag_rg (v := i) (by omega); omega) dX5_countKeptFrom_23 f_X5_35 (Or.inr rfl) h_22 ?_
        rw [rw_5 hR (v := i) ⟨by omega, by omega⟩]
        have g_23 : 0 ≤ M 22 i ∧ M 22 i ≤ 1 := hW 22 i
        refine e_if_eq (tgt := 33) dX5_countKeptFrom_26 (by decide) ⟨by omega, by omega⟩ (fun c_26 => ?_) (fun c_26 => ?_)
        · refine e_iconst dX5_countKeptFrom_33 ?_
          refine e_iadd dX5_countKeptFrom_34 ?_
          refine e_istore_n (ls2 := [_, _, _, _]) dX5_countKeptFrom_35 (Nat.le_of_ble_eq_true rfl) rfl ?_
          refine e_iinc (ls2 := [_, _, _, _]) dX5_countKeptFrom_36 rfl (Nat.le_of_ble_eq_true rfl) rfl ?_
          refine e_goto (tgt := 8) dX5_countKeptFrom_39 (by decide) ?_
          exact ih (j + 1) _ _ (by omega) (by simp only [dueF, ← h2, ← h3]; omega) (by omega)
        · refine e_iconst dX5_countKeptFrom_29 ?_
          refine e_goto (tgt := 34) dX5_countKeptFrom_30 (by decide) ?_
          refine e_iadd dX5_countKeptFrom_34 ?_
          refine e_istore_n (ls2 := [_, _, _, _]) dX5_countKeptFrom_35 (Nat.le_of_ble_eq_true rfl) rfl ?_
          refine e_iinc (ls2 := [_, _, _, _]) dX5_countKeptFrom_36 rfl (Nat.le_of_ble_eq_true rfl) rfl ?_
          refine e_goto (tgt := 8) dX5_countKeptFrom_39 (by decide) ?_
          exact ih (j + 1) _ _ (by omega) (by simp only [dueF, ← h2, ← h3]; omega) (by omega)
  refine e_iconst dX5_countKeptFrom_0 ?_
  refine e_istore_n (ls2 := [_, _, _, _]) dX5_countKeptFrom_1 (Nat.le_of_ble_eq_true rfl) rfl ?_
  refine e_iload_n dX5_countKeptFrom_2 rfl ?_
  refine e_iconst dX5_countKeptFrom_3 ?_
  refine e_mmax dX5_countKeptFrom_4 l_X5_42 (Nat.le_of_ble_eq_true rfl) ⟨by decide, by decide⟩ ⟨by omega, by omega⟩ ⟨by omega, by omega⟩ ?_
  refine e_istore_n (ls2 := [_, _, _, _]) dX5_countKeptFrom_7 (Nat.le_of_ble_eq_true rfl) rfl ?_
  exact lp (M 50 16 - M 50 36).toNat 0 0 _ (by omega) rfl (by rw [show max (M 50 36) 0 = M 50 36 by omega]; omega)
set_option maxRecDepth 20000 in
set_option maxHeartbeats 4000000 in
theorem c_10_isEdited {K : q_K} {B M C : q_S} {a : Nat} (hT : K a = (11, 0, 100)) {x : Nat} {p : Int} (hx : K x = (2, 0, 200 + p)) (hp : 0 ≤ p ∧ p < 48) (hR : RC M C) (hI : MI M) (hW : WR M) : q_E mX10_isEdited 0 [some (q_R a), some (q_R x)] [] K B C 0 0 (e_is (some (q_I (bi (isOtherP M p)))) K B C) := by
  have h16 := rs_16 hW
  have h5 := mi_5 hI hp
  have g5 : 0 ≤ M 5 p ∧ M 5 p ≤ 120 := hW 5 p
  have hcf := cfo_rg hW p
  have hq := isAs_eq hI hW (v := M 5 p - 1) hp ⟨by omega, by omega⟩
  refine e_aload_n dX10_isEdited_0 rfl ?_
  refine c_getR (kt := (6, 0, 104)) (by decide) (Or.inl (by decide)) dX10_isEdited_1 f_X10_83 hT rfl (Nat.succ_ne_zero _) (fun q_1 h_1 => ?_)
  refine e_aload_n dX10_isEdited_4 rfl ?_
  refine c_getI (by omega) dX10_isEdited_5 f_X10_294 (Or.inl rfl) hx ?_
  rw [rp_3 hR (p := p) ⟨by omega, by omega⟩]
  have g_5 : 0 ≤ M 5 p ∧ M 5 p ≤ 120 := hW 5 p
  refine e_cVR (as := [_]) (ci := 5) (kr := (10, 0, (vtag (M 5 p - 1)))) dX10_isEdited_8 k_X5_at l_X10_186 i_X5_at v_X5_at h_1 rfl (by decide) ⟨_, _, rfl⟩ rfl rfl rfl rfl (Nat.le_of_ble_eq_true rfl) ⟨by decide, by decide⟩ (Nat.le_of_ble_eq_true rfl) (by decide) (c_5_at h_1 hR hI hW ⟨by omega, by omega⟩) (fun q_8 h_8 => ?_)
  refine e_aload_n dX10_isEdited_11 rfl ?_
  refine c_getI (by omega) dX10_isEdited_12 f_X10_114 (Or.inl rfl) hx ?_
  rw [rp_1 hR (p := p) ⟨by omega, by omega⟩]
  have g_12 := cfo_rg hW p
  refine e_aload_n dX10_isEdited_15 rfl ?_
  have hv_16 : vcode (M 3 p) := mi_3 hI ⟨by omega, by omega⟩
  have hg_16 := hv_16.1
  refine c_getR (kt := (1, 0, (1000000 + 3 * M 3 p))) (by omega) (Or.inl (by omega)) dX10_isEdited_16 f_X10_165 hx (kl_pc ⟨by omega, by omega⟩ (by omega) (rp_2 hR ⟨by omega, by omega⟩)) (Nat.succ_ne_zero _) (fun q_16 h_16 => ?_)
  refine e_cV (as := [_, _]) (ci := 9) dX10_isEdited_19 k_X9_isAs l_X10_337 i_X9_isAs v_X9_isAs h_8 rfl (by decide) ⟨_, _, rfl⟩ rfl rfl rfl rfl (Nat.le_of_ble_eq_true rfl) ⟨by decide, by decide⟩ (Nat.le_of_ble_eq_true rfl) (by decide) (c_9_isAs h_8 ⟨by omega, by omega⟩ h_16 hv_16 hR hI hW hcf) ?_
  refine e_if_ne (tgt := 29) dX10_isEdited_22 (by decide) bi_iI (fun c_22 => ?_) (fun c_22 => ?_)
  · simp only [bi_z, Classical.not_not] at c_22
    refine e_iconst dX10_isEdited_29 ?_
    exact e_iret dX10_isEdited_30 (Or.inr ⟨rfl, by omega⟩) (e_ok (by first | rw [bi_t (show isOtherP M p from fun g => c_22 (hq.mpr g))] | rw [bi_f (show ¬ isOtherP M p from fun g => g (hq.mp c_22))]) rfl rfl)
  · simp only [bi_z, Classical.not_not] at c_22
    refine e_iconst dX10_isEdited_25 ?_
    refine e_goto (tgt := 30) dX10_isEdited_26 (by decide) ?_
    exact e_iret dX10_isEdited_30 (Or.inr ⟨rfl, by omega⟩) (e_ok (by first | rw [bi_t (show isOtherP M p from fun g => c_22 (hq.mpr g))] | rw [bi_f (show ¬ isOtherP M p from fun g => g (hq.mp c_22))]) rfl rfl)
