set_option maxRecDepth 20000 in
set_option maxHeartbeats 4000000 in
theorem c_10_canFetch {K : q_K} {B M C : q_S} {a : Nat} (hT : K a = (11, 0, 100)) {x : Nat} {p m : Int} (hx : K x = (2, 0, 200 + p)) (hp : 0 ≤ p ∧ p < 48) (hm : 0 ≤ m ∧ m ≤ 2) (hR : RC M C) (hI : MI M) (hW : WR M) (h1 : ¬ M 2 p = 0) : q_E mX10_canFetch 0 [some (q_R a), some (q_I m), some (q_R x)] [] K B C 0 0 (e_is (some (q_I (bi (1 ≤ rightF M (M 4 p) m ∧ ¬ whI M (M 3 p) (ncut (M 3 p)).toNat = 0 ∧ ¬ M 12 m - takF M m 16 + cgL M m 16 < mlen (M 3 p))))) K B C) := by
  have h4 : 0 ≤ M 4 p ∧ M 4 p ≤ 3 := hW 4 p
  have ecf : cfo M p = M 4 p := by unfold cfo; rw [if_neg h1]
  have hrr := rightF_rg hW (M 4 p) m
  have hwh := whI_01 M (M 3 p) (ncut (M 3 p)).toNat
  refine e_aload_n dX10_canFetch_0 rfl ?_
  refine c_getR (kt := (8, 0, 107)) (by decide) (Or.inl (by decide)) dX10_canFetch_1 f_X10_43 hT rfl (Nat.succ_ne_zero _) (fun q_1 h_1 => ?_)
  refine e_aload_n dX10_canFetch_4 rfl ?_
  refine c_getI (by omega) dX10_canFetch_5 f_X10_114 (Or.inl rfl) hx ?_
  rw [rp_1 hR (p := p) ⟨by omega, by omega⟩, ecf]
  refine e_iload_n dX10_canFetch_8 rfl ?_
  refine e_aload_n dX10_canFetch_9 rfl ?_
  refine c_getI (by decide) dX10_canFetch_10 f_X10_58 (Or.inl rfl) hT ?_
  rw [rs_now hR]
  have g_10 := rs_1 hW
  refine e_cV (as := [_, _, _]) (ci := 7) dX10_canFetch_13 k_X7_rightAt l_X10_307 i_X7_rightAt v_X7_rightAt h_1 rfl (by decide) ⟨_, _, rfl⟩ rfl rfl rfl rfl (Nat.le_of_ble_eq_true rfl) ⟨by decide, by decide⟩ (Nat.le_of_ble_eq_true rfl) (by decide) (c_7_rightAt h_1 hR hI hW h4 hm) ?_
  refine e_iconst dX10_canFetch_16 ?_
  refine e_icmp_lt (tgt := 58) dX10_canFetch_17 (by decide) ⟨by omega, by omega⟩ ⟨by omega, by omega⟩ (fun c_17 => ?_) (fun c_17 => ?_)
  · refine e_iconst dX10_canFetch_58 ?_
    refine e_iret dX10_canFetch_59 (Or.inr ⟨rfl, by omega⟩) ?_
    refine e_ok ?_ rfl rfl
    unfold bi
    split <;> first | rfl | (exfalso; omega)
  · refine e_aload_n dX10_canFetch_20 rfl ?_
    refine c_getR (kt := (9, 0, 105)) (by decide) (Or.inl (by decide)) dX10_canFetch_21 f_X10_29 hT rfl (Nat.succ_ne_zero _) (fun q_21 h_21 => ?_)
    refine e_aload_n dX10_canFetch_24 rfl ?_
    have hv_25 : vcode (M 3 p) := mi_3 hI ⟨by omega, by omega⟩
    have hg_25 := hv_25.1
    refine c_getR (kt := (1, 0, (1000000 + 3 * M 3 p))) (by omega) (Or.inl (by omega)) dX10_canFetch_25 f_X10_165 hx (kl_pc ⟨by omega, by omega⟩ (by omega) (rp_2 hR ⟨by omega, by omega⟩)) (Nat.succ_ne_zero _) (fun q_25 h_25 => ?_)
    have hml := mlen_nn (M 3 p)
    refine e_cV (as := [_]) (ci := 8) dX10_canFetch_28 k_X8_hasAllWhole l_X10_341 i_X8_hasAllWhole v_X8_hasAllWhole h_21 rfl (by decide) ⟨_, _, rfl⟩ rfl rfl rfl rfl (Nat.le_of_ble_eq_true rfl) ⟨by decide, by decide⟩ (Nat.le_of_ble_eq_true rfl) (by decide) (c_8_hasAllWhole h_21 h_25 hv_25 hR hI hW) ?_
    refine e_if_eq (tgt := 58) dX10_canFetch_31 (by decide) ⟨by omega, by omega⟩ (fun c_31 => ?_) (fun c_31 => ?_)
    · refine e_iconst dX10_canFetch_58 ?_
      refine e_iret dX10_canFetch_59 (Or.inr ⟨rfl, by omega⟩) ?_
      refine e_ok ?_ rfl rfl
      unfold bi
      split <;> first | rfl | (exfalso; omega)
    · refine e_aload_n dX10_canFetch_34 rfl ?_
      refine e_aload_n dX10_canFetch_35 rfl ?_
      refine c_getR (kt := (36, 3, 102)) (by decide) (Or.inl (by decide)) dX10_canFetch_36 f_X10_15 hT rfl (Nat.succ_ne_zero _) (fun q_36 h_36 => ?_)
      refine e_iload_n dX10_canFetch_39 rfl ?_
      refine c_aald (ci := 6) (kt := (7, 0, (110 + m))) (by decide) (Or.inl (by decide)) dX10_canFetch_40 h_36 (by decide) (by omega) (by omega) (kl_m ⟨by omega, by omega⟩) (Nat.succ_ne_zero _) (fun q_40 h_40 => ?_)
      refine e_aload_n dX10_canFetch_41 rfl ?_
      have hv_42 : vcode (M 3 p) := mi_3 hI ⟨by omega, by omega⟩
      have hg_42 := hv_42.1
      refine c_getR (kt := (1, 0, (1000000 + 3 * M 3 p))) (by omega) (Or.inl (by omega)) dX10_canFetch_42 f_X10_165 hx (kl_pc ⟨by omega, by omega⟩ (by omega) (rp_2 hR ⟨by omega, by omega⟩)) (Nat.succ_ne_zero _) (fun q_42 h_42 => ?_)
      refine c_getI (by omega) dX10_canFetch_45 f_X10_204 (Or.inl rfl) h_42 ?_
      rw [cc_0 (rc_C hR) (c := M 3 p) (by assumption)]
      have g_45 := mlen_nn (M 3 p)
      refine e_cV (as := [_, _]) (ci := 10) dX10_canFetch_48 k_X10_canHaveRoom l_X10_344 i_X10_canHaveRoom v_X10_canHaveRoom hT rfl (by decide) ⟨_, _, rfl⟩ rfl rfl rfl rfl (Nat.le_of_ble_eq_true rfl) ⟨by decide, by decide⟩ (Nat.le_of_ble_eq_true rfl) (by decide) (c_10_canHaveRoom hT h_40 hm hR hI hW ⟨by omega, by omega⟩) ?_
      refine e_if_eq (tgt := 58) dX10_canFetch_51 (by decide) bi_iI (fun c_51 => ?_) (fun c_51 => ?_)
      · simp only [bi_z, Classical.not_not] at c_51
        refine e_iconst dX10_canFetch_58 ?_
        refine e_iret dX10_canFetch_59 (Or.inr ⟨rfl, by omega⟩) ?_
        refine e_ok ?_ rfl rfl
        unfold bi
        split <;> first | rfl | (exfalso; omega)
      · simp only [bi_z, Classical.not_not] at c_51
        refine e_iconst dX10_canFetch_54 ?_
        refine e_goto (tgt := 59) dX10_canFetch_55 (by decide) ?_
        refine e_iret dX10_canFetch_59 (Or.inr ⟨rfl, by omega⟩) ?_
        refine e_ok ?_ rfl rfl
        unfold bi
        split <;> first | rfl | (exfalso; omega)
theorem lsF_fol (M : q_S) {v : Int} (hv : 0 ≤ v) (h22 : M 22 v = 0) : ∀ n : Nat, (v.toNat + 1 ≤ n) → (lsF M (M 17 v) (M 18 v / 24) n = v ↔ follI M v (n - (v.toNat + 1)) = 0) := by
  intro n
  induction n with
  | zero => intro h; omega
  | succ n ih =>
    intro h
    by_cases e : n = v.toNat
    · subst e
      rw [Nat.sub_self]
      simp only [lsF, follI]
      rw [if_pos ⟨by rw [show ((v.toNat : Nat) : Int) = v by omega], by rw [show ((v.toNat : Nat) : Int) = v by omega]; exact h22, by rw [show ((v.toNat : Nat) : Int) = v by omega]⟩]
      exact ⟨fun _ => trivial, fun _ => by omega⟩
    · have i := ih (by omega)
      rw [show n + 1 - (v.toNat + 1) = n - (v.toNat + 1) + 1 by omega]
      simp only [lsF, follI]
      rw [show v + 1 + ((n - (v.toNat + 1) : Nat) : Int) = (n : Int) by omega]
      by_cases e2 : M 17 n = M 17 v ∧ M 22 n = 0 ∧ M 18 n / 24 = M 18 v / 24
      · rw [if_pos e2, if_pos (Or.inr e2)]
        constructor
        · intro g; omega
        · intro g; omega
      · rw [if_neg e2]
        by_cases e3 : follI M v (n - (v.toNat + 1)) = 0
        · rw [if_neg (fun g => g.elim (fun g => g e3) e2)]; exact ⟨fun _ => rfl, fun _ => i.mpr e3⟩
        · rw [if_pos (Or.inl e3)]; exact ⟨fun g => absurd (i.mp g) e3, fun g => by omega⟩
set_option maxRecDepth 20000 in
set_option maxHeartbeats 4000000 in
theorem c_10_isToBeDropped {K : q_K} {B M C : q_S} {a : Nat} (hT : K a = (11, 0, 100)) {z : Nat} {v : Int} (hz : K z = (10, 0, vtag v)) (hv : 0 ≤ v ∧ v < M 50 16) (hR : RC M C) (hI : MI M) (hW : WR M) (h22 : M 22 v = 0) : q_E mX10_isToBeDropped 0 [some (q_R a), some (q_I v), some (q_R z), none] [] K B C 0 0 (e_is (some (q_I (bi ((heldI M v (M 50 27).toNat) = 0 ∧ oldP M v)))) K B C) := by
  have h16 := rs_16 hW
  have h17 : 0 ≤ M 17 v ∧ M 17 v ≤ 15 := hW 17 v
  have h18 : 0 ≤ M 18 v ∧ M 18 v ≤ 2000 := hW 18 v
  have hhe := hldF_eq M v (M 50 27).toNat
  have hh1 := heldI_01 M v (M 50 27).toNat
  have hlat := latestOf_rg hW (M 17 v)
  have hls := lsF_rg M (M 17 v) (M 18 v / 24) (M 50 16).toNat
  have hfl := lsF_fol M hv.1 h22 (M 50 16).toNat (by omega)
  rw [show (M 50 16).toNat - (v.toNat + 1) = (M 50 16 - v - 1).toNat by omega] at hfl
  have hll : latestOf M (M 17 v) = v → follI M v (M 50 16 - v - 1).toNat = 0 := by
    intro g
    refine hfl.mp ?_
    have g1 : ∀ n : Nat, latF M (M 17 v) n = v → lsF M (M 17 v) (M 18 v / 24) n = v := by
      intro n
      induction n with
      | zero => intro g; exact g
      | succ n ih =>
        intro g
        simp only [latF] at g
        simp only [lsF]
        by_cases e : M 17 n = M 17 v ∧ M 22 n = 0
        · rw [if_pos e] at g; rw [if_pos ⟨e.1, e.2, by rw [g]⟩]; exact g
        · rw [if_neg e] at g; rw [if_neg (fun g2 => e ⟨g2.1, g2.2.1⟩)]; exact ih g
    exact g1 _ g
  refine e_aload_n dX10_isToBeDropped_0 rfl ?_
  refine c_getI (by decide) dX10_isToBeDropped_1 f_X10_58 (Or.inl rfl) hT ?_
  rw [rs_now hR]
  have g_1 := rs_1 hW
  refine e_aload_n dX10_isToBeDropped_4 rfl ?_
  refine c_getI (by have := vtag_rg (v := v) (by omega); omega) dX10_isToBeDropped_5 f_X10_302 (Or.inl rfl) hz ?_
  rw [rw_1 hR (v := v) ⟨by omega, by omega⟩]
  have g_5 : 0 ≤ M 18 v ∧ M 18 v ≤ 2000 := hW 18 v
  refine e_isub dX10_isToBeDropped_8 ?_
  refine e_istore_n (ls2 := [_, _, _, _]) dX10_isToBeDropped_9 (Nat.le_of_ble_eq_true rfl) rfl ?_
  refine e_iload_n dX10_isToBeDropped_10 rfl ?_
  refine e_bipush dX10_isToBeDropped_11 (by decide) ?_
  refine e_icmp_lt (tgt := 34) dX10_isToBeDropped_13 (by decide) ⟨by omega, by omega⟩ ⟨by omega, by omega⟩ (fun c_13 => ?_) (fun c_13 => ?_)
  · refine e_iconst dX10_isToBeDropped_34 ?_
    exact e_iret dX10_isToBeDropped_35 (Or.inr ⟨rfl, by omega⟩) (e_ok (by unfold bi; split <;> first | rfl | (exfalso; omega)) rfl rfl)
  · refine e_aload_n dX10_isToBeDropped_16 rfl ?_
    refine c_getR (kt := (4, 0, 108)) (by decide) (Or.inl (by decide)) dX10_isToBeDropped_17 f_X10_50 hT rfl (Nat.succ_ne_zero _) (fun q_17 h_17 => ?_)
    refine e_aload_n dX10_isToBeDropped_20 rfl ?_
    refine c_getI (by have := vtag_rg (v := v) (by omega); omega) dX10_isToBeDropped_21 f_X10_300 (Or.inl rfl) hz ?_
    rw [rw_0 hR (v := v) ⟨by omega, by omega⟩]
    have g_21 : 0 ≤ M 17 v ∧ M 17 v ≤ 15 := hW 17 v
    refine e_aload_n dX10_isToBeDropped_24 rfl ?_
    refine c_getI (by have := vtag_rg (v := v) (by omega); omega) dX10_isToBeDropped_25 f_X10_302 (Or.inl rfl) hz ?_
    rw [rw_1 hR (v := v) ⟨by omega, by omega⟩]
    have g_25 : 0 ≤ M 18 v ∧ M 18 v ≤ 2000 := hW 18 v
    refine e_cV (as := [_, _]) (ci := 3) dX10_isToBeDropped_28 k_X3_isHeld l_X10_392 i_X3_isHeld v_X3_isHeld h_17 rfl (by decide) ⟨_, _, rfl⟩ rfl rfl rfl rfl (Nat.le_of_ble_eq_true rfl) ⟨by decide, by decide⟩ (Nat.le_of_ble_eq_true rfl) (by decide) (c_3_isHeld h_17 hR hI hW ⟨by omega, by omega⟩ ⟨by omega, by omega⟩) ?_
    rw [← hhe]
    refine e_if_eq (tgt := 36) dX10_isToBeDropped_31 (by decide) ⟨by omega, by omega⟩ (fun c_31 => ?_) (fun c_31 => ?_)
    · refine e_iload_n dX10_isToBeDropped_36 rfl ?_
      refine e_sipush dX10_isToBeDropped_37 (by decide) ?_
      refine e_icmp_lt (tgt := 64) dX10_isToBeDropped_40 (by decide) ⟨by omega, by omega⟩ ⟨by omega, by omega⟩ (fun c_40 => ?_) (fun c_40 => ?_)
      · refine e_iload_n dX10_isToBeDropped_64 rfl ?_
        refine e_aload_n dX10_isToBeDropped_65 rfl ?_
        refine c_getR (kt := (6, 0, 104)) (by decide) (Or.inl (by decide)) dX10_isToBeDropped_66 f_X10_83 hT rfl (Nat.succ_ne_zero _) (fun q_66 h_66 => ?_)
        refine e_aload_n dX10_isToBeDropped_69 rfl ?_
        refine c_getI (by have := vtag_rg (v := v) (by omega); omega) dX10_isToBeDropped_70 f_X10_300 (Or.inl rfl) hz ?_
        rw [rw_0 hR (v := v) ⟨by omega, by omega⟩]
        have g_70 : 0 ≤ M 17 v ∧ M 17 v ≤ 15 := hW 17 v
        refine e_aload_n dX10_isToBeDropped_73 rfl ?_
        refine c_getI (by have := vtag_rg (v := v) (by omega); omega) dX10_isToBeDropped_74 f_X10_302 (Or.inl rfl) hz ?_
        rw [rw_1 hR (v := v) ⟨by omega, by omega⟩]
        have g_74 : 0 ≤ M 18 v ∧ M 18 v ≤ 2000 := hW 18 v
        refine e_bipush dX10_isToBeDropped_77 (by decide) ?_
        refine e_idiv dX10_isToBeDropped_79 ⟨by omega, by omega⟩ ⟨by omega, by omega⟩ ?_
        refine e_cV (as := [_, _]) (ci := 5) dX10_isToBeDropped_80 k_X5_lastOfSpan l_X10_395 i_X5_lastOfSpan v_X5_lastOfSpan h_66 rfl (by decide) ⟨_, _, rfl⟩ rfl rfl rfl rfl (Nat.le_of_ble_eq_true rfl) ⟨by decide, by decide⟩ (Nat.le_of_ble_eq_true rfl) (by decide) (c_5_lastOfSpan h_66 hR hI hW ⟨by omega, by omega⟩ ⟨by omega, by omega⟩) ?_
        refine e_icmp_eq (tgt := 90) dX10_isToBeDropped_83 (by decide) ⟨by omega, by omega⟩ ⟨by omega, by omega⟩ (fun c_83 => ?_) (fun c_83 => ?_)
        · refine e_iconst dX10_isToBeDropped_90 ?_
          exact e_iret dX10_isToBeDropped_91 (Or.inr ⟨rfl, by omega⟩) (e_ok (by unfold bi; split <;> first | rfl | (exfalso; omega)) rfl rfl)
        · refine e_iconst dX10_isToBeDropped_86 ?_
          refine e_goto (tgt := 91) dX10_isToBeDropped_87 (by decide) ?_
          exact e_iret dX10_isToBeDropped_91 (Or.inr ⟨rfl, by omega⟩) (e_ok (by unfold bi; split <;> first | rfl | (exfalso; omega)) rfl rfl)
      · refine e_iload_n dX10_isToBeDropped_43 rfl ?_
        refine e_aload_n dX10_isToBeDropped_44 rfl ?_
        refine c_getR (kt := (6, 0, 104)) (by decide) (Or.inl (by decide)) dX10_isToBeDropped_45 f_X10_83 hT rfl (Nat.succ_ne_zero _) (fun q_45 h_45 => ?_)
        refine e_aload_n dX10_isToBeDropped_48 rfl ?_
        refine c_getI (by have := vtag_rg (v := v) (by omega); omega) dX10_isToBeDropped_49 f_X10_300 (Or.inl rfl) hz ?_
        rw [rw_0 hR (v := v) ⟨by omega, by omega⟩]
        have g_49 : 0 ≤ M 17 v ∧ M 17 v ≤ 15 := hW 17 v
        refine e_cV (as := [_]) (ci := 5) dX10_isToBeDropped_52 k_X5_latestOf l_X10_183 i_X5_latestOf v_X5_latestOf h_45 rfl (by decide) ⟨_, _, rfl⟩ rfl rfl rfl rfl (Nat.le_of_ble_eq_true rfl) ⟨by decide, by decide⟩ (Nat.le_of_ble_eq_true rfl) (by decide) (c_5_latestOf h_45 hR hI hW ⟨by omega, by omega⟩) ?_
        have g_52 := latestOf_rg hW (M 17 v)
        refine e_icmp_eq (tgt := 62) dX10_isToBeDropped_55 (by decide) ⟨by omega, by omega⟩ ⟨by omega, by omega⟩ (fun c_55 => ?_) (fun c_55 => ?_)
        · refine e_iconst dX10_isToBeDropped_62 ?_
          exact e_iret dX10_isToBeDropped_63 (Or.inr ⟨rfl, by omega⟩) (e_ok (by unfold bi; split <;> first | rfl | (exfalso; omega)) rfl rfl)
        · refine e_iconst dX10_isToBeDropped_58 ?_
          refine e_goto (tgt := 63) dX10_isToBeDropped_59 (by decide) ?_
          exact e_iret dX10_isToBeDropped_63 (Or.inr ⟨rfl, by omega⟩) (e_ok (by unfold bi; split <;> first | rfl | (exfalso; omega)) rfl rfl)
    · refine e_iconst dX10_isToBeDropped_34 ?_
      exact e_iret dX10_isToBeDropped_35 (Or.inr ⟨rfl, by omega⟩) (e_ok (by unfold bi; split <;> first | rfl | (exfalso; omega)) rfl rfl)
theorem lt_1 (M : q_S) : ∀ k : Nat, (ltF M (k + 1)).1 = (ltF M k).1 + (if M 22 k = 1 then 0 else if lsI M (M 21 k) (ncut (M 21 k)).toNat = 0 then 0 else 1) := by
  intro k
  simp only [ltF]
  rw [ltF_o (t := 22) (by decide)]
  by_cases e : M 22 k = 1
  · rw [if_pos e, if_pos e]; omega
  · rw [if_neg e, if_neg e]
    rw [ltF_o (t := 21) (by decide), lsI_congr (fun j => ⟨ltF_o (by decide) k, ltF_o (by decide) k, ltF_o (by decide) k⟩)]
theorem lt_thr (M : q_S) (z : Int) : ∀ k : Nat, (ltF (thr M z) k).1 = (ltF M k).1 := by
  intro k
  induction k with
  | zero => rfl
  | succ k ih =>
    rw [lt_1, lt_1, ih]
    rw [lsI_congr (A := thr M z) (B := M) (fun j => ⟨rfl, rfl, rfl⟩)]
    rfl
set_option maxRecDepth 20000 in
set_option maxHeartbeats 4000000 in
theorem c_10_lost_l {K : q_K} {B M C : q_S} {a : Nat} (hT : K a = (11, 0, 100)) (hR : RC M C) (hI : MI M) (hW : WR M) : ∀ (r k : Nat) (n i : Int), (k + r = (M 50 16).toNat) → (n = (ltF M k).1) → (i = k) → (0 ≤ n ∧ n ≤ k) → q_E mX10_lost 4 [some (q_R a), some (q_I n), some (q_I i), none] [] K B C 0 0 (e_is (some (q_I ((ltF M (M 50 16).toNat).1))) K B C) := by
  intro r
  induction r with
  | zero =>
    intro k n i h1 h2 h3 h4
    have h16 := rs_16 hW
    refine e_iload_n dX10_lost_4 rfl ?_
    refine e_aload_n dX10_lost_5 rfl ?_
    refine c_getR (kt := (6, 0, 104)) (by decide) (Or.inl (by decide)) dX10_lost_6 f_X10_83 hT rfl (Nat.succ_ne_zero _) (fun q_6 h_6 => ?_)
    refine c_getI (by decide) dX10_lost_9 f_X10_159 (Or.inl rfl) h_6 ?_
    rw [rs_made hR]
    have g_9 := rs_16 hW
    refine e_icmp_ge (tgt := 54) dX10_lost_12 (by decide) ⟨by omega, by omega⟩ ⟨by omega, by omega⟩ (fun c_12 => ?_) (fun c_12 => ?_)
    · refine e_iload_n dX10_lost_54 rfl ?_
      exact e_iret dX10_lost_55 (Or.inl rfl) (e_ok (by rw [h2, show (M 50 16).toNat = k by omega]) rfl rfl)
    · exfalso; omega
  | succ r ih =>
    intro k n i h1 h2 h3 h4
    have h16 := rs_16 hW
    have h22 : 0 ≤ M 22 i ∧ M 22 i ≤ 1 := hW 22 i
    have hvc : vco M i = M 21 i := by unfold vco; rw [if_neg (by omega)]
    have hls := lsI_01 M (M 21 i) (ncut (M 21 i)).toNat
    refine e_iload_n dX10_lost_4 rfl ?_
    refine e_aload_n dX10_lost_5 rfl ?_
    refine c_getR (kt := (6, 0, 104)) (by decide) (Or.inl (by decide)) dX10_lost_6 f_X10_83 hT rfl (Nat.succ_ne_zero _) (fun q_6 h_6 => ?_)
    refine c_getI (by decide) dX10_lost_9 f_X10_159 (Or.inl rfl) h_6 ?_
    rw [rs_made hR]
    have g_9 := rs_16 hW
    refine e_icmp_ge (tgt := 54) dX10_lost_12 (by decide) ⟨by omega, by omega⟩ ⟨by omega, by omega⟩ (fun c_12 => ?_) (fun c_12 => ?_)
    · exfalso; omega
    · refine e_aload_n dX10_lost_15 rfl ?_
      refine c_getR (kt := (6, 0, 104)) (by decide) (Or.inl (by decide)) dX10_lost_16 f_X10_83 hT rfl (Nat.succ_ne_zero _) (fun q_16 h_16 => ?_)
      refine e_iload_n dX10_lost_19 rfl ?_
      refine e_cVR (as := [_]) (ci := 5) (kr := (10, 0, (vtag i))) dX10_lost_20 k_X5_at l_X10_186 i_X5_at v_X5_at h_16 rfl (by decide) ⟨_, _, rfl⟩ rfl rfl rfl rfl (Nat.le_of_ble_eq_true rfl) ⟨by decide, by decide⟩ (Nat.le_of_ble_eq_true rfl) (by decide) (c_5_at h_16 hR hI hW ⟨by omega, by omega⟩) (fun q_20 h_20 => ?_)
      refine e_astore_n (ls2 := [_, _, _, _]) dX10_lost_23 (Nat.le_of_ble_eq_true rfl) rfl ?_
      refine e_aload_n dX10_lost_24 rfl ?_
      refine c_getI (by have := vtag_rg (v := i) (by omega); omega) dX10_lost_25 f_X10_241 (Or.inr rfl) h_20 ?_
      rw [rw_5 hR (v := i) ⟨by omega, by omega⟩]
      have g_25 : 0 ≤ M 22 i ∧ M 22 i ≤ 1 := hW 22 i
      refine e_if_eq (tgt := 48) dX10_lost_28 (by decide) ⟨by omega, by omega⟩ (fun c_28 => ?_) (fun c_28 => ?_)
      · refine e_iinc (ls2 := [_, _, _, _]) dX10_lost_48 rfl (Nat.le_of_ble_eq_true rfl) rfl ?_
        refine e_goto (tgt := 4) dX10_lost_51 (by decide) ?_
        refine e_drop (k := 3) (ls2 := [_, _, _, _]) rfl ?_
        exact ih (k + 1) _ _ (by omega) (by rw [lt_1, ← h2, ← h3]; first | (rw [if_pos (by omega)]; omega) | (rw [if_neg (by omega)]; first | (rw [if_pos (by omega)]; omega) | (rw [if_neg (by omega)]))) (by omega) (by omega)
      · refine e_aload_n dX10_lost_31 rfl ?_
        refine c_getR (kt := (9, 0, 105)) (by decide) (Or.inl (by decide)) dX10_lost_32 f_X10_29 hT rfl (Nat.succ_ne_zero _) (fun q_32 h_32 => ?_)
        refine e_aload_n dX10_lost_35 rfl ?_
        have hv_36 : vcode (vco M i) := vco_ok hI ⟨by omega, by omega⟩
        have hg_36 := hv_36.1
        refine c_getR (kt := (1, 0, (1000000 + 3 * vco M i))) (by have := vtag_rg (v := i) (by omega); omega) (Or.inl (by have := vtag_rg (v := i) (by omega); omega)) dX10_lost_36 f_X10_269 h_20 (kl_vc ⟨by omega, by omega⟩ (by omega) (rv_4 hR ⟨by omega, by omega⟩)) (Nat.succ_ne_zero _) (fun q_36 h_36 => ?_)
        refine e_cV (as := [_]) (ci := 8) dX10_lost_39 k_X8_isWholeSomewhere l_X10_324 i_X8_isWholeSomewhere v_X8_isWholeSomewhere h_32 rfl (by decide) ⟨_, _, rfl⟩ rfl rfl rfl rfl (Nat.le_of_ble_eq_true rfl) ⟨by decide, by decide⟩ (Nat.le_of_ble_eq_true rfl) (by decide) (c_8_isWholeSomewhere h_32 h_36 hv_36 hR hI hW) ?_
        rw [hvc]
        refine e_if_ne (tgt := 48) dX10_lost_42 (by decide) ⟨by omega, by omega⟩ (fun c_42 => ?_) (fun c_42 => ?_)
        · refine e_iinc (ls2 := [_, _, _, _]) dX10_lost_48 rfl (Nat.le_of_ble_eq_true rfl) rfl ?_
          refine e_goto (tgt := 4) dX10_lost_51 (by decide) ?_
          refine e_drop (k := 3) (ls2 := [_, _, _, _]) rfl ?_
          exact ih (k + 1) _ _ (by omega) (by rw [lt_1, ← h2, ← h3]; first | (rw [if_pos (by omega)]; omega) | (rw [if_neg (by omega)]; first | (rw [if_pos (by omega)]; omega) | (rw [if_neg (by omega)]))) (by omega) (by omega)
        · refine e_iinc (ls2 := [_, _, _, _]) dX10_lost_45 rfl (Nat.le_of_ble_eq_true rfl) rfl ?_
          refine e_iinc (ls2 := [_, _, _, _]) dX10_lost_48 rfl (Nat.le_of_ble_eq_true rfl) rfl ?_
          refine e_goto (tgt := 4) dX10_lost_51 (by decide) ?_
          refine e_drop (k := 3) (ls2 := [_, _, _, _]) rfl ?_
          exact ih (k + 1) _ _ (by omega) (by rw [lt_1, ← h2, ← h3]; first | (rw [if_pos (by omega)]; omega) | (rw [if_neg (by omega)]; first | (rw [if_pos (by omega)]; omega) | (rw [if_neg (by omega)]))) (by omega) (by omega)
set_option maxRecDepth 20000 in
set_option maxHeartbeats 4000000 in
theorem c_10_lost {K : q_K} {B M C : q_S} {a : Nat} (hT : K a = (11, 0, 100)) (hR : RC M C) (hI : MI M) (hW : WR M) (hB : q_tb K (M 50 16)) {c s : Nat} (hc : 1 ≤ c) (hs : 6 ≤ s) : q_E mX10_lost 0 [some (q_R a), none, none, none] [] K B C c s (PB (lostF M) "" "" "" K B) := by
  have h := c_10_lost_l (B := B) (C := C) hT hR hI hW (M 50 16).toNat 0 0 0 (by omega) rfl rfl ⟨by decide, by decide⟩
  refine e_room (Nat.zero_le c) (Nat.zero_le s) (e_conseq (Q1 := e_is (some (q_I (ltF M (M 50 16).toNat).1)) K B C) (fun o K1 M1 C1 g => ?_) ?_)
  · obtain ⟨rfl, rfl, rfl, rfl⟩ := g
    refine pbqx hB hR (lt_thr _ 0 _) (fun t j a b d => ?_) ?_
    · show (ltF (thr M 0) _).2 t j = _
      rw [ltF_o a]; simp only [q_us_ap]; rw [if_neg d]
    · show (ltF (thr M 0) _).2 50 41 = _
      rw [ltF_o (by decide)]; rfl
  refine e_iconst dX10_lost_0 ?_
  refine e_istore_n (ls2 := [_, _, _, _]) dX10_lost_1 (Nat.le_of_ble_eq_true rfl) rfl ?_
  refine e_iconst dX10_lost_2 ?_
  refine e_istore_n (ls2 := [_, _, _, _]) dX10_lost_3 (Nat.le_of_ble_eq_true rfl) rfl ?_
  exact h
set_option maxRecDepth 20000 in
set_option maxHeartbeats 4000000 in
theorem c_10_late {K : q_K} {B M C : q_S} {a : Nat} (hT : K a = (11, 0, 100)) (hR : RC M C) (hI : MI M) (hW : WR M) (hB : q_tb K (M 50 16)) {c s : Nat} (hc : 1 ≤ c) (hs : 6 ≤ s) {m h : Int} (hm : q_iI m) (hh : q_iI h)  : q_E mX10_late 0 [some (q_R a), some (q_I m), some (q_I h), none] [] K B C c s (PB (lateF M m h) "java/lang/IndexOutOfBoundsException" "java/lang/IllegalArgumentException" "" K B) := by
  have hm1 := hm.1
  have hm2 := hm.2
  have hh1 := hh.1
  have hh2 := hh.2
  by_cases e0 : 0 ≤ m ∧ m < 3
  · by_cases e1 : 0 ≤ h ∧ h ≤ 50
    · refine e_iload_n dX10_late_0 rfl ?_
      refine e_iconst dX10_late_1 ?_
      refine e_cS (as := [_, _]) dX10_late_2 k_X10_needIndex l_X10_99 s_X10_needIndex rfl rfl rfl rfl (Nat.le_of_ble_eq_true rfl) ⟨by decide, by decide⟩ (Nat.le_of_ble_eq_true rfl) (by decide) (c_nI1 hm ⟨by decide, by decide⟩ (by omega)) ?_
      refine e_iload_n dX10_late_5 rfl ?_
      refine e_iconst dX10_late_6 ?_
      refine e_bipush dX10_late_7 (by decide) ?_
      refine e_cS (as := [_, _, _]) dX10_late_9 k_X10_needRange l_X10_88 s_X10_needRange rfl rfl rfl rfl (Nat.le_of_ble_eq_true rfl) ⟨by decide, by decide⟩ (Nat.le_of_ble_eq_true rfl) (by decide) (c_nR1 hh ⟨by decide, by decide⟩ ⟨by decide, by decide⟩ (by omega)) ?_
      refine e_aload_n dX10_late_12 rfl ?_
      refine c_getR (kt := (36, 3, 102)) (by decide) (Or.inl (by decide)) dX10_late_13 f_X10_15 hT rfl (Nat.succ_ne_zero _) (fun q_13 h_13 => ?_)
      refine e_iload_n dX10_late_16 rfl ?_
      refine c_aald (ci := 6) (kt := (7, 0, (110 + m))) (by decide) (Or.inl (by decide)) dX10_late_17 h_13 (by decide) (by omega) (by omega) (kl_m ⟨by omega, by omega⟩) (Nat.succ_ne_zero _) (fun q_17 h_17 => ?_)
      refine c_getI (by omega) dX10_late_18 f_X10_131 (Or.inl rfl) h_17 ?_
      rw [rm_3 hR (m := m) ⟨by omega, by omega⟩]
      have g_18 : 0 ≤ M 11 m ∧ M 11 m ≤ 50 := hW 11 m
      refine e_istore_n (ls2 := [_, _, _, _]) dX10_late_21 (Nat.le_of_ble_eq_true rfl) rfl ?_
      refine e_aload_n dX10_late_22 rfl ?_
      refine c_getR (kt := (36, 3, 102)) (by decide) (Or.inl (by decide)) dX10_late_23 f_X10_15 hT rfl (Nat.succ_ne_zero _) (fun q_23 h_23 => ?_)
      refine e_iload_n dX10_late_26 rfl ?_
      refine c_aald (ci := 6) (kt := (7, 0, (110 + m))) (by decide) (Or.inl (by decide)) dX10_late_27 h_23 (by decide) (by omega) (by omega) (kl_m ⟨by omega, by omega⟩) (Nat.succ_ne_zero _) (fun q_27 h_27 => ?_)
      refine e_iload_n dX10_late_28 rfl ?_
      refine c_putI (by omega) dX10_late_29 f_X10_131 rfl h_27 (by omega) ⟨by omega, by omega⟩ ?_
      refine e_iload_n dX10_late_32 rfl ?_
      exact e_iret dX10_late_33 (Or.inl rfl) (pbm0 (X := q_us (thr M 0) 11 m h) (by unfold lateF; rw [if_neg (by omega), if_neg (by omega)]) hB rfl ⟨(by have h9 := hR.1; unfold RS at h9 ⊢; simp only [q_us_ap, Int.reduceEq, Int.reduceNeg, false_and, and_false, and_self, true_and, and_true, if_true, if_false]; omega), RD_fr (rc_D hR) (by intros; first | rfl | (simp only [q_us_ap]; repeat rw [if_neg (by omega)])) (by intros; first | rfl | (simp only [q_us_ap]; repeat rw [if_neg (by omega)])) (by intros; first | rfl | (simp only [q_us_ap]; repeat rw [if_neg (by omega)])), RP_fr (rc_P hR) (by intros; first | rfl | (simp only [q_us_ap]; repeat rw [if_neg (by omega)])) (by intros; first | rfl | (simp only [q_us_ap]; repeat rw [if_neg (by omega)])) (by intros; first | rfl | (simp only [q_us_ap]; repeat rw [if_neg (by omega)])) (by intros; first | rfl | (simp only [q_us_ap]; repeat rw [if_neg (by omega)])) (by intros; first | rfl | (simp only [q_us_ap]; repeat rw [if_neg (by omega)])) (by intros; first | rfl | (simp only [q_us_ap]; repeat rw [if_neg (by omega)])) (by intros; first | rfl | (simp only [q_us_ap]; repeat rw [if_neg (by omega)])), (by
          intro m2 h1 h2
          have h9 := rc_M hR m2 h1 h2
          simp only [q_us_ap, Int.reduceEq, Int.reduceNeg, and_false, false_and, and_true, true_and, and_self, if_false, if_true]
          refine ⟨?_, ?_⟩
          all_goals (repeat' split)
          all_goals omega), RL_fr (rc_L hR) (by intros; first | rfl | (simp only [q_us_ap]; repeat rw [if_neg (by omega)])) (by intros; first | rfl | (simp only [q_us_ap]; repeat rw [if_neg (by omega)])) (by intros; first | rfl | (simp only [q_us_ap]; repeat rw [if_neg (by omega)])), RV_fr (rc_V hR) (by intros; first | rfl | (simp only [q_us_ap]; repeat rw [if_neg (by omega)])) (by intros; first | rfl | (simp only [q_us_ap]; repeat rw [if_neg (by omega)])) (by intros; first | rfl | (simp only [q_us_ap]; repeat rw [if_neg (by omega)])) (by intros; first | rfl | (simp only [q_us_ap]; repeat rw [if_neg (by omega)])) (by intros; first | rfl | (simp only [q_us_ap]; repeat rw [if_neg (by omega)])) (by intros; first | rfl | (simp only [q_us_ap]; repeat rw [if_neg (by omega)])) (by intros; first | rfl | (simp only [q_us_ap]; repeat rw [if_neg (by omega)])) (by intros; first | rfl | (simp only [q_us_ap]; repeat rw [if_neg (by omega)])) (by intros; first | rfl | (simp only [q_us_ap]; repeat rw [if_neg (by omega)])) (by intros; first | rfl | (simp only [q_us_ap]; repeat rw [if_neg (by omega)])), RK_fr (rc_K hR) (by first | exact Int.le_refl _ | (simp only [q_us_ap, Int.reduceEq, false_and, and_false, if_false]; omega)) (by intros; first | rfl | (simp only [q_us_ap]; repeat rw [if_neg (by omega)])) (by intros; first | rfl | (simp only [q_us_ap]; repeat rw [if_neg (by omega)])) (by intros; first | rfl | (simp only [q_us_ap]; repeat rw [if_neg (by omega)])) (by intros; first | rfl | (simp only [q_us_ap]; repeat rw [if_neg (by omega)])), RH_fr (rc_H hR) (by intros; first | rfl | (simp only [q_us_ap]; repeat rw [if_neg (by omega)])) (by intros; first | rfl | (simp only [q_us_ap]; repeat rw [if_neg (by omega)])) (by intros; first | rfl | (simp only [q_us_ap]; repeat rw [if_neg (by omega)])) (by intros; first | rfl | (simp only [q_us_ap]; repeat rw [if_neg (by omega)])), RO_fr (rc_O hR) (by intros; first | rfl | (simp only [q_us_ap]; repeat rw [if_neg (by omega)])) (by intros; first | rfl | (simp only [q_us_ap]; repeat rw [if_neg (by omega)])) (by intros; first | rfl | (simp only [q_us_ap]; repeat rw [if_neg (by omega)])) (by intros; first | rfl | (simp only [q_us_ap]; repeat rw [if_neg (by omega)])) (by intros; first | rfl | (simp only [q_us_ap]; repeat rw [if_neg (by omega)])) (by intros; first | rfl | (simp only [q_us_ap]; repeat rw [if_neg (by omega)])) (by intros; first | rfl | (simp only [q_us_ap]; repeat rw [if_neg (by omega)])), RT_fr (rc_T hR) (by intros; first | rfl | (simp only [q_us_ap]; repeat rw [if_neg (by omega)])) (by intros; first | rfl | (simp only [q_us_ap]; repeat rw [if_neg (by omega)])) (by intros; first | rfl | (simp only [q_us_ap]; repeat rw [if_neg (by omega)])) (by intros; first | rfl | (simp only [q_us_ap]; repeat rw [if_neg (by omega)])) (by intros; first | rfl | (simp only [q_us_ap]; repeat rw [if_neg (by omega)])) (by intros; first | rfl | (simp only [q_us_ap]; repeat rw [if_neg (by omega)])) (by intros; first | rfl | (simp only [q_us_ap]; repeat rw [if_neg (by omega)])) (by intros; first | rfl | (simp only [q_us_ap]; repeat rw [if_neg (by omega)])), RE_fr (rc_E hR) (by intros; first | rfl | (simp only [q_us_ap]; repeat rw [if_neg (by omega)])) (by intros; first | rfl | (simp only [q_us_ap]; repeat rw [if_neg (by omega)])) (by intros; first | rfl | (simp only [q_us_ap]; repeat rw [if_neg (by omega)])) (by intros; first | rfl | (simp only [q_us_ap]; repeat rw [if_neg (by omega)])) (by intros; first | rfl | (simp only [q_us_ap]; repeat rw [if_neg (by omega)])) (by intros; first | rfl | (simp only [q_us_ap]; repeat rw [if_neg (by omega)])) (by intros; first | rfl | (simp only [q_us_ap]; repeat rw [if_neg (by omega)])), CC_fr (rc_C hR) (by intros; first | rfl | (simp only [q_us_ap]; repeat rw [if_neg (by omega)]))⟩)
    · refine e_iload_n dX10_late_0 rfl ?_
      refine e_iconst dX10_late_1 ?_
      refine e_cS (as := [_, _]) dX10_late_2 k_X10_needIndex l_X10_99 s_X10_needIndex rfl rfl rfl rfl (Nat.le_of_ble_eq_true rfl) ⟨by decide, by decide⟩ (Nat.le_of_ble_eq_true rfl) (by decide) (c_nI1 hm ⟨by decide, by decide⟩ (by omega)) ?_
      refine e_iload_n dX10_late_5 rfl ?_
      refine e_iconst dX10_late_6 ?_
      refine e_bipush dX10_late_7 (by decide) ?_
      exact e_cST (as := [_, _, _]) dX10_late_9 k_X10_needRange l_X10_88 s_X10_needRange rfl rfl rfl rfl (Nat.le_of_ble_eq_true rfl) ⟨by decide, by decide⟩ (Nat.le_of_ble_eq_true rfl) (by decide) (c_nR0 hh ⟨by decide, by decide⟩ ⟨by decide, by decide⟩ hc hs (by omega)) (pbq2 hB hR (by unfold lateF; rw [if_neg (by omega), if_pos (by omega)]))
  · refine e_iload_n dX10_late_0 rfl ?_
    refine e_iconst dX10_late_1 ?_
    exact e_cST (as := [_, _]) dX10_late_2 k_X10_needIndex l_X10_99 s_X10_needIndex rfl rfl rfl rfl (Nat.le_of_ble_eq_true rfl) ⟨by decide, by decide⟩ (Nat.le_of_ble_eq_true rfl) (by decide) (c_nI0 hm ⟨by decide, by decide⟩ hc hs (by omega)) (pbq1 hB hR (by unfold lateF; rw [if_pos (by omega)]))
set_option maxRecDepth 20000 in
set_option maxHeartbeats 4000000 in
theorem c_10_room {K : q_K} {B M C : q_S} {a : Nat} (hT : K a = (11, 0, 100)) (hR : RC M C) (hI : MI M) (hW : WR M) (hB : q_tb K (M 50 16)) {c s : Nat} (hc : 1 ≤ c) (hs : 6 ≤ s) {m h : Int} (hm : q_iI m) (hh : q_iI h)  : q_E mX10_room 0 [some (q_R a), some (q_I m), some (q_I h), none] [] K B C c s (PB (roomF M m h) "java/lang/IndexOutOfBoundsException" "java/lang/IllegalArgumentException" "" K B) := by
  have hm1 := hm.1
  have hm2 := hm.2
  have hh1 := hh.1
  have hh2 := hh.2
  by_cases e0 : 0 ≤ m ∧ m < 3
  · by_cases e1 : 0 ≤ h ∧ h ≤ 200
    · refine e_iload_n dX10_room_0 rfl ?_
      refine e_iconst dX10_room_1 ?_
      refine e_cS (as := [_, _]) dX10_room_2 k_X10_needIndex l_X10_99 s_X10_needIndex rfl rfl rfl rfl (Nat.le_of_ble_eq_true rfl) ⟨by decide, by decide⟩ (Nat.le_of_ble_eq_true rfl) (by decide) (c_nI1 hm ⟨by decide, by decide⟩ (by omega)) ?_
      refine e_iload_n dX10_room_5 rfl ?_
      refine e_iconst dX10_room_6 ?_
      refine e_sipush dX10_room_7 (by decide) ?_
      refine e_cS (as := [_, _, _]) dX10_room_10 k_X10_needRange l_X10_88 s_X10_needRange rfl rfl rfl rfl (Nat.le_of_ble_eq_true rfl) ⟨by decide, by decide⟩ (Nat.le_of_ble_eq_true rfl) (by decide) (c_nR1 hh ⟨by decide, by decide⟩ ⟨by decide, by decide⟩ (by omega)) ?_
      refine e_aload_n dX10_room_13 rfl ?_
      refine c_getR (kt := (36, 3, 102)) (by decide) (Or.inl (by decide)) dX10_room_14 f_X10_15 hT rfl (Nat.succ_ne_zero _) (fun q_14 h_14 => ?_)
      refine e_iload_n dX10_room_17 rfl ?_
      refine c_aald (ci := 6) (kt := (7, 0, (110 + m))) (by decide) (Or.inl (by decide)) dX10_room_18 h_14 (by decide) (by omega) (by omega) (kl_m ⟨by omega, by omega⟩) (Nat.succ_ne_zero _) (fun q_18 h_18 => ?_)
      refine c_getI (by omega) dX10_room_19 f_X10_149 (Or.inl rfl) h_18 ?_
      rw [rm_4 hR (m := m) ⟨by omega, by omega⟩]
      have g_19 : 0 ≤ M 12 m ∧ M 12 m ≤ 200 := hW 12 m
      refine e_istore_n (ls2 := [_, _, _, _]) dX10_room_22 (Nat.le_of_ble_eq_true rfl) rfl ?_
      refine e_aload_n dX10_room_23 rfl ?_
      refine c_getR (kt := (36, 3, 102)) (by decide) (Or.inl (by decide)) dX10_room_24 f_X10_15 hT rfl (Nat.succ_ne_zero _) (fun q_24 h_24 => ?_)
      refine e_iload_n dX10_room_27 rfl ?_
      refine c_aald (ci := 6) (kt := (7, 0, (110 + m))) (by decide) (Or.inl (by decide)) dX10_room_28 h_24 (by decide) (by omega) (by omega) (kl_m ⟨by omega, by omega⟩) (Nat.succ_ne_zero _) (fun q_28 h_28 => ?_)
      refine e_iload_n dX10_room_29 rfl ?_
      refine c_putI (by omega) dX10_room_30 f_X10_149 rfl h_28 (by omega) ⟨by omega, by omega⟩ ?_
      refine e_iload_n dX10_room_33 rfl ?_
      exact e_iret dX10_room_34 (Or.inl rfl) (pbm0 (X := q_us (thr M 0) 12 m h) (by unfold roomF; rw [if_neg (by omega), if_neg (by omega)]) hB rfl ⟨(by have h9 := hR.1; unfold RS at h9 ⊢; simp only [q_us_ap, Int.reduceEq, Int.reduceNeg, false_and, and_false, and_self, true_and, and_true, if_true, if_false]; omega), RD_fr (rc_D hR) (by intros; first | rfl | (simp only [q_us_ap]; repeat rw [if_neg (by omega)])) (by intros; first | rfl | (simp only [q_us_ap]; repeat rw [if_neg (by omega)])) (by intros; first | rfl | (simp only [q_us_ap]; repeat rw [if_neg (by omega)])), RP_fr (rc_P hR) (by intros; first | rfl | (simp only [q_us_ap]; repeat rw [if_neg (by omega)])) (by intros; first | rfl | (simp only [q_us_ap]; repeat rw [if_neg (by omega)])) (by intros; first | rfl | (simp only [q_us_ap]; repeat rw [if_neg (by omega)])) (by intros; first | rfl | (simp only [q_us_ap]; repeat rw [if_neg (by omega)])) (by intros; first | rfl | (simp only [q_us_ap]; repeat rw [if_neg (by omega)])) (by intros; first | rfl | (simp only [q_us_ap]; repeat rw [if_neg (by omega)])) (by intros; first | rfl | (simp only [q_us_ap]; repeat rw [if_neg (by omega)])), (by
          intro m2 h1 h2
          have h9 := rc_M hR m2 h1 h2
          simp only [q_us_ap, Int.reduceEq, Int.reduceNeg, and_false, false_and, and_true, true_and, and_self, if_false, if_true]
          refine ⟨?_, ?_⟩
          all_goals (repeat' split)
          all_goals omega), RL_fr (rc_L hR) (by intros; first | rfl | (simp only [q_us_ap]; repeat rw [if_neg (by omega)])) (by intros; first | rfl | (simp only [q_us_ap]; repeat rw [if_neg (by omega)])) (by intros; first | rfl | (simp only [q_us_ap]; repeat rw [if_neg (by omega)])), RV_fr (rc_V hR) (by intros; first | rfl | (simp only [q_us_ap]; repeat rw [if_neg (by omega)])) (by intros; first | rfl | (simp only [q_us_ap]; repeat rw [if_neg (by omega)])) (by intros; first | rfl | (simp only [q_us_ap]; repeat rw [if_neg (by omega)])) (by intros; first | rfl | (simp only [q_us_ap]; repeat rw [if_neg (by omega)])) (by intros; first | rfl | (simp only [q_us_ap]; repeat rw [if_neg (by omega)])) (by intros; first | rfl | (simp only [q_us_ap]; repeat rw [if_neg (by omega)])) (by intros; first | rfl | (simp only [q_us_ap]; repeat rw [if_neg (by omega)])) (by intros; first | rfl | (simp only [q_us_ap]; repeat rw [if_neg (by omega)])) (by intros; first | rfl | (simp only [q_us_ap]; repeat rw [if_neg (by omega)])) (by intros; first | rfl | (simp only [q_us_ap]; repeat rw [if_neg (by omega)])), RK_fr (rc_K hR) (by first | exact Int.le_refl _ | (simp only [q_us_ap, Int.reduceEq, false_and, and_false, if_false]; omega)) (by intros; first | rfl | (simp only [q_us_ap]; repeat rw [if_neg (by omega)])) (by intros; first | rfl | (simp only [q_us_ap]; repeat rw [if_neg (by omega)])) (by intros; first | rfl | (simp only [q_us_ap]; repeat rw [if_neg (by omega)])) (by intros; first | rfl | (simp only [q_us_ap]; repeat rw [if_neg (by omega)])), RH_fr (rc_H hR) (by intros; first | rfl | (simp only [q_us_ap]; repeat rw [if_neg (by omega)])) (by intros; first | rfl | (simp only [q_us_ap]; repeat rw [if_neg (by omega)])) (by intros; first | rfl | (simp only [q_us_ap]; repeat rw [if_neg (by omega)])) (by intros; first | rfl | (simp only [q_us_ap]; repeat rw [if_neg (by omega)])), RO_fr (rc_O hR) (by intros; first | rfl | (simp only [q_us_ap]; repeat rw [if_neg (by omega)])) (by intros; first | rfl | (simp only [q_us_ap]; repeat rw [if_neg (by omega)])) (by intros; first | rfl | (simp only [q_us_ap]; repeat rw [if_neg (by omega)])) (by intros; first | rfl | (simp only [q_us_ap]; repeat rw [if_neg (by omega)])) (by intros; first | rfl | (simp only [q_us_ap]; repeat rw [if_neg (by omega)])) (by intros; first | rfl | (simp only [q_us_ap]; repeat rw [if_neg (by omega)])) (by intros; first | rfl | (simp only [q_us_ap]; repeat rw [if_neg (by omega)])), RT_fr (rc_T hR) (by intros; first | rfl | (simp only [q_us_ap]; repeat rw [if_neg (by omega)])) (by intros; first | rfl | (simp only [q_us_ap]; repeat rw [if_neg (by omega)])) (by intros; first | rfl | (simp only [q_us_ap]; repeat rw [if_neg (by omega)])) (by intros; first | rfl | (simp only [q_us_ap]; repeat rw [if_neg (by omega)])) (by intros; first | rfl | (simp only [q_us_ap]; repeat rw [if_neg (by omega)])) (by intros; first | rfl | (simp only [q_us_ap]; repeat rw [if_neg (by omega)])) (by intros; first | rfl | (simp only [q_us_ap]; repeat rw [if_neg (by omega)])) (by intros; first | rfl | (simp only [q_us_ap]; repeat rw [if_neg (by omega)])), RE_fr (rc_E hR) (by intros; first | rfl | (simp only [q_us_ap]; repeat rw [if_neg (by omega)])) (by intros; first | rfl | (simp only [q_us_ap]; repeat rw [if_neg (by omega)])) (by intros; first | rfl | (simp only [q_us_ap]; repeat rw [if_neg (by omega)])) (by intros; first | rfl | (simp only [q_us_ap]; repeat rw [if_neg (by omega)])) (by intros; first | rfl | (simp only [q_us_ap]; repeat rw [if_neg (by omega)])) (by intros; first | rfl | (simp only [q_us_ap]; repeat rw [if_neg (by omega)])) (by intros; first | rfl | (simp only [q_us_ap]; repeat rw [if_neg (by omega)])), CC_fr (rc_C hR) (by intros; first | rfl | (simp only [q_us_ap]; repeat rw [if_neg (by omega)]))⟩)
    · refine e_iload_n dX10_room_0 rfl ?_
      refine e_iconst dX10_room_1 ?_
      refine e_cS (as := [_, _]) dX10_room_2 k_X10_needIndex l_X10_99 s_X10_needIndex rfl rfl rfl rfl (Nat.le_of_ble_eq_true rfl) ⟨by decide, by decide⟩ (Nat.le_of_ble_eq_true rfl) (by decide) (c_nI1 hm ⟨by decide, by decide⟩ (by omega)) ?_
      refine e_iload_n dX10_room_5 rfl ?_
      refine e_iconst dX10_room_6 ?_
      refine e_sipush dX10_room_7 (by decide) ?_
      exact e_cST (as := [_, _, _]) dX10_room_10 k_X10_needRange l_X10_88 s_X10_needRange rfl rfl rfl rfl (Nat.le_of_ble_eq_true rfl) ⟨by decide, by decide⟩ (Nat.le_of_ble_eq_true rfl) (by decide) (c_nR0 hh ⟨by decide, by decide⟩ ⟨by decide, by decide⟩ hc hs (by omega)) (pbq2 hB hR (by unfold roomF; rw [if_neg (by omega), if_pos (by omega)]))
  · refine e_iload_n dX10_room_0 rfl ?_
    refine e_iconst dX10_room_1 ?_
    exact e_cST (as := [_, _]) dX10_room_2 k_X10_needIndex l_X10_99 s_X10_needIndex rfl rfl rfl rfl (Nat.le_of_ble_eq_true rfl) ⟨by decide, by decide⟩ (Nat.le_of_ble_eq_true rfl) (by decide) (c_nI0 hm ⟨by decide, by decide⟩ hc hs (by omega)) (pbq1 hB hR (by unfold roomF; rw [if_pos (by omega)]))
set_option maxRecDepth 20000 in
set_option maxHeartbeats 4000000 in
theorem c_10_pin {K : q_K} {B M C : q_S} {a : Nat} (hT : K a = (11, 0, 100)) (hR : RC M C) (hI : MI M) (hW : WR M) (hB : q_tb K (M 50 16)) {c s : Nat} (hc : 1 ≤ c) (hs : 6 ≤ s) {m f b : Int} (hm : q_iI m) (hf : q_iI f) (hb : q_iI b) (hb2 : b = 0 ∨ b = 1) : q_E mX10_pin 0 [some (q_R a), some (q_I m), some (q_I f), some (q_I b), none, none] [] K B C c s (PB (pinF M m f b) "java/lang/IndexOutOfBoundsException" "" "" K B) := by
  have hm1 := hm.1
  have hm2 := hm.2
  have hf1 := hf.1
  have hf2 := hf.2
  have hb1 := hb.1
  have hb2 := hb.2
  by_cases e0 : 0 ≤ m ∧ m < 3
  · by_cases e1 : 0 ≤ f ∧ f < 16
    · refine e_iload_n dX10_pin_0 rfl ?_
      refine e_iconst dX10_pin_1 ?_
      refine e_cS (as := [_, _]) dX10_pin_2 k_X10_needIndex l_X10_99 s_X10_needIndex rfl rfl rfl rfl (Nat.le_of_ble_eq_true rfl) ⟨by decide, by decide⟩ (Nat.le_of_ble_eq_true rfl) (by decide) (c_nI1 hm ⟨by decide, by decide⟩ (by omega)) ?_
      refine e_iload_n dX10_pin_5 rfl ?_
      refine e_bipush dX10_pin_6 (by decide) ?_
      refine e_cS (as := [_, _]) dX10_pin_8 k_X10_needIndex l_X10_99 s_X10_needIndex rfl rfl rfl rfl (Nat.le_of_ble_eq_true rfl) ⟨by decide, by decide⟩ (Nat.le_of_ble_eq_true rfl) (by decide) (c_nI1 hf ⟨by decide, by decide⟩ (by omega)) ?_
      refine e_aload_n dX10_pin_11 rfl ?_
      refine c_getR (kt := (36, 3, 102)) (by decide) (Or.inl (by decide)) dX10_pin_12 f_X10_15 hT rfl (Nat.succ_ne_zero _) (fun q_12 h_12 => ?_)
      refine e_iload_n dX10_pin_15 rfl ?_
      refine c_aald (ci := 6) (kt := (7, 0, (110 + m))) (by decide) (Or.inl (by decide)) dX10_pin_16 h_12 (by decide) (by omega) (by omega) (kl_m ⟨by omega, by omega⟩) (Nat.succ_ne_zero _) (fun q_16 h_16 => ?_)
      refine c_getR (kt := (31, 16, (140 + m))) (by omega) (Or.inl (by omega)) dX10_pin_17 f_X10_105 h_16 (kl_c ⟨by omega, by omega⟩) (Nat.succ_ne_zero _) (fun q_17 h_17 => ?_)
      refine e_iload_n dX10_pin_20 rfl ?_
      refine c_aald (ci := 1) (kt := (2, 0, (200 + (16 * m + f)))) (by omega) (Or.inl (by omega)) dX10_pin_21 h_17 (by decide) (by omega) (by omega) (kl_p ⟨by omega, by omega⟩ ⟨by omega, by omega⟩) (Nat.succ_ne_zero _) (fun q_21 h_21 => ?_)
      refine e_astore (ls2 := [_, _, _, _, _, _]) dX10_pin_22 (Nat.le_of_ble_eq_true rfl) rfl ?_
      refine e_aload dX10_pin_24 rfl ?_
      refine c_getI (by omega) dX10_pin_26 f_X10_152 (Or.inr rfl) h_21 ?_
      rw [rp_4 hR (p := (16 * m + f)) ⟨by omega, by omega⟩]
      have g_26 : 0 ≤ M 6 (16 * m + f) ∧ M 6 (16 * m + f) ≤ 1 := hW 6 (16 * m + f)
      refine e_istore (ls2 := [_, _, _, _, _, _]) dX10_pin_29 (Nat.le_of_ble_eq_true rfl) rfl ?_
      refine e_aload dX10_pin_31 rfl ?_
      refine e_iload_n dX10_pin_33 rfl ?_
      refine c_putB (by omega) dX10_pin_34 f_X10_152 rfl h_21 (by omega) (by omega) ?_
      refine e_iload dX10_pin_37 rfl ?_
      exact e_iret dX10_pin_39 (Or.inr ⟨rfl, (by omega)⟩) (pbm0 (X := q_us (thr M 0) 6 (16 * m + f) b) (by unfold pinF; rw [if_neg (fun g => g (show inMF m f from ⟨⟨by omega, by omega⟩, by omega, by omega⟩)), show bi (M 6 (16 * m + f) = 1) = M 6 (16 * m + f) from by unfold bi; split <;> omega]) hB rfl ⟨(by have h9 := hR.1; unfold RS at h9 ⊢; simp only [q_us_ap, Int.reduceEq, Int.reduceNeg, false_and, and_false, and_self, true_and, and_true, if_true, if_false]; omega), RD_fr (rc_D hR) (by intros; first | rfl | (simp only [q_us_ap]; repeat rw [if_neg (by omega)])) (by intros; first | rfl | (simp only [q_us_ap]; repeat rw [if_neg (by omega)])) (by intros; first | rfl | (simp only [q_us_ap]; repeat rw [if_neg (by omega)])), (by
          intro p2 h1 h2
          have h9 := rc_P hR p2 h1 h2
          rw [cfo_eq (M' := q_us (thr M 0) 6 (16 * m + f) b) (M := M) (fun _ => rfl) (fun _ => rfl)]
          simp only [q_us_ap, Int.reduceEq, Int.reduceNeg, and_false, false_and, and_true, true_and, and_self, if_false, if_true]
          refine ⟨?_, ?_, ?_, ?_, ?_, ?_⟩
          all_goals (repeat' split)
          all_goals omega), RM_fr (rc_M hR) (by intros; first | rfl | (simp only [q_us_ap]; repeat rw [if_neg (by omega)])) (by intros; first | rfl | (simp only [q_us_ap]; repeat rw [if_neg (by omega)])) (by intros; first | rfl | (simp only [q_us_ap]; repeat rw [if_neg (by omega)])), RL_fr (rc_L hR) (by intros; first | rfl | (simp only [q_us_ap]; repeat rw [if_neg (by omega)])) (by intros; first | rfl | (simp only [q_us_ap]; repeat rw [if_neg (by omega)])) (by intros; first | rfl | (simp only [q_us_ap]; repeat rw [if_neg (by omega)])), RV_fr (rc_V hR) (by intros; first | rfl | (simp only [q_us_ap]; repeat rw [if_neg (by omega)])) (by intros; first | rfl | (simp only [q_us_ap]; repeat rw [if_neg (by omega)])) (by intros; first | rfl | (simp only [q_us_ap]; repeat rw [if_neg (by omega)])) (by intros; first | rfl | (simp only [q_us_ap]; repeat rw [if_neg (by omega)])) (by intros; first | rfl | (simp only [q_us_ap]; repeat rw [if_neg (by omega)])) (by intros; first | rfl | (simp only [q_us_ap]; repeat rw [if_neg (by omega)])) (by intros; first | rfl | (simp only [q_us_ap]; repeat rw [if_neg (by omega)])) (by intros; first | rfl | (simp only [q_us_ap]; repeat rw [if_neg (by omega)])) (by intros; first | rfl | (simp only [q_us_ap]; repeat rw [if_neg (by omega)])) (by intros; first | rfl | (simp only [q_us_ap]; repeat rw [if_neg (by omega)])), RK_fr (rc_K hR) (by first | exact Int.le_refl _ | (simp only [q_us_ap, Int.reduceEq, false_and, and_false, if_false]; omega)) (by intros; first | rfl | (simp only [q_us_ap]; repeat rw [if_neg (by omega)])) (by intros; first | rfl | (simp only [q_us_ap]; repeat rw [if_neg (by omega)])) (by intros; first | rfl | (simp only [q_us_ap]; repeat rw [if_neg (by omega)])) (by intros; first | rfl | (simp only [q_us_ap]; repeat rw [if_neg (by omega)])), RH_fr (rc_H hR) (by intros; first | rfl | (simp only [q_us_ap]; repeat rw [if_neg (by omega)])) (by intros; first | rfl | (simp only [q_us_ap]; repeat rw [if_neg (by omega)])) (by intros; first | rfl | (simp only [q_us_ap]; repeat rw [if_neg (by omega)])) (by intros; first | rfl | (simp only [q_us_ap]; repeat rw [if_neg (by omega)])), RO_fr (rc_O hR) (by intros; first | rfl | (simp only [q_us_ap]; repeat rw [if_neg (by omega)])) (by intros; first | rfl | (simp only [q_us_ap]; repeat rw [if_neg (by omega)])) (by intros; first | rfl | (simp only [q_us_ap]; repeat rw [if_neg (by omega)])) (by intros; first | rfl | (simp only [q_us_ap]; repeat rw [if_neg (by omega)])) (by intros; first | rfl | (simp only [q_us_ap]; repeat rw [if_neg (by omega)])) (by intros; first | rfl | (simp only [q_us_ap]; repeat rw [if_neg (by omega)])) (by intros; first | rfl | (simp only [q_us_ap]; repeat rw [if_neg (by omega)])), RT_fr (rc_T hR) (by intros; first | rfl | (simp only [q_us_ap]; repeat rw [if_neg (by omega)])) (by intros; first | rfl | (simp only [q_us_ap]; repeat rw [if_neg (by omega)])) (by intros; first | rfl | (simp only [q_us_ap]; repeat rw [if_neg (by omega)])) (by intros; first | rfl | (simp only [q_us_ap]; repeat rw [if_neg (by omega)])) (by intros; first | rfl | (simp only [q_us_ap]; repeat rw [if_neg (by omega)])) (by intros; first | rfl | (simp only [q_us_ap]; repeat rw [if_neg (by omega)])) (by intros; first | rfl | (simp only [q_us_ap]; repeat rw [if_neg (by omega)])) (by intros; first | rfl | (simp only [q_us_ap]; repeat rw [if_neg (by omega)])), RE_fr (rc_E hR) (by intros; first | rfl | (simp only [q_us_ap]; repeat rw [if_neg (by omega)])) (by intros; first | rfl | (simp only [q_us_ap]; repeat rw [if_neg (by omega)])) (by intros; first | rfl | (simp only [q_us_ap]; repeat rw [if_neg (by omega)])) (by intros; first | rfl | (simp only [q_us_ap]; repeat rw [if_neg (by omega)])) (by intros; first | rfl | (simp only [q_us_ap]; repeat rw [if_neg (by omega)])) (by intros; first | rfl | (simp only [q_us_ap]; repeat rw [if_neg (by omega)])) (by intros; first | rfl | (simp only [q_us_ap]; repeat rw [if_neg (by omega)])), CC_fr (rc_C hR) (by intros; first | rfl | (simp only [q_us_ap]; repeat rw [if_neg (by omega)]))⟩)
    · refine e_iload_n dX10_pin_0 rfl ?_
      refine e_iconst dX10_pin_1 ?_
      refine e_cS (as := [_, _]) dX10_pin_2 k_X10_needIndex l_X10_99 s_X10_needIndex rfl rfl rfl rfl (Nat.le_of_ble_eq_true rfl) ⟨by decide, by decide⟩ (Nat.le_of_ble_eq_true rfl) (by decide) (c_nI1 hm ⟨by decide, by decide⟩ (by omega)) ?_
      refine e_iload_n dX10_pin_5 rfl ?_
      refine e_bipush dX10_pin_6 (by decide) ?_
      exact e_cST (as := [_, _]) dX10_pin_8 k_X10_needIndex l_X10_99 s_X10_needIndex rfl rfl rfl rfl (Nat.le_of_ble_eq_true rfl) ⟨by decide, by decide⟩ (Nat.le_of_ble_eq_true rfl) (by decide) (c_nI0 hf ⟨by decide, by decide⟩ hc hs (by omega)) (pbq1 hB hR (by unfold pinF; rw [if_pos (show ¬ inMF m f from fun h => by have h1 := h.1; have h2 := h.2; omega)]))
  · refine e_iload_n dX10_pin_0 rfl ?_
    refine e_iconst dX10_pin_1 ?_
    exact e_cST (as := [_, _]) dX10_pin_2 k_X10_needIndex l_X10_99 s_X10_needIndex rfl rfl rfl rfl (Nat.le_of_ble_eq_true rfl) ⟨by decide, by decide⟩ (Nat.le_of_ble_eq_true rfl) (by decide) (c_nI0 hm ⟨by decide, by decide⟩ hc hs (by omega)) (pbq1 hB hR (by unfold pinF; rw [if_pos (show ¬ inMF m f from fun h => by have h1 := h.1; have h2 := h.2; omega)]))
set_option maxRecDepth 20000 in
set_option maxHeartbeats 4000000 in
theorem c_4_take {K : q_K} {B M C : q_S} {l : Nat} (hL : K l = (5, 0, 106)) (hR : RC M C) (hI : MI M) (hW : WR M) {f m e : Int} (hf : 0 ≤ f ∧ f ≤ 15) (hm : -1 ≤ m ∧ m ≤ 2) (he : 0 ≤ e ∧ e ≤ 2100) : q_E mX4_take 0 [some (q_R l), some (q_I f), some (q_I m), some (q_I e)] [] K B C 0 0 (e_is none K B (q_us (q_us C 131 f m) 132 f e)) := by
  refine e_aload_n dX4_take_0 rfl ?_
  refine c_getR (kt := (20, 16, 131)) (by decide) (Or.inl (by decide)) dX4_take_1 f_X4_9 hL rfl (Nat.succ_ne_zero _) (fun q_1 h_1 => ?_)
  refine e_iload_n dX4_take_4 rfl ?_
  refine e_iload_n dX4_take_5 rfl ?_
  refine c_iast (by decide) dX4_take_6 h_1 (by omega) (by omega) (by decide) ⟨by omega, by omega⟩ ?_
  refine e_aload_n dX4_take_7 rfl ?_
  refine c_getR (kt := (20, 16, 132)) (by decide) (Or.inl (by decide)) dX4_take_8 f_X4_15 hL rfl (Nat.succ_ne_zero _) (fun q_8 h_8 => ?_)
  refine e_iload_n dX4_take_11 rfl ?_
  refine e_iload_n dX4_take_12 rfl ?_
  refine c_iast (by decide) dX4_take_13 h_8 (by omega) (by omega) (by decide) ⟨by omega, by omega⟩ ?_
  exact e_ret dX4_take_14 rfl (e_ok rfl rfl rfl)
set_option maxRecDepth 20000 in
set_option maxHeartbeats 4000000 in
theorem c_10_lock {K : q_K} {B M C : q_S} {a : Nat} (hT : K a = (11, 0, 100)) (hR : RC M C) (hI : MI M) (hW : WR M) (hB : q_tb K (M 50 16)) {c s : Nat} (hc : 1 ≤ c) (hs : 6 ≤ s) {m f h : Int} (hm : q_iI m) (hf : q_iI f) (hh : q_iI h)  : q_E mX10_lock 0 [some (q_R a), some (q_I m), some (q_I f), some (q_I h)] [] K B C c s (PB (lockMF M m f h) "java/lang/IndexOutOfBoundsException" "java/lang/IllegalArgumentException" "java/lang/IllegalStateException" K B) := by
  have h01 := rs_1 hW
  have hm1 := hm.1
  have hm2 := hm.2
  have hf1 := hf.1
  have hf2 := hf.2
  have hh1 := hh.1
  have hh2 := hh.2
  by_cases e0 : 0 ≤ m ∧ m < 3
  · by_cases e1 : 0 ≤ f ∧ f < 16
    · by_cases e2 : 1 ≤ h ∧ h ≤ 48
      · by_cases e3 : ¬ (¬ lockF M f = -1 ∧ ¬ lockF M f = m)
        · refine e_iload_n dX10_lock_0 rfl ?_
          refine e_iconst dX10_lock_1 ?_
          refine e_cS (as := [_, _]) dX10_lock_2 k_X10_needIndex l_X10_99 s_X10_needIndex rfl rfl rfl rfl (Nat.le_of_ble_eq_true rfl) ⟨by decide, by decide⟩ (Nat.le_of_ble_eq_true rfl) (by decide) (c_nI1 hm ⟨by decide, by decide⟩ (by omega)) ?_
          refine e_iload_n dX10_lock_5 rfl ?_
          refine e_bipush dX10_lock_6 (by decide) ?_
          refine e_cS (as := [_, _]) dX10_lock_8 k_X10_needIndex l_X10_99 s_X10_needIndex rfl rfl rfl rfl (Nat.le_of_ble_eq_true rfl) ⟨by decide, by decide⟩ (Nat.le_of_ble_eq_true rfl) (by decide) (c_nI1 hf ⟨by decide, by decide⟩ (by omega)) ?_
          refine e_iload_n dX10_lock_11 rfl ?_
          refine e_iconst dX10_lock_12 ?_
          refine e_bipush dX10_lock_13 (by decide) ?_
          refine e_cS (as := [_, _, _]) dX10_lock_15 k_X10_needRange l_X10_88 s_X10_needRange rfl rfl rfl rfl (Nat.le_of_ble_eq_true rfl) ⟨by decide, by decide⟩ (Nat.le_of_ble_eq_true rfl) (by decide) (c_nR1 hh ⟨by decide, by decide⟩ ⟨by decide, by decide⟩ (by omega)) ?_
          refine e_aload_n dX10_lock_18 rfl ?_
          refine e_iload_n dX10_lock_19 rfl ?_
          refine e_iload_n dX10_lock_20 rfl ?_
          refine e_cV (as := [_, _]) (ci := 10) dX10_lock_21 k_X10_isLockedByOther l_X10_214 i_X10_isLockedByOther v_X10_isLockedByOther hT rfl (by decide) ⟨_, _, rfl⟩ rfl rfl rfl rfl (Nat.le_of_ble_eq_true rfl) ⟨by decide, by decide⟩ (Nat.le_of_ble_eq_true rfl) (by decide) (c_10_isLockedByOther hT hR hI hW ⟨by omega, by omega⟩ ⟨by omega, by omega⟩) ?_
          refine e_if_eq (tgt := 37) dX10_lock_24 (by decide) bi_iI (fun c_24 => ?_) (fun c_24 => ?_)
          · simp only [bi_z, Classical.not_not] at c_24
            refine e_aload_n dX10_lock_37 rfl ?_
            refine c_getR (kt := (5, 0, 106)) (by decide) (Or.inl (by decide)) dX10_lock_38 f_X10_36 hT rfl (Nat.succ_ne_zero _) (fun q_38 h_38 => ?_)
            refine e_iload_n dX10_lock_41 rfl ?_
            refine e_iload_n dX10_lock_42 rfl ?_
            refine e_aload_n dX10_lock_43 rfl ?_
            refine c_getI (by decide) dX10_lock_44 f_X10_58 (Or.inl rfl) hT ?_
            rw [rs_now hR]
            have g_44 := rs_1 hW
            refine e_iload_n dX10_lock_47 rfl ?_
            refine e_iadd dX10_lock_48 ?_
            refine e_cV (as := [_, _, _]) (ci := 4) dX10_lock_49 k_X4_take l_X10_220 i_X4_take v_X4_take h_38 rfl (by decide) ⟨_, _, rfl⟩ rfl rfl rfl rfl (Nat.le_of_ble_eq_true rfl) ⟨by decide, by decide⟩ (Nat.le_of_ble_eq_true rfl) (by decide) (c_4_take h_38 hR hI hW ⟨by omega, by omega⟩ ⟨by omega, by omega⟩ ⟨by omega, by omega⟩) ?_
            refine e_aload_n dX10_lock_52 rfl ?_
            refine c_getI (by decide) dX10_lock_53 f_X10_58 (Or.inl rfl) hT ?_
            try simp only [q_us_ap, editsF_3, Int.reduceEq, Int.reduceNeg, false_and, and_false, and_self, if_true, if_false, true_and, and_true, ite_self]
            rw [rs_now hR]
            have g_53 := rs_1 hW
            refine e_iload_n dX10_lock_56 rfl ?_
            refine e_iadd dX10_lock_57 ?_
            exact e_iret dX10_lock_58 (Or.inl rfl) (pbm0 (X := q_us (q_us (thr M 0) 23 f (m + 1)) 24 f (M 50 1 + h)) (by unfold lockMF; rw [if_neg (fun g => g (show inMF m f from ⟨⟨by omega, by omega⟩, by omega, by omega⟩)), if_neg (by omega), if_neg e3]) hB rfl ⟨(by have h9 := hR.1; unfold RS at h9 ⊢; simp only [q_us_ap, Int.reduceEq, Int.reduceNeg, false_and, and_false, and_self, true_and, and_true, if_true, if_false]; omega), RD_fr (rc_D hR) (by intros; first | rfl | (simp only [q_us_ap]; repeat rw [if_neg (by omega)])) (by intros; first | rfl | (simp only [q_us_ap]; repeat rw [if_neg (by omega)])) (by intros; first | rfl | (simp only [q_us_ap]; repeat rw [if_neg (by omega)])), RP_fr (rc_P hR) (by intros; first | rfl | (simp only [q_us_ap]; repeat rw [if_neg (by omega)])) (by intros; first | rfl | (simp only [q_us_ap]; repeat rw [if_neg (by omega)])) (by intros; first | rfl | (simp only [q_us_ap]; repeat rw [if_neg (by omega)])) (by intros; first | rfl | (simp only [q_us_ap]; repeat rw [if_neg (by omega)])) (by intros; first | rfl | (simp only [q_us_ap]; repeat rw [if_neg (by omega)])) (by intros; first | rfl | (simp only [q_us_ap]; repeat rw [if_neg (by omega)])) (by intros; first | rfl | (simp only [q_us_ap]; repeat rw [if_neg (by omega)])), RM_fr (rc_M hR) (by intros; first | rfl | (simp only [q_us_ap]; repeat rw [if_neg (by omega)])) (by intros; first | rfl | (simp only [q_us_ap]; repeat rw [if_neg (by omega)])) (by intros; first | rfl | (simp only [q_us_ap]; repeat rw [if_neg (by omega)])), RL_fr (rc_L hR) (by intros; first | rfl | (simp only [q_us_ap]; repeat rw [if_neg (by omega)])) (by intros; first | rfl | (simp only [q_us_ap]; repeat rw [if_neg (by omega)])) (by intros; first | rfl | (simp only [q_us_ap]; repeat rw [if_neg (by omega)])), RV_fr (rc_V hR) (by intros; first | rfl | (simp only [q_us_ap]; repeat rw [if_neg (by omega)])) (by intros; first | rfl | (simp only [q_us_ap]; repeat rw [if_neg (by omega)])) (by intros; first | rfl | (simp only [q_us_ap]; repeat rw [if_neg (by omega)])) (by intros; first | rfl | (simp only [q_us_ap]; repeat rw [if_neg (by omega)])) (by intros; first | rfl | (simp only [q_us_ap]; repeat rw [if_neg (by omega)])) (by intros; first | rfl | (simp only [q_us_ap]; repeat rw [if_neg (by omega)])) (by intros; first | rfl | (simp only [q_us_ap]; repeat rw [if_neg (by omega)])) (by intros; first | rfl | (simp only [q_us_ap]; repeat rw [if_neg (by omega)])) (by intros; first | rfl | (simp only [q_us_ap]; repeat rw [if_neg (by omega)])) (by intros; first | rfl | (simp only [q_us_ap]; repeat rw [if_neg (by omega)])), (by
                intro f2 h1 h2
                have h9 := rc_K hR f2 h1 h2
                have h8 := rs_1 hW
                simp only [q_us_ap, Int.reduceEq, Int.reduceNeg, and_false, false_and, and_true, true_and, and_self, if_false, if_true]
                by_cases ef : f2 = f
                · subst ef
                  rw [if_pos rfl, if_pos rfl]
                  refine ⟨⟨⟨by omega, by omega⟩, by omega, by omega⟩, fun t ht => ?_⟩
                  try rw [if_pos rfl]
                  try rw [if_pos rfl]
                  repeat' split
                  all_goals omega
                · rw [if_neg ef, if_neg ef]
                  refine ⟨h9.1, fun t ht => ?_⟩
                  have h10 := h9.2 t ht
                  try rw [if_neg ef]
                  try rw [if_neg ef]
                  exact h10), RH_fr (rc_H hR) (by intros; first | rfl | (simp only [q_us_ap]; repeat rw [if_neg (by omega)])) (by intros; first | rfl | (simp only [q_us_ap]; repeat rw [if_neg (by omega)])) (by intros; first | rfl | (simp only [q_us_ap]; repeat rw [if_neg (by omega)])) (by intros; first | rfl | (simp only [q_us_ap]; repeat rw [if_neg (by omega)])), RO_fr (rc_O hR) (by intros; first | rfl | (simp only [q_us_ap]; repeat rw [if_neg (by omega)])) (by intros; first | rfl | (simp only [q_us_ap]; repeat rw [if_neg (by omega)])) (by intros; first | rfl | (simp only [q_us_ap]; repeat rw [if_neg (by omega)])) (by intros; first | rfl | (simp only [q_us_ap]; repeat rw [if_neg (by omega)])) (by intros; first | rfl | (simp only [q_us_ap]; repeat rw [if_neg (by omega)])) (by intros; first | rfl | (simp only [q_us_ap]; repeat rw [if_neg (by omega)])) (by intros; first | rfl | (simp only [q_us_ap]; repeat rw [if_neg (by omega)])), RT_fr (rc_T hR) (by intros; first | rfl | (simp only [q_us_ap]; repeat rw [if_neg (by omega)])) (by intros; first | rfl | (simp only [q_us_ap]; repeat rw [if_neg (by omega)])) (by intros; first | rfl | (simp only [q_us_ap]; repeat rw [if_neg (by omega)])) (by intros; first | rfl | (simp only [q_us_ap]; repeat rw [if_neg (by omega)])) (by intros; first | rfl | (simp only [q_us_ap]; repeat rw [if_neg (by omega)])) (by intros; first | rfl | (simp only [q_us_ap]; repeat rw [if_neg (by omega)])) (by intros; first | rfl | (simp only [q_us_ap]; repeat rw [if_neg (by omega)])) (by intros; first | rfl | (simp only [q_us_ap]; repeat rw [if_neg (by omega)])), RE_fr (rc_E hR) (by intros; first | rfl | (simp only [q_us_ap]; repeat rw [if_neg (by omega)])) (by intros; first | rfl | (simp only [q_us_ap]; repeat rw [if_neg (by omega)])) (by intros; first | rfl | (simp only [q_us_ap]; repeat rw [if_neg (by omega)])) (by intros; first | rfl | (simp only [q_us_ap]; repeat rw [if_neg (by omega)])) (by intros; first | rfl | (simp only [q_us_ap]; repeat rw [if_neg (by omega)])) (by intros; first | rfl | (simp only [q_us_ap]; repeat rw [if_neg (by omega)])) (by intros; first | rfl | (simp only [q_us_ap]; repeat rw [if_neg (by omega)])), CC_fr (rc_C hR) (by intros; first | rfl | (simp only [q_us_ap]; repeat rw [if_neg (by omega)]))⟩)
          · simp only [bi_z, Classical.not_not] at c_24
            exfalso; omega
        · refine e_iload_n dX10_lock_0 rfl ?_
          refine e_iconst dX10_lock_1 ?_
          refine e_cS (as := [_, _]) dX10_lock_2 k_X10_needIndex l_X10_99 s_X10_needIndex rfl rfl rfl rfl (Nat.le_of_ble_eq_true rfl) ⟨by decide, by decide⟩ (Nat.le_of_ble_eq_true rfl) (by decide) (c_nI1 hm ⟨by decide, by decide⟩ (by omega)) ?_
          refine e_iload_n dX10_lock_5 rfl ?_
          refine e_bipush dX10_lock_6 (by decide) ?_
          refine e_cS (as := [_, _]) dX10_lock_8 k_X10_needIndex l_X10_99 s_X10_needIndex rfl rfl rfl rfl (Nat.le_of_ble_eq_true rfl) ⟨by decide, by decide⟩ (Nat.le_of_ble_eq_true rfl) (by decide) (c_nI1 hf ⟨by decide, by decide⟩ (by omega)) ?_
          refine e_iload_n dX10_lock_11 rfl ?_
          refine e_iconst dX10_lock_12 ?_
          refine e_bipush dX10_lock_13 (by decide) ?_
          refine e_cS (as := [_, _, _]) dX10_lock_15 k_X10_needRange l_X10_88 s_X10_needRange rfl rfl rfl rfl (Nat.le_of_ble_eq_true rfl) ⟨by decide, by decide⟩ (Nat.le_of_ble_eq_true rfl) (by decide) (c_nR1 hh ⟨by decide, by decide⟩ ⟨by decide, by decide⟩ (by omega)) ?_
          refine e_aload_n dX10_lock_18 rfl ?_
          refine e_iload_n dX10_lock_19 rfl ?_
          refine e_iload_n dX10_lock_20 rfl ?_
          refine e_cV (as := [_, _]) (ci := 10) dX10_lock_21 k_X10_isLockedByOther l_X10_214 i_X10_isLockedByOther v_X10_isLockedByOther hT rfl (by decide) ⟨_, _, rfl⟩ rfl rfl rfl rfl (Nat.le_of_ble_eq_true rfl) ⟨by decide, by decide⟩ (Nat.le_of_ble_eq_true rfl) (by decide) (c_10_isLockedByOther hT hR hI hW ⟨by omega, by omega⟩ ⟨by omega, by omega⟩) ?_
          refine e_if_eq (tgt := 37) dX10_lock_24 (by decide) bi_iI (fun c_24 => ?_) (fun c_24 => ?_)
          · simp only [bi_z, Classical.not_not] at c_24
            exfalso; omega
          · simp only [bi_z, Classical.not_not] at c_24
            exact e_thrS dX10_lock_27 dX10_lock_30 dX10_lock_31 dX10_lock_33 dX10_lock_36 x_sta y_hasl rfl (Nat.le_of_ble_eq_true rfl) ⟨by decide, by decide⟩ hc hs (pbq3 hB hR (by unfold lockMF; rw [if_neg (fun g => g (show inMF m f from ⟨⟨by omega, by omega⟩, by omega, by omega⟩)), if_neg (by omega), if_pos (Classical.not_not.mp e3)]))
      · refine e_iload_n dX10_lock_0 rfl ?_
        refine e_iconst dX10_lock_1 ?_
        refine e_cS (as := [_, _]) dX10_lock_2 k_X10_needIndex l_X10_99 s_X10_needIndex rfl rfl rfl rfl (Nat.le_of_ble_eq_true rfl) ⟨by decide, by decide⟩ (Nat.le_of_ble_eq_true rfl) (by decide) (c_nI1 hm ⟨by decide, by decide⟩ (by omega)) ?_
        refine e_iload_n dX10_lock_5 rfl ?_
        refine e_bipush dX10_lock_6 (by decide) ?_
        refine e_cS (as := [_, _]) dX10_lock_8 k_X10_needIndex l_X10_99 s_X10_needIndex rfl rfl rfl rfl (Nat.le_of_ble_eq_true rfl) ⟨by decide, by decide⟩ (Nat.le_of_ble_eq_true rfl) (by decide) (c_nI1 hf ⟨by decide, by decide⟩ (by omega)) ?_
        refine e_iload_n dX10_lock_11 rfl ?_
        refine e_iconst dX10_lock_12 ?_
        refine e_bipush dX10_lock_13 (by decide) ?_
        exact e_cST (as := [_, _, _]) dX10_lock_15 k_X10_needRange l_X10_88 s_X10_needRange rfl rfl rfl rfl (Nat.le_of_ble_eq_true rfl) ⟨by decide, by decide⟩ (Nat.le_of_ble_eq_true rfl) (by decide) (c_nR0 hh ⟨by decide, by decide⟩ ⟨by decide, by decide⟩ hc hs (by omega)) (pbq2 hB hR (by unfold lockMF; rw [if_neg (fun g => g (show inMF m f from ⟨⟨by omega, by omega⟩, by omega, by omega⟩)), if_pos (by omega)]))
    · refine e_iload_n dX10_lock_0 rfl ?_
      refine e_iconst dX10_lock_1 ?_
      refine e_cS (as := [_, _]) dX10_lock_2 k_X10_needIndex l_X10_99 s_X10_needIndex rfl rfl rfl rfl (Nat.le_of_ble_eq_true rfl) ⟨by decide, by decide⟩ (Nat.le_of_ble_eq_true rfl) (by decide) (c_nI1 hm ⟨by decide, by decide⟩ (by omega)) ?_
      refine e_iload_n dX10_lock_5 rfl ?_
      refine e_bipush dX10_lock_6 (by decide) ?_
      exact e_cST (as := [_, _]) dX10_lock_8 k_X10_needIndex l_X10_99 s_X10_needIndex rfl rfl rfl rfl (Nat.le_of_ble_eq_true rfl) ⟨by decide, by decide⟩ (Nat.le_of_ble_eq_true rfl) (by decide) (c_nI0 hf ⟨by decide, by decide⟩ hc hs (by omega)) (pbq1 hB hR (by unfold lockMF; rw [if_pos (show ¬ inMF m f from fun h => by have h1 := h.1; have h2 := h.2; omega)]))
  · refine e_iload_n dX10_lock_0 rfl ?_
    refine e_iconst dX10_lock_1 ?_
    exact e_cST (as := [_, _]) dX10_lock_2 k_X10_needIndex l_X10_99 s_X10_needIndex rfl rfl rfl rfl (Nat.le_of_ble_eq_true rfl) ⟨by decide, by decide⟩ (Nat.le_of_ble_eq_true rfl) (by decide) (c_nI0 hm ⟨by decide, by decide⟩ hc hs (by omega)) (pbq1 hB hR (by unfold lockMF; rw [if_pos (show ¬ inMF m f from fun h => by have h1 := h.1; have h2 := h.2; omega)]))
