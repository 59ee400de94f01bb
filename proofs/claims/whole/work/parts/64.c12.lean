theorem pbm1 {F : Int × q_S} {x : Int} {X : q_S} {e1 e2 e3 : String} {K K2 : q_K} {B C2 : q_S} (h : F = (x, X)) (hx : q_xt K K2) (hB : q_tb K2 (X 50 16)) (h0 : X 50 41 = 0) (hR : RC X C2) : PB F e1 e2 e3 K B (Sum.inl (some (q_I x))) K2 B C2 := by
  subst h
  exact ⟨⟨hx, hB⟩, rfl, hR, Or.inl ⟨h0, rfl⟩⟩
theorem rc_draft0 {M C : q_S} (hR : RC M C) (h16 : 0 ≤ M 50 16) : RC (q_us M 50 0 0) (q_us C 100 8 0) :=
  ⟨(by have h9 := hR.1; unfold RS at h9 ⊢; simp only [q_us_ap, Int.reduceEq, Int.reduceNeg, false_and, and_false, and_self, true_and, and_true, if_true, if_false]; omega), ⟨by show (0 : Int) = mlen 0; exact mlen_0.symm, fun i h1 h2 => by have h3 : i < mlen 0 := h2; rw [mlen_0] at h3; omega⟩, RP_fr (rc_P hR) (by intros; first | rfl | (simp only [q_us_ap]; repeat rw [if_neg (by omega)])) (by intros; first | rfl | (simp only [q_us_ap]; repeat rw [if_neg (by omega)])) (by intros; first | rfl | (simp only [q_us_ap]; repeat rw [if_neg (by omega)])) (by intros; first | rfl | (simp only [q_us_ap]; repeat rw [if_neg (by omega)])) (by intros; first | rfl | (simp only [q_us_ap]; repeat rw [if_neg (by omega)])) (by intros; first | rfl | (simp only [q_us_ap]; repeat rw [if_neg (by omega)])) (by intros; first | rfl | (simp only [q_us_ap]; repeat rw [if_neg (by omega)])), RM_fr (rc_M hR) (by intros; first | rfl | (simp only [q_us_ap]; repeat rw [if_neg (by omega)])) (by intros; first | rfl | (simp only [q_us_ap]; repeat rw [if_neg (by omega)])) (by intros; first | rfl | (simp only [q_us_ap]; repeat rw [if_neg (by omega)])), RL_fr (rc_L hR) (by intros; first | rfl | (simp only [q_us_ap]; repeat rw [if_neg (by omega)])) (by intros; first | rfl | (simp only [q_us_ap]; repeat rw [if_neg (by omega)])) (by intros; first | rfl | (simp only [q_us_ap]; repeat rw [if_neg (by omega)])), RV_fr (rc_V hR) (by intros; first | rfl | (simp only [q_us_ap]; repeat rw [if_neg (by omega)])) (by intros; first | rfl | (simp only [q_us_ap]; repeat rw [if_neg (by omega)])) (by intros; first | rfl | (simp only [q_us_ap]; repeat rw [if_neg (by omega)])) (by intros; first | rfl | (simp only [q_us_ap]; repeat rw [if_neg (by omega)])) (by intros; first | rfl | (simp only [q_us_ap]; repeat rw [if_neg (by omega)])) (by intros; first | rfl | (simp only [q_us_ap]; repeat rw [if_neg (by omega)])) (by intros; first | rfl | (simp only [q_us_ap]; repeat rw [if_neg (by omega)])) (by intros; first | rfl | (simp only [q_us_ap]; repeat rw [if_neg (by omega)])) (by intros; first | rfl | (simp only [q_us_ap]; repeat rw [if_neg (by omega)])) (by intros; first | rfl | (simp only [q_us_ap]; repeat rw [if_neg (by omega)])), RK_fr (rc_K hR) (by first | exact Int.le_refl _ | (simp only [q_us_ap, Int.reduceEq, false_and, and_false, if_false]; omega)) (by intros; first | rfl | (simp only [q_us_ap]; repeat rw [if_neg (by omega)])) (by intros; first | rfl | (simp only [q_us_ap]; repeat rw [if_neg (by omega)])) (by intros; first | rfl | (simp only [q_us_ap]; repeat rw [if_neg (by omega)])) (by intros; first | rfl | (simp only [q_us_ap]; repeat rw [if_neg (by omega)])), RH_fr (rc_H hR) (by intros; first | rfl | (simp only [q_us_ap]; repeat rw [if_neg (by omega)])) (by intros; first | rfl | (simp only [q_us_ap]; repeat rw [if_neg (by omega)])) (by intros; first | rfl | (simp only [q_us_ap]; repeat rw [if_neg (by omega)])) (by intros; first | rfl | (simp only [q_us_ap]; repeat rw [if_neg (by omega)])), RO_fr (rc_O hR) (by intros; first | rfl | (simp only [q_us_ap]; repeat rw [if_neg (by omega)])) (by intros; first | rfl | (simp only [q_us_ap]; repeat rw [if_neg (by omega)])) (by intros; first | rfl | (simp only [q_us_ap]; repeat rw [if_neg (by omega)])) (by intros; first | rfl | (simp only [q_us_ap]; repeat rw [if_neg (by omega)])) (by intros; first | rfl | (simp only [q_us_ap]; repeat rw [if_neg (by omega)])) (by intros; first | rfl | (simp only [q_us_ap]; repeat rw [if_neg (by omega)])) (by intros; first | rfl | (simp only [q_us_ap]; repeat rw [if_neg (by omega)])), RT_fr (rc_T hR) (by intros; first | rfl | (simp only [q_us_ap]; repeat rw [if_neg (by omega)])) (by intros; first | rfl | (simp only [q_us_ap]; repeat rw [if_neg (by omega)])) (by intros; first | rfl | (simp only [q_us_ap]; repeat rw [if_neg (by omega)])) (by intros; first | rfl | (simp only [q_us_ap]; repeat rw [if_neg (by omega)])) (by intros; first | rfl | (simp only [q_us_ap]; repeat rw [if_neg (by omega)])) (by intros; first | rfl | (simp only [q_us_ap]; repeat rw [if_neg (by omega)])) (by intros; first | rfl | (simp only [q_us_ap]; repeat rw [if_neg (by omega)])) (by intros; first | rfl | (simp only [q_us_ap]; repeat rw [if_neg (by omega)])), RE_fr (rc_E hR) (by intros; first | rfl | (simp only [q_us_ap]; repeat rw [if_neg (by omega)])) (by intros; first | rfl | (simp only [q_us_ap]; repeat rw [if_neg (by omega)])) (by intros; first | rfl | (simp only [q_us_ap]; repeat rw [if_neg (by omega)])) (by intros; first | rfl | (simp only [q_us_ap]; repeat rw [if_neg (by omega)])) (by intros; first | rfl | (simp only [q_us_ap]; repeat rw [if_neg (by omega)])) (by intros; first | rfl | (simp only [q_us_ap]; repeat rw [if_neg (by omega)])) (by intros; first | rfl | (simp only [q_us_ap]; repeat rw [if_neg (by omega)])), CC_fr (rc_C hR) (by intros; first | rfl | (simp only [q_us_ap]; repeat rw [if_neg (by omega)]))⟩
theorem mi_draft {M : q_S} (h : MI M) {z : Int} (hz : vcode z) : MI (q_us M 50 0 z) :=
  ⟨hz, h.2.1, fun v a b => by rw [lat_eq (M' := q_us M 50 0 z) (M := M) (fun _ => rfl) (fun _ => rfl) rfl]; exact h.2.2.1 v a b, h.2.2.2⟩
/-- what writing puts down -/
abbrev wrA (M : q_S) (p fo : Int) : q_S := q_us (q_us (q_us (thr M 0) 4 p fo) 2 p 2) 3 p (M 50 0)
theorem wrA_ok {M C C9 : q_S} (hR : RC M C) (hW : WR M) (hI : MI M) {p fo : Int} (hp : 0 ≤ p ∧ p < 48) (hfo : 0 ≤ fo ∧ fo ≤ 3) (hd : ¬ mlen (M 50 0) = 0) (hC9 : ∀ t j : Int, ¬ (290 ≤ t ∧ t < 999) → C9 t j = C t j) :
    RC (q_us (wrA M p fo) 50 0 0) (q_us (puC C9 p 2 fo (M 50 0)) 100 8 0) ∧ MI (q_us (wrA M p fo) 50 0 0) ∧ WR (q_us (wrA M p fo) 50 0 0) := by
  have h16 := rs_16 hW
  have hz : ¬ M 50 0 = 0 := fun g => hd ((vcode_z hI.1).mpr g)
  have g := rc_P hR p hp.1 hp.2
  have gi := hI.2.1 p hp.1 hp.2
  have f50 := rs_0 hW
  have fM : ∀ t j : Int, ¬ ((2 ≤ t ∧ t ≤ 7) ∧ j = p ∨ t = 50 ∧ j = 41 ∨ t = 40 ∨ t = 42) → wrA M p fo t j = M t j := fun t j x => by
    simp only [q_us_ap]; rw [if_neg (by omega), if_neg (by omega), if_neg (by omega), if_neg (by omega)]
  have e2 : wrA M p fo 2 p = 2 := by simp only [q_us_ap, Int.reduceEq, false_and, and_self, if_false, if_true]
  have e3 : wrA M p fo 3 p = M 50 0 := by simp only [q_us_ap, and_self, if_true]
  have e4 : wrA M p fo 4 p = fo := by simp only [q_us_ap, Int.reduceEq, false_and, and_self, if_false, if_true]
  have d : ∀ j, C9 (200 + p) j = C (200 + p) j := fun j => hC9 _ j (by omega)
  have r1 : RC (wrA M p fo) (puC C9 p 2 fo (M 50 0)) := by
    refine rc_copy (rc_sc hR h16 hC9) h16.1 hp fM (fun t j x => by rw [puC_ap, if_neg (by omega), if_neg (by omega), if_neg (by omega)]) ?_ ?_ ?_ ?_ ?_ ?_
    · rw [e2, puC_ap, if_neg (by omega), if_neg (by omega), if_pos ⟨rfl, rfl⟩]
    · unfold cfo; rw [e2, e4, if_neg (by decide), puC_ap, if_neg (by omega), if_pos ⟨rfl, rfl⟩]
    · rw [e3, puC_ap, if_pos ⟨rfl, rfl⟩]
    · rw [puC_ap, if_neg (by omega), if_neg (by omega), if_neg (by omega), d]; exact g.2.2.2.1
    · rw [puC_ap, if_neg (by omega), if_neg (by omega), if_neg (by omega), d]; exact g.2.2.2.2.1
    · rw [puC_ap, if_neg (by omega), if_neg (by omega), if_neg (by omega), d]; exact g.2.2.2.2.2
  refine ⟨rc_draft0 r1 h16.1, mi_draft (mi_copy hI hp fM (by rw [e3]; exact hI.1) (by rw [e2, e3]; constructor <;> intro x <;> omega) gi.2.2.1 gi.2.2.2.1) vcode_0, ?_⟩
  exact WR.up (WR.up (WR.up (WR.up (hW.thr ⟨by decide, by decide⟩) ⟨(show (0 : Int) ≤ fo by omega), (show fo ≤ (3 : Int) by omega)⟩) ⟨(show (0 : Int) ≤ 2 by decide), (show (2 : Int) ≤ 2 by decide)⟩) ⟨(show (0 : Int) ≤ M 50 0 by omega), (show M 50 0 ≤ (9999999999999 : Int) by omega)⟩) ⟨(show (0 : Int) ≤ 0 by decide), (show (0 : Int) ≤ 9999999999999 by decide)⟩
set_option maxRecDepth 20000 in
set_option maxHeartbeats 4000000 in
theorem c_10_write {K : q_K} {B M C : q_S} {a : Nat} (hT : K a = (11, 0, 100)) (hR : RC M C) (hI : MI M) (hW : WR M) (hB : q_tb K (M 50 16)) {c s : Nat} (hc : 1 ≤ c) (hs : 6 ≤ s) {m f : Int} (hm : q_iI m) (hf : q_iI f) (hev : M 50 13 < 512) (hc3 : 3 ≤ c) (hs3 : 28 ≤ s) : q_E mX10_write 0 [some (q_R a), some (q_I m), some (q_I f), none, none, none] [] K B C c s (PB (writeF M m f) "java/lang/IndexOutOfBoundsException" "java/lang/IllegalStateException" "" K B) := by
  have h16 := rs_16 hW
  have hm1 := hm.1
  have hm2 := hm.2
  have hf1 := hf.1
  have hf2 := hf.2
  by_cases e0 : 0 ≤ m ∧ m < 3
  · by_cases e1 : 0 ≤ f ∧ f < 16
    · by_cases e2 : ¬ mlen (M 50 0) = 0
      · refine e_iload_n dX10_write_0 rfl ?_
        refine e_iconst dX10_write_1 ?_
        refine e_cS (as := [_, _]) dX10_write_2 k_X10_needIndex l_X10_99 s_X10_needIndex rfl rfl rfl rfl (Nat.le_of_ble_eq_true rfl) ⟨by decide, by decide⟩ (Nat.le_of_ble_eq_true rfl) (by decide) (c_nI1 hm ⟨by decide, by decide⟩ (by omega)) ?_
        refine e_iload_n dX10_write_5 rfl ?_
        refine e_bipush dX10_write_6 (by decide) ?_
        refine e_cS (as := [_, _]) dX10_write_8 k_X10_needIndex l_X10_99 s_X10_needIndex rfl rfl rfl rfl (Nat.le_of_ble_eq_true rfl) ⟨by decide, by decide⟩ (Nat.le_of_ble_eq_true rfl) (by decide) (c_nI1 hf ⟨by decide, by decide⟩ (by omega)) ?_
        refine e_aload_n dX10_write_11 rfl ?_
        refine c_getI (by decide) dX10_write_12 f_X10_54 (Or.inl rfl) hT ?_
        rw [rs_dcn hR]
        have g_12 := mlen_nn (M 50 0)
        refine e_if_ne (tgt := 28) dX10_write_15 (by decide) ⟨by omega, by omega⟩ (fun c_15 => ?_) (fun c_15 => ?_)
        · refine e_aload_n dX10_write_28 rfl ?_
          refine c_getR (kt := (36, 3, 102)) (by decide) (Or.inl (by decide)) dX10_write_29 f_X10_15 hT rfl (Nat.succ_ne_zero _) (fun q_29 h_29 => ?_)
          refine e_iload_n dX10_write_32 rfl ?_
          refine c_aald (ci := 6) (kt := (7, 0, (110 + m))) (by decide) (Or.inl (by decide)) dX10_write_33 h_29 (by decide) (by omega) (by omega) (kl_m ⟨by omega, by omega⟩) (Nat.succ_ne_zero _) (fun q_33 h_33 => ?_)
          refine c_getR (kt := (31, 16, (140 + m))) (by omega) (Or.inl (by omega)) dX10_write_34 f_X10_105 h_33 (kl_c ⟨by omega, by omega⟩) (Nat.succ_ne_zero _) (fun q_34 h_34 => ?_)
          refine e_iload_n dX10_write_37 rfl ?_
          refine c_aald (ci := 1) (kt := (2, 0, (200 + (16 * m + f)))) (by omega) (Or.inl (by omega)) dX10_write_38 h_34 (by decide) (by omega) (by omega) (kl_p ⟨by omega, by omega⟩ ⟨by omega, by omega⟩) (Nat.succ_ne_zero _) (fun q_38 h_38 => ?_)
          refine e_astore_n (ls2 := [_, _, _, _, _, _]) dX10_write_39 (Nat.le_of_ble_eq_true rfl) rfl ?_
          refine e_aload_n dX10_write_40 rfl ?_
          refine c_getI (by omega) dX10_write_41 f_X10_109 (Or.inl rfl) h_38 ?_
          rw [rp_0 hR (p := (16 * m + f)) ⟨by omega, by omega⟩]
          have g_41 : 0 ≤ M 2 (16 * m + f) ∧ M 2 (16 * m + f) ≤ 2 := hW 2 (16 * m + f)
          refine e_if_ne (tgt := 53) dX10_write_44 (by decide) ⟨by omega, by omega⟩ (fun c_44 => ?_) (fun c_44 => ?_)
          · refine e_aload_n dX10_write_53 rfl ?_
            refine c_getI (by omega) dX10_write_54 f_X10_114 (Or.inl rfl) h_38 ?_
            rw [rp_1 hR (p := (16 * m + f)) ⟨by omega, by omega⟩]
            have g_54 := cfo_rg hW (16 * m + f)
            refine e_istore (ls2 := [_, _, _, _, _, _]) dX10_write_57 (Nat.le_of_ble_eq_true rfl) rfl ?_
            refine e_aload_n dX10_write_59 rfl ?_
            refine c_getI (by decide) dX10_write_60 f_X10_54 (Or.inl rfl) hT ?_
            rw [rs_dcn hR]
            have g_60 := mlen_nn (M 50 0)
            refine e_istore (ls2 := [_, _, _, _, _, _]) dX10_write_63 (Nat.le_of_ble_eq_true rfl) rfl ?_
            refine e_aload_n dX10_write_65 rfl ?_
            refine e_iload dX10_write_66 rfl ?_
            have oT := hT
            have o3 := h_38
            have hR0 := hR
            refine e_new (t := 900) (c2 := 2) (s2 := 24) (by decide) (tb_fre hB (by decide) (by decide)) (Or.inl (by decide)) dX10_write_68 n_X10_73 (by omega) (by have e9 : q_sz 0 = 4 := rfl; omega) (fun n_68 z_68 y_68 => ?_)
            replace hT := uk_k (k := (1, 0, 900)) y_68 hT (Nat.succ_ne_zero _)
            replace h_38 := uk_k (k := (1, 0, 900)) y_68 h_38 (Nat.succ_ne_zero _)
            have h_68 : q_uk K n_68 (1, 0, 900) n_68 = (1, 0, 900) := uk_p
            replace hR := rc_zt (t := 900) hR h16 ⟨by decide, by decide⟩
            refine e_dup dX10_write_71 rfl ?_
            refine e_aload_n dX10_write_72 rfl ?_
            refine c_getR (kt := (20, 12, 101)) (by decide) (Or.inl (by decide)) dX10_write_73 f_X10_9 hT rfl (Nat.succ_ne_zero _) (fun q_73 h_73 => ?_)
            refine e_iload dX10_write_76 rfl ?_
            refine e_callI (as := [_, _]) (c1 := 2) (s1 := 24) (c2 := 0) (s2 := 0) dX10_write_78 k_X0_init rfl rfl (Or.inl l_X10_75) i_X0_init h_68 (Nat.succ_ne_zero _) rfl rfl rfl rfl (Nat.le_of_ble_eq_true rfl) ⟨by decide, by decide⟩ (by omega) (by omega) (Nat.le_of_ble_eq_true rfl) (by decide) (c_0_init h_68 h_73 (fre_uk (tb_fre hB (by decide) (by decide)) (by decide)) (fre_uk (tb_fre hB (by decide) (by decide)) (by decide)) hI.1 (fun i a b => (rc_D hR).2 i a b)) (fun o K2 M2 C2 h => ?_) (fun E K2 M2 C2 h => by
              obtain ⟨_, _, _, _, h1, _⟩ := h
              cases h1)
            obtain ⟨a1, b1, ya, yb, ho, hK2, hM2, hC2⟩ := h
            cases ho
            subst hK2 hM2 hC2
            have cok := cfC_ok (rc_C hR0) hI.1
            obtain ⟨xt, tb, kq, qa, qb, ab⟩ := xt_3 y_68 ya yb hB (t := (1000000 + 3 * M 50 0)) (by have := hI.1.1; omega)
            refine e_fin3 (q := n_68) (a := a1) (b := b1) (t := (1000000 + 3 * M 50 0)) (by rw [uk_n qb, uk_n qa, uk_p]) (by rw [uk_n ab, uk_p]) uk_p (by have := hI.1.1; omega) (by omega) cok.1 cok.2.1 cok.2.2.1 ⟨by rw [cok.2.2.2.1]; decide, by rw [cok.2.2.2.2]; decide⟩ ?_
            replace hT := xt_get xt oT (Nat.succ_ne_zero _)
            replace h_38 := xt_get xt o3 (Nat.succ_ne_zero _)
            have hp9 : 0 ≤ (16 * m + f) ∧ (16 * m + f) < 48 := by omega
            have g4 : 0 ≤ M 4 (16 * m + f) ∧ M 4 (16 * m + f) ≤ 3 := hW 4 _
            have hf9 : 0 ≤ (cfo M (16 * m + f)) ∧ (cfo M (16 * m + f)) ≤ 3 := by first | omega | (unfold cfo; rw [if_neg c_44]; exact g4)
            have wa := wrA_ok (C9 := (cfC (q_zt C 900) (M 50 0))) hR0 hW hI hp9 hf9 e2 (fun t j x => by rw [cfC_o x, q_zt_ap, if_neg (by omega)])
            refine e_cV (as := [_, _]) (ci := 1) dX10_write_81 k_X1_put l_X10_117 i_X1_put v_X1_put h_38 rfl (by decide) ⟨_, _, rfl⟩ rfl rfl rfl rfl (Nat.le_of_ble_eq_true rfl) ⟨by decide, by decide⟩ (Nat.le_of_ble_eq_true rfl) (by decide) (c_1_put h_38 hp9 kq hI.1.1 ⟨by omega, by omega⟩) ?_
            refine e_aload_n dX10_write_84 rfl ?_
            refine e_iconst dX10_write_85 ?_
            refine c_putI (by decide) dX10_write_86 f_X10_54 rfl hT (by decide) ⟨by omega, by omega⟩ ?_
            refine e_aload_n dX10_write_89 rfl ?_
            refine e_iload_n dX10_write_90 rfl ?_
            refine e_iload_n dX10_write_91 rfl ?_
            refine e_cV (as := [_, _]) (ci := 10) dX10_write_92 k_X10_sendEvent l_X10_121 i_X10_sendEvent v_X10_sendEvent hT rfl (by decide) ⟨_, _, rfl⟩ rfl rfl rfl rfl (Nat.le_of_ble_eq_true rfl) ⟨by decide, by decide⟩ (Nat.le_of_ble_eq_true rfl) (by decide) (c_10_sendEvent hT wa.1 wa.2.1 wa.2.2 ⟨by omega, by omega⟩ ⟨by omega, by omega⟩ hev) ?_
            refine e_iload dX10_write_95 rfl ?_
            exact e_iret dX10_write_97 (Or.inl rfl) (pbm1 (X := editsF (q_us (wrA M (16 * m + f) (cfo M (16 * m + f))) 50 0 0) (16 * m + f)) (by unfold writeF; rw [if_neg (fun g => g (show inMF m f from ⟨⟨by omega, by omega⟩, by omega, by omega⟩)), if_neg (fun g => e2 (by rw [g]; exact mlen_0))]; first | rw [if_pos c_44] | rw [if_neg c_44, show cfo M (16 * m + f) = M 4 (16 * m + f) from by unfold cfo; rw [if_neg c_44]]) xt (by rw [editsF_s (by decide) (by decide)]; exact tb) (by rw [editsF_s (by decide) (by decide)]; rfl) (rc_edits wa.1 wa.2.2 wa.2.1 ⟨by omega, by omega⟩ ⟨by omega, by omega⟩))
          · refine e_iload_n dX10_write_47 rfl ?_
            refine e_iconst dX10_write_48 ?_
            refine e_irem dX10_write_49 ⟨by omega, by omega⟩ ⟨by omega, by omega⟩ ?_
            refine e_goto (tgt := 57) dX10_write_50 (by decide) ?_
            refine e_istore (ls2 := [_, _, _, _, _, _]) dX10_write_57 (Nat.le_of_ble_eq_true rfl) rfl ?_
            refine e_aload_n dX10_write_59 rfl ?_
            refine c_getI (by decide) dX10_write_60 f_X10_54 (Or.inl rfl) hT ?_
            rw [rs_dcn hR]
            have g_60 := mlen_nn (M 50 0)
            refine e_istore (ls2 := [_, _, _, _, _, _]) dX10_write_63 (Nat.le_of_ble_eq_true rfl) rfl ?_
            refine e_aload_n dX10_write_65 rfl ?_
            refine e_iload dX10_write_66 rfl ?_
            have oT := hT
            have o3 := h_38
            have hR0 := hR
            refine e_new (t := 900) (c2 := 2) (s2 := 24) (by decide) (tb_fre hB (by decide) (by decide)) (Or.inl (by decide)) dX10_write_68 n_X10_73 (by omega) (by have e9 : q_sz 0 = 4 := rfl; omega) (fun n_68 z_68 y_68 => ?_)
            replace hT := uk_k (k := (1, 0, 900)) y_68 hT (Nat.succ_ne_zero _)
            replace h_38 := uk_k (k := (1, 0, 900)) y_68 h_38 (Nat.succ_ne_zero _)
            have h_68 : q_uk K n_68 (1, 0, 900) n_68 = (1, 0, 900) := uk_p
            replace hR := rc_zt (t := 900) hR h16 ⟨by decide, by decide⟩
            refine e_dup dX10_write_71 rfl ?_
            refine e_aload_n dX10_write_72 rfl ?_
            refine c_getR (kt := (20, 12, 101)) (by decide) (Or.inl (by decide)) dX10_write_73 f_X10_9 hT rfl (Nat.succ_ne_zero _) (fun q_73 h_73 => ?_)
            refine e_iload dX10_write_76 rfl ?_
            refine e_callI (as := [_, _]) (c1 := 2) (s1 := 24) (c2 := 0) (s2 := 0) dX10_write_78 k_X0_init rfl rfl (Or.inl l_X10_75) i_X0_init h_68 (Nat.succ_ne_zero _) rfl rfl rfl rfl (Nat.le_of_ble_eq_true rfl) ⟨by decide, by decide⟩ (by omega) (by omega) (Nat.le_of_ble_eq_true rfl) (by decide) (c_0_init h_68 h_73 (fre_uk (tb_fre hB (by decide) (by decide)) (by decide)) (fre_uk (tb_fre hB (by decide) (by decide)) (by decide)) hI.1 (fun i a b => (rc_D hR).2 i a b)) (fun o K2 M2 C2 h => ?_) (fun E K2 M2 C2 h => by
              obtain ⟨_, _, _, _, h1, _⟩ := h
              cases h1)
            obtain ⟨a1, b1, ya, yb, ho, hK2, hM2, hC2⟩ := h
            cases ho
            subst hK2 hM2 hC2
            have cok := cfC_ok (rc_C hR0) hI.1
            obtain ⟨xt, tb, kq, qa, qb, ab⟩ := xt_3 y_68 ya yb hB (t := (1000000 + 3 * M 50 0)) (by have := hI.1.1; omega)
            refine e_fin3 (q := n_68) (a := a1) (b := b1) (t := (1000000 + 3 * M 50 0)) (by rw [uk_n qb, uk_n qa, uk_p]) (by rw [uk_n ab, uk_p]) uk_p (by have := hI.1.1; omega) (by omega) cok.1 cok.2.1 cok.2.2.1 ⟨by rw [cok.2.2.2.1]; decide, by rw [cok.2.2.2.2]; decide⟩ ?_
            replace hT := xt_get xt oT (Nat.succ_ne_zero _)
            replace h_38 := xt_get xt o3 (Nat.succ_ne_zero _)
            have hp9 : 0 ≤ (16 * m + f) ∧ (16 * m + f) < 48 := by omega
            have g4 : 0 ≤ M 4 (16 * m + f) ∧ M 4 (16 * m + f) ≤ 3 := hW 4 _
            have hf9 : 0 ≤ (f % 4) ∧ (f % 4) ≤ 3 := by first | omega | (unfold cfo; rw [if_neg c_44]; exact g4)
            have wa := wrA_ok (C9 := (cfC (q_zt C 900) (M 50 0))) hR0 hW hI hp9 hf9 e2 (fun t j x => by rw [cfC_o x, q_zt_ap, if_neg (by omega)])
            refine e_cV (as := [_, _]) (ci := 1) dX10_write_81 k_X1_put l_X10_117 i_X1_put v_X1_put h_38 rfl (by decide) ⟨_, _, rfl⟩ rfl rfl rfl rfl (Nat.le_of_ble_eq_true rfl) ⟨by decide, by decide⟩ (Nat.le_of_ble_eq_true rfl) (by decide) (c_1_put h_38 hp9 kq hI.1.1 ⟨by omega, by omega⟩) ?_
            refine e_aload_n dX10_write_84 rfl ?_
            refine e_iconst dX10_write_85 ?_
            refine c_putI (by decide) dX10_write_86 f_X10_54 rfl hT (by decide) ⟨by omega, by omega⟩ ?_
            refine e_aload_n dX10_write_89 rfl ?_
            refine e_iload_n dX10_write_90 rfl ?_
            refine e_iload_n dX10_write_91 rfl ?_
            refine e_cV (as := [_, _]) (ci := 10) dX10_write_92 k_X10_sendEvent l_X10_121 i_X10_sendEvent v_X10_sendEvent hT rfl (by decide) ⟨_, _, rfl⟩ rfl rfl rfl rfl (Nat.le_of_ble_eq_true rfl) ⟨by decide, by decide⟩ (Nat.le_of_ble_eq_true rfl) (by decide) (c_10_sendEvent hT wa.1 wa.2.1 wa.2.2 ⟨by omega, by omega⟩ ⟨by omega, by omega⟩ hev) ?_
            refine e_iload dX10_write_95 rfl ?_
            exact e_iret dX10_write_97 (Or.inl rfl) (pbm1 (X := editsF (q_us (wrA M (16 * m + f) (f % 4)) 50 0 0) (16 * m + f)) (by unfold writeF; rw [if_neg (fun g => g (show inMF m f from ⟨⟨by omega, by omega⟩, by omega, by omega⟩)), if_neg (fun g => e2 (by rw [g]; exact mlen_0))]; first | rw [if_pos c_44] | rw [if_neg c_44, show cfo M (16 * m + f) = M 4 (16 * m + f) from by unfold cfo; rw [if_neg c_44]]) xt (by rw [editsF_s (by decide) (by decide)]; exact tb) (by rw [editsF_s (by decide) (by decide)]; rfl) (rc_edits wa.1 wa.2.2 wa.2.1 ⟨by omega, by omega⟩ ⟨by omega, by omega⟩))
        · exfalso; omega
      · refine e_iload_n dX10_write_0 rfl ?_
        refine e_iconst dX10_write_1 ?_
        refine e_cS (as := [_, _]) dX10_write_2 k_X10_needIndex l_X10_99 s_X10_needIndex rfl rfl rfl rfl (Nat.le_of_ble_eq_true rfl) ⟨by decide, by decide⟩ (Nat.le_of_ble_eq_true rfl) (by decide) (c_nI1 hm ⟨by decide, by decide⟩ (by omega)) ?_
        refine e_iload_n dX10_write_5 rfl ?_
        refine e_bipush dX10_write_6 (by decide) ?_
        refine e_cS (as := [_, _]) dX10_write_8 k_X10_needIndex l_X10_99 s_X10_needIndex rfl rfl rfl rfl (Nat.le_of_ble_eq_true rfl) ⟨by decide, by decide⟩ (Nat.le_of_ble_eq_true rfl) (by decide) (c_nI1 hf ⟨by decide, by decide⟩ (by omega)) ?_
        refine e_aload_n dX10_write_11 rfl ?_
        refine c_getI (by decide) dX10_write_12 f_X10_54 (Or.inl rfl) hT ?_
        rw [rs_dcn hR]
        have g_12 := mlen_nn (M 50 0)
        refine e_if_ne (tgt := 28) dX10_write_15 (by decide) ⟨by omega, by omega⟩ (fun c_15 => ?_) (fun c_15 => ?_)
        · exfalso; omega
        · exact e_thrS dX10_write_18 dX10_write_21 dX10_write_22 dX10_write_24 dX10_write_27 x_sta y_nodr rfl (Nat.le_of_ble_eq_true rfl) ⟨by decide, by decide⟩ hc hs (pbq2 hB hR (by unfold writeF; rw [if_neg (fun g => g (show inMF m f from ⟨⟨by omega, by omega⟩, by omega, by omega⟩)), if_pos ((vcode_z hI.1).mp (by omega))]))
    · refine e_iload_n dX10_write_0 rfl ?_
      refine e_iconst dX10_write_1 ?_
      refine e_cS (as := [_, _]) dX10_write_2 k_X10_needIndex l_X10_99 s_X10_needIndex rfl rfl rfl rfl (Nat.le_of_ble_eq_true rfl) ⟨by decide, by decide⟩ (Nat.le_of_ble_eq_true rfl) (by decide) (c_nI1 hm ⟨by decide, by decide⟩ (by omega)) ?_
      refine e_iload_n dX10_write_5 rfl ?_
      refine e_bipush dX10_write_6 (by decide) ?_
      exact e_cST (as := [_, _]) dX10_write_8 k_X10_needIndex l_X10_99 s_X10_needIndex rfl rfl rfl rfl (Nat.le_of_ble_eq_true rfl) ⟨by decide, by decide⟩ (Nat.le_of_ble_eq_true rfl) (by decide) (c_nI0 hf ⟨by decide, by decide⟩ hc hs (by omega)) (pbq1 hB hR (by unfold writeF; rw [if_pos (show ¬ inMF m f from fun h => by have h1 := h.1; have h2 := h.2; omega)]))
  · refine e_iload_n dX10_write_0 rfl ?_
    refine e_iconst dX10_write_1 ?_
    exact e_cST (as := [_, _]) dX10_write_2 k_X10_needIndex l_X10_99 s_X10_needIndex rfl rfl rfl rfl (Nat.le_of_ble_eq_true rfl) ⟨by decide, by decide⟩ (Nat.le_of_ble_eq_true rfl) (by decide) (c_nI0 hm ⟨by decide, by decide⟩ hc hs (by omega)) (pbq1 hB hR (by unfold writeF; rw [if_pos (show ¬ inMF m f from fun h => by have h1 := h.1; have h2 := h.2; omega)]))
