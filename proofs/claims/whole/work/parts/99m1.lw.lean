set_option maxRecDepth 20000 in
set_option maxHeartbeats 4000000 in
theorem w_pin {K : q_K} {B M C : q_S} {a b : Nat} {k : Int} (hT : K a = (11, 0, 100)) (hb : K b = (21, 1, 280)) (hR : RC M C) (h : OKC M k) (hk : 0 ≤ k ∧ k < 512) (hB : q_tb K (M 50 16)) {c s : Nat} (hc : 16 ≤ c) (hs : 96 ≤ s) {p0 p1 p2 : Int} (hp0 : q_iI p0) (hp1 : q_iI p1) (hp2 : q_iI p2) (hb2 : p2 = 0 ∨ p2 = 1) : q_E mL_pin 0 [some (q_R a), some (q_I p0), some (q_I p1), some (q_I p2), some (q_R b), none] [] K B C c s (WL (pinF M p0 p1 p2) K B) := by
  have nb := nb_10 h.1.2.2.2.2 hk.2
  have oc := okc_pin h hk p0 p1 hb2
  refine e_aload dL_pin_0 rfl ?_
  refine e_iconst dL_pin_2 ?_
  refine e_aload_n dL_pin_3 rfl ?_
  refine e_iload_n dL_pin_4 rfl ?_
  refine e_iload_n dL_pin_5 rfl ?_
  refine e_iload_n dL_pin_6 rfl ?_
  refine e_callVH (ci := 10) (as := [_, _, _]) (c1 := c) (s1 := s) (c2 := 0) (s2 := 0) dL_pin_7 k_X10_pin l_L_42 i_X10_pin v_X10_pin hT (by decide) (by decide) ⟨_, _, rfl⟩ rfl rfl rfl rfl (Nat.le_of_ble_eq_true rfl) ⟨by decide, by decide⟩ (by omega) (by omega) (Nat.le_of_ble_eq_true rfl) (by decide) (c_10_pin hT hR h.1.2.2.1 h.1.1 hB (c := c) (s := s) (by omega) (by omega) hp0 hp1 hp2 hb2) (fun o K2 M2 C2 g => ?_) (fun E K2 M2 C2 g => ?_)
  · obtain ⟨⟨g1, g2⟩, g3, g4, g5⟩ := g
    have g6 : (pinF M p0 p1 p2).2 50 41 = 0 ∧ o = some (q_I (pinF M p0 p1 p2).1) := by
      rcases g5 with g5 | g5 | g5 | g5
      · exact ⟨g5.1, Sum.inl.inj g5.2⟩
      · exact absurd g5.2 (by intro z; cases z)
      · exact absurd g5.2 (by intro z; cases z)
      · exact absurd g5.2 (by intro z; cases z)
    obtain ⟨g7, rfl⟩ := g6
    subst g3
    have hb9 := xt_get g1 hb (by decide)
    have ob := bo_pin M p0 p1 p2
    rcases ob with g8 | g8
    · rw [g8]
      refine e_if_eq (tgt := 17) dL_pin_10 (by decide) ⟨by decide, by decide⟩ (fun _ => ?_) (fun y => absurd rfl y)
      refine e_lconst dL_pin_17 rfl ?_
      refine c_last (by decide) dL_pin_18 hb9 (by decide) (by decide) (by decide) ⟨by decide, by decide⟩ ?_
      refine e_goto (tgt := 26) dL_pin_19 (by decide) ?_
      refine e_iconst dL_pin_26 ?_
      exact e_iret dL_pin_27 (Or.inl rfl) ⟨⟨g1, g2⟩, rfl, rc_280 g4 (rs_16 oc.1.1.1) (fun t j y => us_ne y), by rw [g7], fun _ => us_eq.trans g8.symm⟩
    · rw [g8]
      refine e_if_eq (tgt := 17) dL_pin_10 (by decide) ⟨by decide, by decide⟩ (fun y => absurd y (by decide)) (fun _ => ?_)
      refine e_lconst dL_pin_13 rfl ?_
      refine e_goto (tgt := 18) dL_pin_14 (by decide) ?_
      refine c_last (by decide) dL_pin_18 hb9 (by decide) (by decide) (by decide) ⟨by decide, by decide⟩ ?_
      refine e_goto (tgt := 26) dL_pin_19 (by decide) ?_
      refine e_iconst dL_pin_26 ?_
      exact e_iret dL_pin_27 (Or.inl rfl) ⟨⟨g1, g2⟩, rfl, rc_280 g4 (rs_16 oc.1.1.1) (fun t j y => us_ne y), by rw [g7], fun _ => us_eq.trans g8.symm⟩
  · obtain ⟨⟨g1, g2⟩, g3, g4, g5⟩ := g
    subst g3
    rcases g5 with g5 | g5 | g5 | g5
    · exact absurd g5.2 (by intro z; cases z)
    · obtain ⟨g6, g7⟩ := g5
      obtain rfl := Sum.inr.inj g7
      refine ⟨22, 5, 2, ⟨[], ⟨0, 19, 22, 21⟩, [], rfl, (fun z hz => by cases hz), by decide, by decide, cl_21, by decide, rfl⟩, ⟨by decide, Or.inr ⟨dL_pin_22, rfl⟩⟩, ?_⟩
      refine e_iconst dL_pin_24 ?_
      exact e_iret dL_pin_25 (Or.inl rfl) ⟨⟨g1, g2⟩, rfl, g4, by rw [g6], fun z => by rw [g6] at z; exact absurd z (by decide)⟩
    · obtain ⟨g6, g7⟩ := g5
      have t9 := t41_pin M p0 p1 p2
      omega
    · obtain ⟨g6, g7⟩ := g5
      have t9 := t41_pin M p0 p1 p2
      omega
set_option maxRecDepth 20000 in
set_option maxHeartbeats 4000000 in
theorem w_isChanged {K : q_K} {B M C : q_S} {a b : Nat} {k : Int} (hT : K a = (11, 0, 100)) (hb : K b = (21, 1, 280)) (hR : RC M C) (h : OKC M k) (hk : 0 ≤ k ∧ k < 512) (hB : q_tb K (M 50 16)) {c s : Nat} (hc : 16 ≤ c) (hs : 96 ≤ s) {p0 p1 : Int} (hp0 : q_iI p0) (hp1 : q_iI p1) : q_E mL_isChanged 0 [some (q_R a), some (q_I p0), some (q_I p1), some (q_R b), none] [] K B C c s (WL (isChangedF M p0 p1) K B) := by
  have nb := nb_10 h.1.2.2.2.2 hk.2
  have oc := okc_isChanged h p0 p1
  refine e_aload_n dL_isChanged_0 rfl ?_
  refine e_iconst dL_isChanged_1 ?_
  refine e_aload_n dL_isChanged_2 rfl ?_
  refine e_iload_n dL_isChanged_3 rfl ?_
  refine e_iload_n dL_isChanged_4 rfl ?_
  refine e_callVH (ci := 10) (as := [_, _]) (c1 := c) (s1 := s) (c2 := 0) (s2 := 0) dL_isChanged_5 k_X10_isChanged l_L_92 i_X10_isChanged v_X10_isChanged hT (by decide) (by decide) ⟨_, _, rfl⟩ rfl rfl rfl rfl (Nat.le_of_ble_eq_true rfl) ⟨by decide, by decide⟩ (by omega) (by omega) (Nat.le_of_ble_eq_true rfl) (by decide) (c_10_isChanged hT hR h.1.2.2.1 h.1.1 hB (c := c) (s := s) (by omega) (by omega) hp0 hp1 ) (fun o K2 M2 C2 g => ?_) (fun E K2 M2 C2 g => ?_)
  · obtain ⟨⟨g1, g2⟩, g3, g4, g5⟩ := g
    have g6 : (isChangedF M p0 p1).2 50 41 = 0 ∧ o = some (q_I (isChangedF M p0 p1).1) := by
      rcases g5 with g5 | g5 | g5 | g5
      · exact ⟨g5.1, Sum.inl.inj g5.2⟩
      · exact absurd g5.2 (by intro z; cases z)
      · exact absurd g5.2 (by intro z; cases z)
      · exact absurd g5.2 (by intro z; cases z)
    obtain ⟨g7, rfl⟩ := g6
    subst g3
    have hb9 := xt_get g1 hb (by decide)
    have ob := bo_isChanged M p0 p1
    rcases ob with g8 | g8
    · rw [g8]
      refine e_if_eq (tgt := 15) dL_isChanged_8 (by decide) ⟨by decide, by decide⟩ (fun _ => ?_) (fun y => absurd rfl y)
      refine e_lconst dL_isChanged_15 rfl ?_
      refine c_last (by decide) dL_isChanged_16 hb9 (by decide) (by decide) (by decide) ⟨by decide, by decide⟩ ?_
      refine e_goto (tgt := 24) dL_isChanged_17 (by decide) ?_
      refine e_iconst dL_isChanged_24 ?_
      exact e_iret dL_isChanged_25 (Or.inl rfl) ⟨⟨g1, g2⟩, rfl, rc_280 g4 (rs_16 oc.1.1.1) (fun t j y => us_ne y), by rw [g7], fun _ => us_eq.trans g8.symm⟩
    · rw [g8]
      refine e_if_eq (tgt := 15) dL_isChanged_8 (by decide) ⟨by decide, by decide⟩ (fun y => absurd y (by decide)) (fun _ => ?_)
      refine e_lconst dL_isChanged_11 rfl ?_
      refine e_goto (tgt := 16) dL_isChanged_12 (by decide) ?_
      refine c_last (by decide) dL_isChanged_16 hb9 (by decide) (by decide) (by decide) ⟨by decide, by decide⟩ ?_
      refine e_goto (tgt := 24) dL_isChanged_17 (by decide) ?_
      refine e_iconst dL_isChanged_24 ?_
      exact e_iret dL_isChanged_25 (Or.inl rfl) ⟨⟨g1, g2⟩, rfl, rc_280 g4 (rs_16 oc.1.1.1) (fun t j y => us_ne y), by rw [g7], fun _ => us_eq.trans g8.symm⟩
  · obtain ⟨⟨g1, g2⟩, g3, g4, g5⟩ := g
    subst g3
    rcases g5 with g5 | g5 | g5 | g5
    · exact absurd g5.2 (by intro z; cases z)
    · obtain ⟨g6, g7⟩ := g5
      obtain rfl := Sum.inr.inj g7
      refine ⟨20, 4, 2, ⟨[], ⟨0, 17, 20, 21⟩, [], rfl, (fun z hz => by cases hz), by decide, by decide, cl_21, by decide, rfl⟩, ⟨by decide, Or.inr ⟨dL_isChanged_20, rfl⟩⟩, ?_⟩
      refine e_iconst dL_isChanged_22 ?_
      exact e_iret dL_isChanged_23 (Or.inl rfl) ⟨⟨g1, g2⟩, rfl, g4, by rw [g6], fun z => by rw [g6] at z; exact absurd z (by decide)⟩
    · obtain ⟨g6, g7⟩ := g5
      have t9 := t41_isChanged M p0 p1
      omega
    · obtain ⟨g6, g7⟩ := g5
      have t9 := t41_isChanged M p0 p1
      omega
