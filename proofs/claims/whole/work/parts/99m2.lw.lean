set_option maxRecDepth 20000 in
set_option maxHeartbeats 4000000 in
theorem w_share {K : q_K} {B M C : q_S} {a b : Nat} {k : Int} (hT : K a = (11, 0, 100)) (hb : K b = (21, 1, 280)) (hR : RC M C) (h : OKC M k) (hk : 0 ≤ k ∧ k < 512) (hB : q_tb K (M 50 16)) {c s : Nat} (hc : 16 ≤ c) (hs : 96 ≤ s) {p0 p1 p2 p3 : Int} (hp0 : q_iI p0) (hp1 : q_iI p1) (hp2 : q_iI p2) (hp3 : q_iI p3) : q_E mL_share 0 [some (q_R a), some (q_I p0), some (q_I p1), some (q_I p2), some (q_I p3), none] [] K B C c s (WLv (shareF M p0 p1 p2 p3) K B) := by
  have nb := nb_10 h.1.2.2.2.2 hk.2
  have oc := okc_share h p0 p1 p2 p3
  refine e_aload_n dL_share_0 rfl ?_
  refine e_iload_n dL_share_1 rfl ?_
  refine e_iload_n dL_share_2 rfl ?_
  refine e_iload_n dL_share_3 rfl ?_
  refine e_iload dL_share_4 rfl ?_
  refine e_callVH (ci := 10) (as := [_, _, _, _]) (c1 := c) (s1 := s) (c2 := 0) (s2 := 0) dL_share_6 k_X10_share l_L_61 i_X10_share v_X10_share hT (by decide) (by decide) ⟨_, _, rfl⟩ rfl rfl rfl rfl (Nat.le_of_ble_eq_true rfl) ⟨by decide, by decide⟩ (by omega) (by omega) (Nat.le_of_ble_eq_true rfl) (by decide) (c_10_share hT hR h.1.2.2.1 h.1.1 hB (c := c) (s := s) (by omega) (by omega) hp0 hp1 hp2 hp3 ) (fun o K2 M2 C2 g => ?_) (fun E K2 M2 C2 g => ?_)
  · obtain ⟨⟨g1, g2⟩, g3, g4, g5⟩ := g
    have g6 : (shareF M p0 p1 p2 p3) 50 41 = 0 ∧ o = none := by
      rcases g5 with g5 | g5 | g5 | g5
      · exact ⟨g5.1, Sum.inl.inj g5.2⟩
      · exact absurd g5.2 (by intro z; cases z)
      · exact absurd g5.2 (by intro z; cases z)
      · exact absurd g5.2 (by intro z; cases z)
    obtain ⟨g7, rfl⟩ := g6
    subst g3
    refine e_goto (tgt := 20) dL_share_9 (by decide) ?_
    refine e_iconst dL_share_20 ?_
    exact e_iret dL_share_21 (Or.inl rfl) ⟨⟨g1, g2⟩, rfl, g4, by rw [g7]⟩
  · obtain ⟨⟨g1, g2⟩, g3, g4, g5⟩ := g
    subst g3
    rcases g5 with g5 | g5 | g5 | g5
    · exact absurd g5.2 (by intro z; cases z)
    · obtain ⟨g6, g7⟩ := g5
      obtain rfl := Sum.inr.inj g7
      refine ⟨12, 5, 2, ⟨[], ⟨0, 9, 12, 21⟩, [⟨0, 9, 16, 13⟩], rfl, (fun z hz => by cases hz), by decide, by decide, cl_21, by decide, rfl⟩, ⟨by decide, Or.inr ⟨dL_share_12, rfl⟩⟩, ?_⟩
      refine e_iconst dL_share_14 ?_
      exact e_iret dL_share_15 (Or.inl rfl) ⟨⟨g1, g2⟩, rfl, g4, by rw [g6]⟩
    · obtain ⟨g6, g7⟩ := g5
      obtain rfl := Sum.inr.inj g7
      refine ⟨16, 5, 2, ⟨[⟨0, 9, 12, 21⟩], ⟨0, 9, 16, 13⟩, [], rfl, (fun z hz => Or.inr (by
          rcases List.mem_singleton.mp hz with rfl
          exact ⟨by decide, _, cl_21, by decide, by decide⟩)), by decide, by decide, cl_13, by decide, rfl⟩, ⟨by decide, Or.inr ⟨dL_share_16, rfl⟩⟩, ?_⟩
      refine e_iconst dL_share_18 ?_
      exact e_iret dL_share_19 (Or.inl rfl) ⟨⟨g1, g2⟩, rfl, g4, by rw [g6]⟩
    · obtain ⟨g6, g7⟩ := g5
      have t9 := t41_share M p0 p1 p2 p3
      omega
