set_option maxRecDepth 20000 in
set_option maxHeartbeats 4000000 in
theorem w_draft {K : q_K} {M C : q_S} {a b : Nat} {k : Int} (hT : K a = (11, 0, 100)) (hb : K b = (21, 1, 280)) (hR : RC M C) (h : OKC M k) (hk : 0 ≤ k ∧ k < 512) (hB : q_tb K (M 50 16)) {c s : Nat} (hc : 16 ≤ c) (hs : 96 ≤ s) {p0 : Int} (hp0 : q_iI p0) : q_E mL_draft 0 [some (q_R a), some (q_I p0), some (q_R b), none] [] K M C c s (WL (draftF M p0) K M) := by
  have nb := nb_10 h.1.2.2.2.2 hk.2
  have oc := okc_draft h hk p0
  refine e_aload_n dL_draft_0 rfl ?_
  refine e_iconst dL_draft_1 ?_
  refine e_aload_n dL_draft_2 rfl ?_
  refine e_iload_n dL_draft_3 rfl ?_
  refine e_callVH (ci := 10) (as := [_]) (c1 := c) (s1 := s) (c2 := 0) (s2 := 0) dL_draft_4 k_X10_draft l_L_7 i_X10_draft v_X10_draft hT (by decide) (by decide) ⟨_, _, rfl⟩ rfl rfl rfl rfl (Nat.le_of_ble_eq_true rfl) ⟨by decide, by decide⟩ (by omega) (by omega) (Nat.le_of_ble_eq_true rfl) (by decide) (c_10_draft hT hR h.1.2.2.1 h.1.1 hB (c := c) (s := s) (by omega) (by omega) hp0 ) (fun o K2 M2 C2 g => ?_) (fun E K2 M2 C2 g => ?_)
  · obtain ⟨⟨g1, g2⟩, g3, g4, g5⟩ := g
    have g6 : (draftF M p0).2 50 41 = 0 ∧ o = some (q_I (draftF M p0).1) := by
      rcases g5 with g5 | g5 | g5 | g5
      · exact ⟨g5.1, Sum.inl.inj g5.2⟩
      · exact absurd g5.2 (by intro z; cases z)
      · exact absurd g5.2 (by intro z; cases z)
      · exact absurd g5.2 (by intro z; cases z)
    obtain ⟨g7, rfl⟩ := g6
    subst g3
    have hb2 := xt_get g1 hb (by decide)
    refine e_i2l dL_draft_7 oc.2 ?_
    refine c_last (by decide) dL_draft_8 hb2 (by decide) (by decide) (by decide) ⟨by have := oc.2.1; omega, by have := oc.2.2; omega⟩ ?_
    refine e_goto (tgt := 18) dL_draft_9 (by decide) ?_
    refine e_iconst dL_draft_18 ?_
    exact e_iret dL_draft_19 (Or.inl rfl) ⟨⟨g1, g2⟩, rfl, rc_280 g4 (rs_16 oc.1.1.1) (fun t j y => us_ne y), by rw [g7], fun _ => us_eq⟩
  · obtain ⟨⟨g1, g2⟩, g3, g4, g5⟩ := g
    subst g3
    rcases g5 with g5 | g5 | g5 | g5
    · exact absurd g5.2 (by intro z; cases z)
    · obtain ⟨g6, g7⟩ := g5
      obtain rfl := Sum.inr.inj g7
      refine ⟨12, 3, 1, ⟨[], ⟨0, 9, 12, 13⟩, [⟨0, 9, 15, 15⟩], rfl, (fun z hz => by cases hz), by decide, by decide, cl_13, by decide, rfl⟩, ⟨by decide, Or.inl ⟨3, dL_draft_12, rfl, rfl⟩⟩, ?_⟩
      refine e_iconst dL_draft_13 ?_
      exact e_iret dL_draft_14 (Or.inl rfl) ⟨⟨g1, g2⟩, rfl, g4, by rw [g6], fun z => by rw [g6] at z; exact absurd z (by decide)⟩
    · obtain ⟨g6, g7⟩ := g5
      obtain rfl := Sum.inr.inj g7
      refine ⟨15, 3, 1, ⟨[⟨0, 9, 12, 13⟩], ⟨0, 9, 15, 15⟩, [], rfl, (fun z hz => Or.inr (by
          rcases List.mem_singleton.mp hz with rfl
          exact ⟨by decide, _, cl_13, by decide, by decide⟩)), by decide, by decide, cl_15, by decide, rfl⟩, ⟨by decide, Or.inl ⟨3, dL_draft_15, rfl, rfl⟩⟩, ?_⟩
      refine e_iconst dL_draft_16 ?_
      exact e_iret dL_draft_17 (Or.inl rfl) ⟨⟨g1, g2⟩, rfl, g4, by rw [g6], fun z => by rw [g6] at z; exact absurd z (by decide)⟩
    · obtain ⟨g6, g7⟩ := g5
      have t9 := t41_draft _ p0
      omega
set_option maxRecDepth 20000 in
set_option maxHeartbeats 4000000 in
theorem w_write {K : q_K} {M C : q_S} {a b : Nat} {k : Int} (hT : K a = (11, 0, 100)) (hb : K b = (21, 1, 280)) (hR : RC M C) (h : OKC M k) (hk : 0 ≤ k ∧ k < 512) (hB : q_tb K (M 50 16)) {c s : Nat} (hc : 16 ≤ c) (hs : 96 ≤ s) {p0 p1 : Int} (hp0 : q_iI p0) (hp1 : q_iI p1) : q_E mL_write 0 [some (q_R a), some (q_I p0), some (q_I p1), some (q_R b), none] [] K M C c s (WL (writeF M p0 p1) K M) := by
  have nb := nb_10 h.1.2.2.2.2 hk.2
  have oc := okc_write h hk p0 p1
  refine e_aload_n dL_write_0 rfl ?_
  refine e_iconst dL_write_1 ?_
  refine e_aload_n dL_write_2 rfl ?_
  refine e_iload_n dL_write_3 rfl ?_
  refine e_iload_n dL_write_4 rfl ?_
  refine e_callVH (ci := 10) (as := [_, _]) (c1 := c) (s1 := s) (c2 := 0) (s2 := 0) dL_write_5 k_X10_write l_L_17 i_X10_write v_X10_write hT (by decide) (by decide) ⟨_, _, rfl⟩ rfl rfl rfl rfl (Nat.le_of_ble_eq_true rfl) ⟨by decide, by decide⟩ (by omega) (by omega) (Nat.le_of_ble_eq_true rfl) (by decide) (c_10_write hT hR h.1.2.2.1 h.1.1 hB (c := c) (s := s) (by omega) (by omega) hp0 hp1 (by have := nb.2.1; omega) (by omega) (by omega)) (fun o K2 M2 C2 g => ?_) (fun E K2 M2 C2 g => ?_)
  · obtain ⟨⟨g1, g2⟩, g3, g4, g5⟩ := g
    have g6 : (writeF M p0 p1).2 50 41 = 0 ∧ o = some (q_I (writeF M p0 p1).1) := by
      rcases g5 with g5 | g5 | g5 | g5
      · exact ⟨g5.1, Sum.inl.inj g5.2⟩
      · exact absurd g5.2 (by intro z; cases z)
      · exact absurd g5.2 (by intro z; cases z)
      · exact absurd g5.2 (by intro z; cases z)
    obtain ⟨g7, rfl⟩ := g6
    subst g3
    have hb2 := xt_get g1 hb (by decide)
    refine e_i2l dL_write_8 oc.2 ?_
    refine c_last (by decide) dL_write_9 hb2 (by decide) (by decide) (by decide) ⟨by have := oc.2.1; omega, by have := oc.2.2; omega⟩ ?_
    refine e_goto (tgt := 21) dL_write_10 (by decide) ?_
    refine e_iconst dL_write_21 ?_
    exact e_iret dL_write_22 (Or.inl rfl) ⟨⟨g1, g2⟩, rfl, rc_280 g4 (rs_16 oc.1.1.1) (fun t j y => us_ne y), by rw [g7], fun _ => us_eq⟩
  · obtain ⟨⟨g1, g2⟩, g3, g4, g5⟩ := g
    subst g3
    rcases g5 with g5 | g5 | g5 | g5
    · exact absurd g5.2 (by intro z; cases z)
    · obtain ⟨g6, g7⟩ := g5
      obtain rfl := Sum.inr.inj g7
      refine ⟨13, 4, 2, ⟨[], ⟨0, 10, 13, 21⟩, [⟨0, 10, 17, 15⟩], rfl, (fun z hz => by cases hz), by decide, by decide, cl_21, by decide, rfl⟩, ⟨by decide, Or.inr ⟨dL_write_13, rfl⟩⟩, ?_⟩
      refine e_iconst dL_write_15 ?_
      exact e_iret dL_write_16 (Or.inl rfl) ⟨⟨g1, g2⟩, rfl, g4, by rw [g6], fun z => by rw [g6] at z; exact absurd z (by decide)⟩
    · obtain ⟨g6, g7⟩ := g5
      obtain rfl := Sum.inr.inj g7
      refine ⟨17, 4, 2, ⟨[⟨0, 10, 13, 21⟩], ⟨0, 10, 17, 15⟩, [], rfl, (fun z hz => Or.inr (by
          rcases List.mem_singleton.mp hz with rfl
          exact ⟨by decide, _, cl_21, by decide, by decide⟩)), by decide, by decide, cl_15, by decide, rfl⟩, ⟨by decide, Or.inr ⟨dL_write_17, rfl⟩⟩, ?_⟩
      refine e_iconst dL_write_19 ?_
      exact e_iret dL_write_20 (Or.inl rfl) ⟨⟨g1, g2⟩, rfl, g4, by rw [g6], fun z => by rw [g6] at z; exact absurd z (by decide)⟩
    · obtain ⟨g6, g7⟩ := g5
      have t9 := t41_write _ p0 p1
      omega
set_option maxRecDepth 20000 in
set_option maxHeartbeats 4000000 in
theorem w_upload {K : q_K} {M C : q_S} {a b : Nat} {k : Int} (hT : K a = (11, 0, 100)) (hb : K b = (21, 1, 280)) (hR : RC M C) (h : OKC M k) (hk : 0 ≤ k ∧ k < 512) (hB : q_tb K (M 50 16)) {c s : Nat} (hc : 16 ≤ c) (hs : 96 ≤ s) {p0 p1 : Int} (hp0 : q_iI p0) (hp1 : q_iI p1) : q_E mL_upload 0 [some (q_R a), some (q_I p0), some (q_I p1), some (q_R b), none] [] K M C c s (WL (uploadF M p0 p1) K M) := by
  have nb := nb_10 h.1.2.2.2.2 hk.2
  have oc := okc_upload h hk p0 p1
  refine e_aload_n dL_upload_0 rfl ?_
  refine e_iconst dL_upload_1 ?_
  refine e_aload_n dL_upload_2 rfl ?_
  refine e_iload_n dL_upload_3 rfl ?_
  refine e_iload_n dL_upload_4 rfl ?_
  refine e_callVH (ci := 10) (as := [_, _]) (c1 := c) (s1 := s) (c2 := 0) (s2 := 0) dL_upload_5 k_X10_upload l_L_46 i_X10_upload v_X10_upload hT (by decide) (by decide) ⟨_, _, rfl⟩ rfl rfl rfl rfl (Nat.le_of_ble_eq_true rfl) ⟨by decide, by decide⟩ (by omega) (by omega) (Nat.le_of_ble_eq_true rfl) (by decide) (c_10_upload hT hR h.1.2.2.1 h.1.1 hB (c := c) (s := s) (by omega) (by omega) hp0 hp1 h.1.2.1 h.1.2.2.2.1 (inv_upload h.1 h.2 hk p0 p1).2.2 (gi_sz h.2 (by omega)) hc hs) (fun o K2 M2 C2 g => ?_) (fun E K2 M2 C2 g => ?_)
  · obtain ⟨⟨g1, g2⟩, g3, g4, g5⟩ := g
    have g6 : (uploadF M p0 p1).2 50 41 = 0 ∧ o = some (q_I (uploadF M p0 p1).1) := by
      rcases g5 with g5 | g5 | g5 | g5
      · exact ⟨g5.1, Sum.inl.inj g5.2⟩
      · exact absurd g5.2 (by intro z; cases z)
      · exact absurd g5.2 (by intro z; cases z)
      · exact absurd g5.2 (by intro z; cases z)
    obtain ⟨g7, rfl⟩ := g6
    subst g3
    have hb2 := xt_get g1 hb (by decide)
    refine e_i2l dL_upload_8 oc.2 ?_
    refine c_last (by decide) dL_upload_9 hb2 (by decide) (by decide) (by decide) ⟨by have := oc.2.1; omega, by have := oc.2.2; omega⟩ ?_
    refine e_goto (tgt := 25) dL_upload_10 (by decide) ?_
    refine e_iconst dL_upload_25 ?_
    exact e_iret dL_upload_26 (Or.inl rfl) ⟨⟨g1, g2⟩, rfl, rc_280 g4 (rs_16 oc.1.1.1) (fun t j y => us_ne y), by rw [g7], fun _ => us_eq⟩
  · obtain ⟨⟨g1, g2⟩, g3, g4, g5⟩ := g
    subst g3
    rcases g5 with g5 | g5 | g5 | g5
    · exact absurd g5.2 (by intro z; cases z)
    · obtain ⟨g6, g7⟩ := g5
      obtain rfl := Sum.inr.inj g7
      refine ⟨13, 4, 2, ⟨[], ⟨0, 10, 13, 21⟩, [⟨0, 10, 17, 13⟩, ⟨0, 10, 21, 15⟩], rfl, (fun z hz => by cases hz), by decide, by decide, cl_21, by decide, rfl⟩, ⟨by decide, Or.inr ⟨dL_upload_13, rfl⟩⟩, ?_⟩
      refine e_iconst dL_upload_15 ?_
      exact e_iret dL_upload_16 (Or.inl rfl) ⟨⟨g1, g2⟩, rfl, g4, by rw [g6], fun z => by rw [g6] at z; exact absurd z (by decide)⟩
    · obtain ⟨g6, g7⟩ := g5
      obtain rfl := Sum.inr.inj g7
      refine ⟨17, 4, 2, ⟨[⟨0, 10, 13, 21⟩], ⟨0, 10, 17, 13⟩, [⟨0, 10, 21, 15⟩], rfl, (fun z hz => Or.inr (by
          rcases List.mem_singleton.mp hz with rfl
          exact ⟨by decide, _, cl_21, by decide, by decide⟩)), by decide, by decide, cl_13, by decide, rfl⟩, ⟨by decide, Or.inr ⟨dL_upload_17, rfl⟩⟩, ?_⟩
      refine e_iconst dL_upload_19 ?_
      exact e_iret dL_upload_20 (Or.inl rfl) ⟨⟨g1, g2⟩, rfl, g4, by rw [g6], fun z => by rw [g6] at z; exact absurd z (by decide)⟩
    · obtain ⟨g6, g7⟩ := g5
      obtain rfl := Sum.inr.inj g7
      refine ⟨21, 4, 2, ⟨[⟨0, 10, 13, 21⟩, ⟨0, 10, 17, 13⟩], ⟨0, 10, 21, 15⟩, [], rfl, (fun z hz => Or.inr (by
          rcases List.mem_cons.mp hz with rfl | hz
          · exact ⟨by decide, _, cl_21, by decide, by decide⟩
          · rcases List.mem_singleton.mp hz with rfl
            exact ⟨by decide, _, cl_13, by decide, by decide⟩)), by decide, by decide, cl_15, by decide, rfl⟩, ⟨by decide, Or.inr ⟨dL_upload_21, rfl⟩⟩, ?_⟩
      refine e_iconst dL_upload_23 ?_
      exact e_iret dL_upload_24 (Or.inl rfl) ⟨⟨g1, g2⟩, rfl, g4, by rw [g6], fun z => by rw [g6] at z; exact absurd z (by decide)⟩
