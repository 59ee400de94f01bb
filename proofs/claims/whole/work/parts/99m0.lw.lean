set_option maxRecDepth 20000 in
set_option maxHeartbeats 4000000 in
theorem w_draft {K : q_K} {B M C : q_S} {a b : Nat} {k : Int} (hT : K a = (11, 0, 100)) (hb : K b = (21, 1, 280)) (hR : RC M C) (h : OKC M k) (hk : 0 ≤ k ∧ k < 512) (hB : q_tb K (M 50 16)) {c s : Nat} (hc : 16 ≤ c) (hs : 96 ≤ s) {p0 : Int} (hp0 : q_iI p0) : q_E mL_draft 0 [some (q_R a), some (q_I p0), some (q_R b), none] [] K B C c s (WL (draftF M p0) K B) := by
  have nb := nb_10 h.1.2.2.2.2 hk.2
  have oc := okc_draft h hk p0
  refine e_aload_n dL_draft_0 rfl ?_
  refine e_iconst dL_draft_1 ?_
  refine e_aload_n dL_draft_2 rfl ?_
  refine e_iload_n dL_draft_3 rfl ?_
  refine e_callVH (ci := 10) (as := [_]) (c1 := c) (s1 := s) (c2 := 0) (s2 := 0) dL_draft_4 k_X10_draft l_L_7 i_X10_draft v_X10_draft hT (by decide) (by decide) ⟨_, _, rfl⟩ rfl rfl rfl rfl (Nat.le_of_ble_eq_true rfl) ⟨by decide, by decide⟩ (by omega) (by omega) (Nat.le_of_ble_eq_true rfl) (by decide) (c_10_draft hT hR h.1.2.2.1 h.1.1 hB (c := c) (s := s) (by omega) (by omega) hp0 ) (fun o K2 M2 C2 g => ?_) (fun E K2 M2 C2 g => ?_)
  · obtain ⟨⟨g1, g2⟩, g3, g4, g5⟩ := g
    have g6 : (draftF M p0).2 50 41 = 0 ∧ o = some (q_I (draftF M p0).1) := by
      rcases g5 with g5 | g5 | g5 | g5
      · exact ⟨g5.1, Sum.inl.inj g5.2⟩
      · exact absurd g5.2 (by intro z; cases z)
      · exact absurd g5.2 (by intro z; cases z)
      · exact absurd g5.2 (by intro z; cases z)
    obtain ⟨g7, rfl⟩ := g6
    subst g3
    have hb9 := xt_get g1 hb (by decide)
    refine e_i2l dL_draft_7 oc.2 ?_
    refine c_last (by decide) dL_draft_8 hb9 (by decide) (by decide) (by decide) ⟨by have := oc.2.1; omega, by have := oc.2.2; omega⟩ ?_
    refine e_goto (tgt := 18) dL_draft_9 (by decide) ?_
    refine e_iconst dL_draft_18 ?_
    exact e_iret dL_draft_19 (Or.inl rfl) ⟨⟨g1, g2⟩, rfl, rc_280 g4 (rs_16 oc.1.1.1) (fun t j y => us_ne y), by rw [g7], fun _ => us_eq⟩
  · obtain ⟨⟨g1, g2⟩, g3, g4, g5⟩ := g
    subst g3
    rcases g5 with g5 | g5 | g5 | g5
    · exact absurd g5.2 (by intro z; cases z)
    · obtain ⟨g6, g7⟩ := g5
      obtain rfl := Sum.inr.inj g7
      refine ⟨12, 3, 1, ⟨[], ⟨0, 9, 12, 13⟩, [⟨0, 9, 15, 15⟩], rfl, (fun z hz => by cases hz), by decide, by decide, cl_13, by decide, rfl⟩, ⟨by decide, Or.inl ⟨3, dL_draft_12, rfl, rfl⟩⟩, ?_⟩
      refine e_iconst dL_draft_13 ?_
      exact e_iret dL_draft_14 (Or.inl rfl) ⟨⟨g1, g2⟩, rfl, g4, by rw [g6], fun z => by rw [g6] at z; exact absurd z (by decide)⟩
    · obtain ⟨g6, g7⟩ := g5
      obtain rfl := Sum.inr.inj g7
      refine ⟨15, 3, 1, ⟨[⟨0, 9, 12, 13⟩], ⟨0, 9, 15, 15⟩, [], rfl, (fun z hz => Or.inr (by
          rcases List.mem_singleton.mp hz with rfl
          exact ⟨by decide, _, cl_13, by decide, by decide⟩)), by decide, by decide, cl_15, by decide, rfl⟩, ⟨by decide, Or.inl ⟨3, dL_draft_15, rfl, rfl⟩⟩, ?_⟩
      refine e_iconst dL_draft_16 ?_
      exact e_iret dL_draft_17 (Or.inl rfl) ⟨⟨g1, g2⟩, rfl, g4, by rw [g6], fun z => by rw [g6] at z; exact absurd z (by decide)⟩
    · obtain ⟨g6, g7⟩ := g5
      have t9 := t41_draft M p0
      omega
set_option maxRecDepth 20000 in
set_option maxHeartbeats 4000000 in
theorem w_write {K : q_K} {B M C : q_S} {a b : Nat} {k : Int} (hT : K a = (11, 0, 100)) (hb : K b = (21, 1, 280)) (hR : RC M C) (h : OKC M k) (hk : 0 ≤ k ∧ k < 512) (hB : q_tb K (M 50 16)) {c s : Nat} (hc : 16 ≤ c) (hs : 96 ≤ s) {p0 p1 : Int} (hp0 : q_iI p0) (hp1 : q_iI p1) : q_E mL_write 0 [some (q_R a), some (q_I p0), some (q_I p1), some (q_R b), none] [] K B C c s (WL (writeF M p0 p1) K B) := by
  have nb := nb_10 h.1.2.2.2.2 hk.2
  have oc := okc_write h hk p0 p1
  refine e_aload_n dL_write_0 rfl ?_
  refine e_iconst dL_write_1 ?_
  refine e_aload_n dL_write_2 rfl ?_
  refine e_iload_n dL_write_3 rfl ?_
  refine e_iload_n dL_write_4 rfl ?_
  refine e_callVH (ci := 10) (as := [_, _]) (c1 := c) (s1 := s) (c2 := 0) (s2 := 0) dL_write_5 k_X10_write l_L_17 i_X10_write v_X10_write hT (by decide) (by decide) ⟨_, _, rfl⟩ rfl rfl rfl rfl (Nat.le_of_ble_eq_true rfl) ⟨by decide, by decide⟩ (by omega) (by omega) (Nat.le_of_ble_eq_true rfl) (by decide) (c_10_write hT hR h.1.2.2.1 h.1.1 hB (c := c) (s := s) (by omega) (by omega) hp0 hp1 (by have := nb.2.1; omega) (by omega) (by omega)) (fun o K2 M2 C2 g => ?_) (fun E K2 M2 C2 g => ?_)
  · obtain ⟨⟨g1, g2⟩, g3, g4, g5⟩ := g
    have g6 : (writeF M p0 p1).2 50 41 = 0 ∧ o = some (q_I (writeF M p0 p1).1) := by
      rcases g5 with g5 | g5 | g5 | g5
      · exact ⟨g5.1, Sum.inl.inj g5.2⟩
      · exact absurd g5.2 (by intro z; cases z)
      · exact absurd g5.2 (by intro z; cases z)
      · exact absurd g5.2 (by intro z; cases z)
    obtain ⟨g7, rfl⟩ := g6
    subst g3
    have hb9 := xt_get g1 hb (by decide)
    refine e_i2l dL_write_8 oc.2 ?_
    refine c_last (by decide) dL_write_9 hb9 (by decide) (by decide) (by decide) ⟨by have := oc.2.1; omega, by have := oc.2.2; omega⟩ ?_
    refine e_goto (tgt := 21) dL_write_10 (by decide) ?_
    refine e_iconst dL_write_21 ?_
    exact e_iret dL_write_22 (Or.inl rfl) ⟨⟨g1, g2⟩, rfl, rc_280 g4 (rs_16 oc.1.1.1) (fun t j y => us_ne y), by rw [g7], fun _ => us_eq⟩
  · obtain ⟨⟨g1, g2⟩, g3, g4, g5⟩ := g
    subst g3
    rcases g5 with g5 | g5 | g5 | g5
    · exact absurd g5.2 (by intro z; cases z)
    · obtain ⟨g6, g7⟩ := g5
      obtain rfl := Sum.inr.inj g7
      refine ⟨13, 4, 2, ⟨[], ⟨0, 10, 13, 21⟩, [⟨0, 10, 17, 15⟩], rfl, (fun z hz => by cases hz), by decide, by decide, cl_21, by decide, rfl⟩, ⟨by decide, Or.inr ⟨dL_write_13, rfl⟩⟩, ?_⟩
      refine e_iconst dL_write_15 ?_
      exact e_iret dL_write_16 (Or.inl rfl) ⟨⟨g1, g2⟩, rfl, g4, by rw [g6], fun z => by rw [g6] at z; exact absurd z (by decide)⟩
    · obtain ⟨g6, g7⟩ := g5
      obtain rfl := Sum.inr.inj g7
      refine ⟨17, 4, 2, ⟨[⟨0, 10, 13, 21⟩], ⟨0, 10, 17, 15⟩, [], rfl, (fun z hz => Or.inr (by
          rcases List.mem_singleton.mp hz with rfl
          exact ⟨by decide, _, cl_21, by decide, by decide⟩)), by decide, by decide, cl_15, by decide, rfl⟩, ⟨by decide, Or.inr ⟨dL_write_17, rfl⟩⟩, ?_⟩
      refine e_iconst dL_write_19 ?_
      exact e_iret dL_write_20 (Or.inl rfl) ⟨⟨g1, g2⟩, rfl, g4, by rw [g6], fun z => by rw [g6] at z; exact absurd z (by decide)⟩
    · obtain ⟨g6, g7⟩ := g5
      have t9 := t41_write M p0 p1
      omega
set_option maxRecDepth 20000 in
set_option maxHeartbeats 4000000 in
theorem w_move {K : q_K} {B M C : q_S} {a b : Nat} {k : Int} (hT : K a = (11, 0, 100)) (hb : K b = (21, 1, 280)) (hR : RC M C) (h : OKC M k) (hk : 0 ≤ k ∧ k < 512) (hB : q_tb K (M 50 16)) {c s : Nat} (hc : 16 ≤ c) (hs : 96 ≤ s) {p0 p1 p2 : Int} (hp0 : q_iI p0) (hp1 : q_iI p1) (hp2 : q_iI p2) : q_E mL_move 0 [some (q_R a), some (q_I p0), some (q_I p1), some (q_I p2), some (q_R b), none] [] K B C c s (WL (moveF M p0 p1 p2) K B) := by
  have nb := nb_10 h.1.2.2.2.2 hk.2
  have oc := okc_move h hk p0 p1 p2
  refine e_aload dL_move_0 rfl ?_
  refine e_iconst dL_move_2 ?_
  refine e_aload_n dL_move_3 rfl ?_
  refine e_iload_n dL_move_4 rfl ?_
  refine e_iload_n dL_move_5 rfl ?_
  refine e_iload_n dL_move_6 rfl ?_
  refine e_callVH (ci := 10) (as := [_, _, _]) (c1 := c) (s1 := s) (c2 := 0) (s2 := 0) dL_move_7 k_X10_move l_L_23 i_X10_move v_X10_move hT (by decide) (by decide) ⟨_, _, rfl⟩ rfl rfl rfl rfl (Nat.le_of_ble_eq_true rfl) ⟨by decide, by decide⟩ (by omega) (by omega) (Nat.le_of_ble_eq_true rfl) (by decide) (c_10_move hT hR h.1.2.2.1 h.1.1 hB (c := c) (s := s) (by omega) (by omega) hp0 hp1 hp2 (by have := nb.2.1; omega)) (fun o K2 M2 C2 g => ?_) (fun E K2 M2 C2 g => ?_)
  · obtain ⟨⟨g1, g2⟩, g3, g4, g5⟩ := g
    have g6 : (moveF M p0 p1 p2).2 50 41 = 0 ∧ o = some (q_I (moveF M p0 p1 p2).1) := by
      rcases g5 with g5 | g5 | g5 | g5
      · exact ⟨g5.1, Sum.inl.inj g5.2⟩
      · exact absurd g5.2 (by intro z; cases z)
      · exact absurd g5.2 (by intro z; cases z)
      · exact absurd g5.2 (by intro z; cases z)
    obtain ⟨g7, rfl⟩ := g6
    subst g3
    have hb9 := xt_get g1 hb (by decide)
    refine e_i2l dL_move_10 oc.2 ?_
    refine c_last (by decide) dL_move_11 hb9 (by decide) (by decide) (by decide) ⟨by have := oc.2.1; omega, by have := oc.2.2; omega⟩ ?_
    refine e_goto (tgt := 23) dL_move_12 (by decide) ?_
    refine e_iconst dL_move_23 ?_
    exact e_iret dL_move_24 (Or.inl rfl) ⟨⟨g1, g2⟩, rfl, rc_280 g4 (rs_16 oc.1.1.1) (fun t j y => us_ne y), by rw [g7], fun _ => us_eq⟩
  · obtain ⟨⟨g1, g2⟩, g3, g4, g5⟩ := g
    subst g3
    rcases g5 with g5 | g5 | g5 | g5
    · exact absurd g5.2 (by intro z; cases z)
    · obtain ⟨g6, g7⟩ := g5
      obtain rfl := Sum.inr.inj g7
      refine ⟨15, 5, 2, ⟨[], ⟨0, 12, 15, 21⟩, [⟨0, 12, 19, 15⟩], rfl, (fun z hz => by cases hz), by decide, by decide, cl_21, by decide, rfl⟩, ⟨by decide, Or.inr ⟨dL_move_15, rfl⟩⟩, ?_⟩
      refine e_iconst dL_move_17 ?_
      exact e_iret dL_move_18 (Or.inl rfl) ⟨⟨g1, g2⟩, rfl, g4, by rw [g6], fun z => by rw [g6] at z; exact absurd z (by decide)⟩
    · obtain ⟨g6, g7⟩ := g5
      obtain rfl := Sum.inr.inj g7
      refine ⟨19, 5, 2, ⟨[⟨0, 12, 15, 21⟩], ⟨0, 12, 19, 15⟩, [], rfl, (fun z hz => Or.inr (by
          rcases List.mem_singleton.mp hz with rfl
          exact ⟨by decide, _, cl_21, by decide, by decide⟩)), by decide, by decide, cl_15, by decide, rfl⟩, ⟨by decide, Or.inr ⟨dL_move_19, rfl⟩⟩, ?_⟩
      refine e_iconst dL_move_21 ?_
      exact e_iret dL_move_22 (Or.inl rfl) ⟨⟨g1, g2⟩, rfl, g4, by rw [g6], fun z => by rw [g6] at z; exact absurd z (by decide)⟩
    · obtain ⟨g6, g7⟩ := g5
      have t9 := t41_move M p0 p1 p2
      omega
set_option maxRecDepth 20000 in
set_option maxHeartbeats 4000000 in
theorem w_erase {K : q_K} {B M C : q_S} {a b : Nat} {k : Int} (hT : K a = (11, 0, 100)) (hb : K b = (21, 1, 280)) (hR : RC M C) (h : OKC M k) (hk : 0 ≤ k ∧ k < 512) (hB : q_tb K (M 50 16)) {c s : Nat} (hc : 16 ≤ c) (hs : 96 ≤ s) {p0 p1 : Int} (hp0 : q_iI p0) (hp1 : q_iI p1) : q_E mL_erase 0 [some (q_R a), some (q_I p0), some (q_I p1), some (q_R b), none] [] K B C c s (WL (eraseF M p0 p1) K B) := by
  have nb := nb_10 h.1.2.2.2.2 hk.2
  have oc := okc_erase h hk p0 p1
  refine e_aload_n dL_erase_0 rfl ?_
  refine e_iconst dL_erase_1 ?_
  refine e_aload_n dL_erase_2 rfl ?_
  refine e_iload_n dL_erase_3 rfl ?_
  refine e_iload_n dL_erase_4 rfl ?_
  refine e_callVH (ci := 10) (as := [_, _]) (c1 := c) (s1 := s) (c2 := 0) (s2 := 0) dL_erase_5 k_X10_erase l_L_27 i_X10_erase v_X10_erase hT (by decide) (by decide) ⟨_, _, rfl⟩ rfl rfl rfl rfl (Nat.le_of_ble_eq_true rfl) ⟨by decide, by decide⟩ (by omega) (by omega) (Nat.le_of_ble_eq_true rfl) (by decide) (c_10_erase hT hR h.1.2.2.1 h.1.1 hB (c := c) (s := s) (by omega) (by omega) hp0 hp1 (by have := nb.2.1; omega)) (fun o K2 M2 C2 g => ?_) (fun E K2 M2 C2 g => ?_)
  · obtain ⟨⟨g1, g2⟩, g3, g4, g5⟩ := g
    have g6 : (eraseF M p0 p1).2 50 41 = 0 ∧ o = some (q_I (eraseF M p0 p1).1) := by
      rcases g5 with g5 | g5 | g5 | g5
      · exact ⟨g5.1, Sum.inl.inj g5.2⟩
      · exact absurd g5.2 (by intro z; cases z)
      · exact absurd g5.2 (by intro z; cases z)
      · exact absurd g5.2 (by intro z; cases z)
    obtain ⟨g7, rfl⟩ := g6
    subst g3
    have hb9 := xt_get g1 hb (by decide)
    refine e_i2l dL_erase_8 oc.2 ?_
    refine c_last (by decide) dL_erase_9 hb9 (by decide) (by decide) (by decide) ⟨by have := oc.2.1; omega, by have := oc.2.2; omega⟩ ?_
    refine e_goto (tgt := 21) dL_erase_10 (by decide) ?_
    refine e_iconst dL_erase_21 ?_
    exact e_iret dL_erase_22 (Or.inl rfl) ⟨⟨g1, g2⟩, rfl, rc_280 g4 (rs_16 oc.1.1.1) (fun t j y => us_ne y), by rw [g7], fun _ => us_eq⟩
  · obtain ⟨⟨g1, g2⟩, g3, g4, g5⟩ := g
    subst g3
    rcases g5 with g5 | g5 | g5 | g5
    · exact absurd g5.2 (by intro z; cases z)
    · obtain ⟨g6, g7⟩ := g5
      obtain rfl := Sum.inr.inj g7
      refine ⟨13, 4, 2, ⟨[], ⟨0, 10, 13, 21⟩, [⟨0, 10, 17, 15⟩], rfl, (fun z hz => by cases hz), by decide, by decide, cl_21, by decide, rfl⟩, ⟨by decide, Or.inr ⟨dL_erase_13, rfl⟩⟩, ?_⟩
      refine e_iconst dL_erase_15 ?_
      exact e_iret dL_erase_16 (Or.inl rfl) ⟨⟨g1, g2⟩, rfl, g4, by rw [g6], fun z => by rw [g6] at z; exact absurd z (by decide)⟩
    · obtain ⟨g6, g7⟩ := g5
      obtain rfl := Sum.inr.inj g7
      refine ⟨17, 4, 2, ⟨[⟨0, 10, 13, 21⟩], ⟨0, 10, 17, 15⟩, [], rfl, (fun z hz => Or.inr (by
          rcases List.mem_singleton.mp hz with rfl
          exact ⟨by decide, _, cl_21, by decide, by decide⟩)), by decide, by decide, cl_15, by decide, rfl⟩, ⟨by decide, Or.inr ⟨dL_erase_17, rfl⟩⟩, ?_⟩
      refine e_iconst dL_erase_19 ?_
      exact e_iret dL_erase_20 (Or.inl rfl) ⟨⟨g1, g2⟩, rfl, g4, by rw [g6], fun z => by rw [g6] at z; exact absurd z (by decide)⟩
    · obtain ⟨g6, g7⟩ := g5
      have t9 := t41_erase M p0 p1
      omega
set_option maxRecDepth 20000 in
set_option maxHeartbeats 4000000 in
theorem w_late {K : q_K} {B M C : q_S} {a b : Nat} {k : Int} (hT : K a = (11, 0, 100)) (hb : K b = (21, 1, 280)) (hR : RC M C) (h : OKC M k) (hk : 0 ≤ k ∧ k < 512) (hB : q_tb K (M 50 16)) {c s : Nat} (hc : 16 ≤ c) (hs : 96 ≤ s) {p0 p1 : Int} (hp0 : q_iI p0) (hp1 : q_iI p1) : q_E mL_late 0 [some (q_R a), some (q_I p0), some (q_I p1), some (q_R b), none] [] K B C c s (WL (lateF M p0 p1) K B) := by
  have nb := nb_10 h.1.2.2.2.2 hk.2
  have oc := okc_late h hk p0 p1
  refine e_aload_n dL_late_0 rfl ?_
  refine e_iconst dL_late_1 ?_
  refine e_aload_n dL_late_2 rfl ?_
  refine e_iload_n dL_late_3 rfl ?_
  refine e_iload_n dL_late_4 rfl ?_
  refine e_callVH (ci := 10) (as := [_, _]) (c1 := c) (s1 := s) (c2 := 0) (s2 := 0) dL_late_5 k_X10_late l_L_30 i_X10_late v_X10_late hT (by decide) (by decide) ⟨_, _, rfl⟩ rfl rfl rfl rfl (Nat.le_of_ble_eq_true rfl) ⟨by decide, by decide⟩ (by omega) (by omega) (Nat.le_of_ble_eq_true rfl) (by decide) (c_10_late hT hR h.1.2.2.1 h.1.1 hB (c := c) (s := s) (by omega) (by omega) hp0 hp1 ) (fun o K2 M2 C2 g => ?_) (fun E K2 M2 C2 g => ?_)
  · obtain ⟨⟨g1, g2⟩, g3, g4, g5⟩ := g
    have g6 : (lateF M p0 p1).2 50 41 = 0 ∧ o = some (q_I (lateF M p0 p1).1) := by
      rcases g5 with g5 | g5 | g5 | g5
      · exact ⟨g5.1, Sum.inl.inj g5.2⟩
      · exact absurd g5.2 (by intro z; cases z)
      · exact absurd g5.2 (by intro z; cases z)
      · exact absurd g5.2 (by intro z; cases z)
    obtain ⟨g7, rfl⟩ := g6
    subst g3
    have hb9 := xt_get g1 hb (by decide)
    refine e_i2l dL_late_8 oc.2 ?_
    refine c_last (by decide) dL_late_9 hb9 (by decide) (by decide) (by decide) ⟨by have := oc.2.1; omega, by have := oc.2.2; omega⟩ ?_
    refine e_goto (tgt := 21) dL_late_10 (by decide) ?_
    refine e_iconst dL_late_21 ?_
    exact e_iret dL_late_22 (Or.inl rfl) ⟨⟨g1, g2⟩, rfl, rc_280 g4 (rs_16 oc.1.1.1) (fun t j y => us_ne y), by rw [g7], fun _ => us_eq⟩
  · obtain ⟨⟨g1, g2⟩, g3, g4, g5⟩ := g
    subst g3
    rcases g5 with g5 | g5 | g5 | g5
    · exact absurd g5.2 (by intro z; cases z)
    · obtain ⟨g6, g7⟩ := g5
      obtain rfl := Sum.inr.inj g7
      refine ⟨13, 4, 2, ⟨[], ⟨0, 10, 13, 21⟩, [⟨0, 10, 17, 13⟩], rfl, (fun z hz => by cases hz), by decide, by decide, cl_21, by decide, rfl⟩, ⟨by decide, Or.inr ⟨dL_late_13, rfl⟩⟩, ?_⟩
      refine e_iconst dL_late_15 ?_
      exact e_iret dL_late_16 (Or.inl rfl) ⟨⟨g1, g2⟩, rfl, g4, by rw [g6], fun z => by rw [g6] at z; exact absurd z (by decide)⟩
    · obtain ⟨g6, g7⟩ := g5
      obtain rfl := Sum.inr.inj g7
      refine ⟨17, 4, 2, ⟨[⟨0, 10, 13, 21⟩], ⟨0, 10, 17, 13⟩, [], rfl, (fun z hz => Or.inr (by
          rcases List.mem_singleton.mp hz with rfl
          exact ⟨by decide, _, cl_21, by decide, by decide⟩)), by decide, by decide, cl_13, by decide, rfl⟩, ⟨by decide, Or.inr ⟨dL_late_17, rfl⟩⟩, ?_⟩
      refine e_iconst dL_late_19 ?_
      exact e_iret dL_late_20 (Or.inl rfl) ⟨⟨g1, g2⟩, rfl, g4, by rw [g6], fun z => by rw [g6] at z; exact absurd z (by decide)⟩
    · obtain ⟨g6, g7⟩ := g5
      have t9 := t41_late M p0 p1
      omega
set_option maxRecDepth 20000 in
set_option maxHeartbeats 4000000 in
theorem w_lose {K : q_K} {B M C : q_S} {a b : Nat} {k : Int} (hT : K a = (11, 0, 100)) (hb : K b = (21, 1, 280)) (hR : RC M C) (h : OKC M k) (hk : 0 ≤ k ∧ k < 512) (hB : q_tb K (M 50 16)) {c s : Nat} (hc : 16 ≤ c) (hs : 96 ≤ s) {p0 : Int} (hp0 : q_iI p0) : q_E mL_lose 0 [some (q_R a), some (q_I p0), some (q_R b), none] [] K B C c s (WL (loseF M p0) K B) := by
  have nb := nb_10 h.1.2.2.2.2 hk.2
  have oc := okc_lose h hk p0
  refine e_aload_n dL_lose_0 rfl ?_
  refine e_iconst dL_lose_1 ?_
  refine e_aload_n dL_lose_2 rfl ?_
  refine e_iload_n dL_lose_3 rfl ?_
  refine e_callVH (ci := 10) (as := [_]) (c1 := c) (s1 := s) (c2 := 0) (s2 := 0) dL_lose_4 k_X10_lose l_L_33 i_X10_lose v_X10_lose hT (by decide) (by decide) ⟨_, _, rfl⟩ rfl rfl rfl rfl (Nat.le_of_ble_eq_true rfl) ⟨by decide, by decide⟩ (by omega) (by omega) (Nat.le_of_ble_eq_true rfl) (by decide) (c_10_lose hT hR h.1.2.2.1 h.1.1 hB (c := c) (s := s) (by omega) (by omega) hp0 (by have := nb.2.1; omega)) (fun o K2 M2 C2 g => ?_) (fun E K2 M2 C2 g => ?_)
  · obtain ⟨⟨g1, g2⟩, g3, g4, g5⟩ := g
    have g6 : (loseF M p0).2 50 41 = 0 ∧ o = some (q_I (loseF M p0).1) := by
      rcases g5 with g5 | g5 | g5 | g5
      · exact ⟨g5.1, Sum.inl.inj g5.2⟩
      · exact absurd g5.2 (by intro z; cases z)
      · exact absurd g5.2 (by intro z; cases z)
      · exact absurd g5.2 (by intro z; cases z)
    obtain ⟨g7, rfl⟩ := g6
    subst g3
    have hb9 := xt_get g1 hb (by decide)
    refine e_i2l dL_lose_7 oc.2 ?_
    refine c_last (by decide) dL_lose_8 hb9 (by decide) (by decide) (by decide) ⟨by have := oc.2.1; omega, by have := oc.2.2; omega⟩ ?_
    refine e_goto (tgt := 15) dL_lose_9 (by decide) ?_
    refine e_iconst dL_lose_15 ?_
    exact e_iret dL_lose_16 (Or.inl rfl) ⟨⟨g1, g2⟩, rfl, rc_280 g4 (rs_16 oc.1.1.1) (fun t j y => us_ne y), by rw [g7], fun _ => us_eq⟩
  · obtain ⟨⟨g1, g2⟩, g3, g4, g5⟩ := g
    subst g3
    rcases g5 with g5 | g5 | g5 | g5
    · exact absurd g5.2 (by intro z; cases z)
    · obtain ⟨g6, g7⟩ := g5
      obtain rfl := Sum.inr.inj g7
      refine ⟨12, 3, 1, ⟨[], ⟨0, 9, 12, 21⟩, [], rfl, (fun z hz => by cases hz), by decide, by decide, cl_21, by decide, rfl⟩, ⟨by decide, Or.inl ⟨3, dL_lose_12, rfl, rfl⟩⟩, ?_⟩
      refine e_iconst dL_lose_13 ?_
      exact e_iret dL_lose_14 (Or.inl rfl) ⟨⟨g1, g2⟩, rfl, g4, by rw [g6], fun z => by rw [g6] at z; exact absurd z (by decide)⟩
    · obtain ⟨g6, g7⟩ := g5
      have t9 := t41_lose M p0
      omega
    · obtain ⟨g6, g7⟩ := g5
      have t9 := t41_lose M p0
      omega
set_option maxRecDepth 20000 in
set_option maxHeartbeats 4000000 in
theorem w_scan {K : q_K} {B M C : q_S} {a b : Nat} {k : Int} (hT : K a = (11, 0, 100)) (hb : K b = (21, 1, 280)) (hR : RC M C) (h : OKC M k) (hk : 0 ≤ k ∧ k < 512) (hB : q_tb K (M 50 16)) {c s : Nat} (hc : 16 ≤ c) (hs : 96 ≤ s) {p0 : Int} (hp0 : q_iI p0) : q_E mL_scan 0 [some (q_R a), some (q_I p0), some (q_R b), none] [] K B C c s (WL (scanF M p0) K B) := by
  have nb := nb_10 h.1.2.2.2.2 hk.2
  have oc := okc_scan h hk p0
  refine e_aload_n dL_scan_0 rfl ?_
  refine e_iconst dL_scan_1 ?_
  refine e_aload_n dL_scan_2 rfl ?_
  refine e_iload_n dL_scan_3 rfl ?_
  refine e_callVH (ci := 10) (as := [_]) (c1 := c) (s1 := s) (c2 := 0) (s2 := 0) dL_scan_4 k_X10_scan l_L_36 i_X10_scan v_X10_scan hT (by decide) (by decide) ⟨_, _, rfl⟩ rfl rfl rfl rfl (Nat.le_of_ble_eq_true rfl) ⟨by decide, by decide⟩ (by omega) (by omega) (Nat.le_of_ble_eq_true rfl) (by decide) (c_10_scan hT hR h.1.2.2.1 h.1.1 hB (c := c) (s := s) (by omega) (by omega) hp0 (by have := nb.1; omega)) (fun o K2 M2 C2 g => ?_) (fun E K2 M2 C2 g => ?_)
  · obtain ⟨⟨g1, g2⟩, g3, g4, g5⟩ := g
    have g6 : (scanF M p0).2 50 41 = 0 ∧ o = some (q_I (scanF M p0).1) := by
      rcases g5 with g5 | g5 | g5 | g5
      · exact ⟨g5.1, Sum.inl.inj g5.2⟩
      · exact absurd g5.2 (by intro z; cases z)
      · exact absurd g5.2 (by intro z; cases z)
      · exact absurd g5.2 (by intro z; cases z)
    obtain ⟨g7, rfl⟩ := g6
    subst g3
    have hb9 := xt_get g1 hb (by decide)
    refine e_i2l dL_scan_7 oc.2 ?_
    refine c_last (by decide) dL_scan_8 hb9 (by decide) (by decide) (by decide) ⟨by have := oc.2.1; omega, by have := oc.2.2; omega⟩ ?_
    refine e_goto (tgt := 15) dL_scan_9 (by decide) ?_
    refine e_iconst dL_scan_15 ?_
    exact e_iret dL_scan_16 (Or.inl rfl) ⟨⟨g1, g2⟩, rfl, rc_280 g4 (rs_16 oc.1.1.1) (fun t j y => us_ne y), by rw [g7], fun _ => us_eq⟩
  · obtain ⟨⟨g1, g2⟩, g3, g4, g5⟩ := g
    subst g3
    rcases g5 with g5 | g5 | g5 | g5
    · exact absurd g5.2 (by intro z; cases z)
    · obtain ⟨g6, g7⟩ := g5
      obtain rfl := Sum.inr.inj g7
      refine ⟨12, 3, 1, ⟨[], ⟨0, 9, 12, 21⟩, [], rfl, (fun z hz => by cases hz), by decide, by decide, cl_21, by decide, rfl⟩, ⟨by decide, Or.inl ⟨3, dL_scan_12, rfl, rfl⟩⟩, ?_⟩
      refine e_iconst dL_scan_13 ?_
      exact e_iret dL_scan_14 (Or.inl rfl) ⟨⟨g1, g2⟩, rfl, g4, by rw [g6], fun z => by rw [g6] at z; exact absurd z (by decide)⟩
    · obtain ⟨g6, g7⟩ := g5
      have t9 := t41_scan M p0
      omega
    · obtain ⟨g6, g7⟩ := g5
      have t9 := t41_scan M p0
      omega
set_option maxRecDepth 20000 in
set_option maxHeartbeats 4000000 in
theorem w_room {K : q_K} {B M C : q_S} {a b : Nat} {k : Int} (hT : K a = (11, 0, 100)) (hb : K b = (21, 1, 280)) (hR : RC M C) (h : OKC M k) (hk : 0 ≤ k ∧ k < 512) (hB : q_tb K (M 50 16)) {c s : Nat} (hc : 16 ≤ c) (hs : 96 ≤ s) {p0 p1 : Int} (hp0 : q_iI p0) (hp1 : q_iI p1) : q_E mL_room 0 [some (q_R a), some (q_I p0), some (q_I p1), some (q_R b), none] [] K B C c s (WL (roomF M p0 p1) K B) := by
  have nb := nb_10 h.1.2.2.2.2 hk.2
  have oc := okc_room h hk p0 p1
  refine e_aload_n dL_room_0 rfl ?_
  refine e_iconst dL_room_1 ?_
  refine e_aload_n dL_room_2 rfl ?_
  refine e_iload_n dL_room_3 rfl ?_
  refine e_iload_n dL_room_4 rfl ?_
  refine e_callVH (ci := 10) (as := [_, _]) (c1 := c) (s1 := s) (c2 := 0) (s2 := 0) dL_room_5 k_X10_room l_L_39 i_X10_room v_X10_room hT (by decide) (by decide) ⟨_, _, rfl⟩ rfl rfl rfl rfl (Nat.le_of_ble_eq_true rfl) ⟨by decide, by decide⟩ (by omega) (by omega) (Nat.le_of_ble_eq_true rfl) (by decide) (c_10_room hT hR h.1.2.2.1 h.1.1 hB (c := c) (s := s) (by omega) (by omega) hp0 hp1 ) (fun o K2 M2 C2 g => ?_) (fun E K2 M2 C2 g => ?_)
  · obtain ⟨⟨g1, g2⟩, g3, g4, g5⟩ := g
    have g6 : (roomF M p0 p1).2 50 41 = 0 ∧ o = some (q_I (roomF M p0 p1).1) := by
      rcases g5 with g5 | g5 | g5 | g5
      · exact ⟨g5.1, Sum.inl.inj g5.2⟩
      · exact absurd g5.2 (by intro z; cases z)
      · exact absurd g5.2 (by intro z; cases z)
      · exact absurd g5.2 (by intro z; cases z)
    obtain ⟨g7, rfl⟩ := g6
    subst g3
    have hb9 := xt_get g1 hb (by decide)
    refine e_i2l dL_room_8 oc.2 ?_
    refine c_last (by decide) dL_room_9 hb9 (by decide) (by decide) (by decide) ⟨by have := oc.2.1; omega, by have := oc.2.2; omega⟩ ?_
    refine e_goto (tgt := 21) dL_room_10 (by decide) ?_
    refine e_iconst dL_room_21 ?_
    exact e_iret dL_room_22 (Or.inl rfl) ⟨⟨g1, g2⟩, rfl, rc_280 g4 (rs_16 oc.1.1.1) (fun t j y => us_ne y), by rw [g7], fun _ => us_eq⟩
  · obtain ⟨⟨g1, g2⟩, g3, g4, g5⟩ := g
    subst g3
    rcases g5 with g5 | g5 | g5 | g5
    · exact absurd g5.2 (by intro z; cases z)
    · obtain ⟨g6, g7⟩ := g5
      obtain rfl := Sum.inr.inj g7
      refine ⟨13, 4, 2, ⟨[], ⟨0, 10, 13, 21⟩, [⟨0, 10, 17, 13⟩], rfl, (fun z hz => by cases hz), by decide, by decide, cl_21, by decide, rfl⟩, ⟨by decide, Or.inr ⟨dL_room_13, rfl⟩⟩, ?_⟩
      refine e_iconst dL_room_15 ?_
      exact e_iret dL_room_16 (Or.inl rfl) ⟨⟨g1, g2⟩, rfl, g4, by rw [g6], fun z => by rw [g6] at z; exact absurd z (by decide)⟩
    · obtain ⟨g6, g7⟩ := g5
      obtain rfl := Sum.inr.inj g7
      refine ⟨17, 4, 2, ⟨[⟨0, 10, 13, 21⟩], ⟨0, 10, 17, 13⟩, [], rfl, (fun z hz => Or.inr (by
          rcases List.mem_singleton.mp hz with rfl
          exact ⟨by decide, _, cl_21, by decide, by decide⟩)), by decide, by decide, cl_13, by decide, rfl⟩, ⟨by decide, Or.inr ⟨dL_room_17, rfl⟩⟩, ?_⟩
      refine e_iconst dL_room_19 ?_
      exact e_iret dL_room_20 (Or.inl rfl) ⟨⟨g1, g2⟩, rfl, g4, by rw [g6], fun z => by rw [g6] at z; exact absurd z (by decide)⟩
    · obtain ⟨g6, g7⟩ := g5
      have t9 := t41_room M p0 p1
      omega
set_option maxRecDepth 20000 in
set_option maxHeartbeats 4000000 in
theorem w_upload {K : q_K} {B M C : q_S} {a b : Nat} {k : Int} (hT : K a = (11, 0, 100)) (hb : K b = (21, 1, 280)) (hR : RC M C) (h : OKC M k) (hk : 0 ≤ k ∧ k < 512) (hB : q_tb K (M 50 16)) {c s : Nat} (hc : 16 ≤ c) (hs : 96 ≤ s) {p0 p1 : Int} (hp0 : q_iI p0) (hp1 : q_iI p1) : q_E mL_upload 0 [some (q_R a), some (q_I p0), some (q_I p1), some (q_R b), none] [] K B C c s (WL (uploadF M p0 p1) K B) := by
  have nb := nb_10 h.1.2.2.2.2 hk.2
  have oc := okc_upload h hk p0 p1
  refine e_aload_n dL_upload_0 rfl ?_
  refine e_iconst dL_upload_1 ?_
  refine e_aload_n dL_upload_2 rfl ?_
  refine e_iload_n dL_upload_3 rfl ?_
  refine e_iload_n dL_upload_4 rfl ?_
  refine e_callVH (ci := 10) (as := [_, _]) (c1 := c) (s1 := s) (c2 := 0) (s2 := 0) dL_upload_5 k_X10_upload l_L_46 i_X10_upload v_X10_upload hT (by decide) (by decide) ⟨_, _, rfl⟩ rfl rfl rfl rfl (Nat.le_of_ble_eq_true rfl) ⟨by decide, by decide⟩ (by omega) (by omega) (Nat.le_of_ble_eq_true rfl) (by decide) (c_10_upload hT hR h.1.2.2.1 h.1.1 hB (c := c) (s := s) (by omega) (by omega) hp0 hp1 h.1.2.1 h.1.2.2.2.1 (inv_upload h.1 h.2 hk p0 p1).2.2 (gi_sz h.2 (by omega)) hc hs) (fun o K2 M2 C2 g => ?_) (fun E K2 M2 C2 g => ?_)
  · obtain ⟨⟨g1, g2⟩, g3, g4, g5⟩ := g
    have g6 : (uploadF M p0 p1).2 50 41 = 0 ∧ o = some (q_I (uploadF M p0 p1).1) := by
      rcases g5 with g5 | g5 | g5 | g5
      · exact ⟨g5.1, Sum.inl.inj g5.2⟩
      · exact absurd g5.2 (by intro z; cases z)
      · exact absurd g5.2 (by intro z; cases z)
      · exact absurd g5.2 (by intro z; cases z)
    obtain ⟨g7, rfl⟩ := g6
    subst g3
    have hb9 := xt_get g1 hb (by decide)
    refine e_i2l dL_upload_8 oc.2 ?_
    refine c_last (by decide) dL_upload_9 hb9 (by decide) (by decide) (by decide) ⟨by have := oc.2.1; omega, by have := oc.2.2; omega⟩ ?_
    refine e_goto (tgt := 25) dL_upload_10 (by decide) ?_
    refine e_iconst dL_upload_25 ?_
    exact e_iret dL_upload_26 (Or.inl rfl) ⟨⟨g1, g2⟩, rfl, rc_280 g4 (rs_16 oc.1.1.1) (fun t j y => us_ne y), by rw [g7], fun _ => us_eq⟩
  · obtain ⟨⟨g1, g2⟩, g3, g4, g5⟩ := g
    subst g3
    rcases g5 with g5 | g5 | g5 | g5
    · exact absurd g5.2 (by intro z; cases z)
    · obtain ⟨g6, g7⟩ := g5
      obtain rfl := Sum.inr.inj g7
      refine ⟨13, 4, 2, ⟨[], ⟨0, 10, 13, 21⟩, [⟨0, 10, 17, 13⟩, ⟨0, 10, 21, 15⟩], rfl, (fun z hz => by cases hz), by decide, by decide, cl_21, by decide, rfl⟩, ⟨by decide, Or.inr ⟨dL_upload_13, rfl⟩⟩, ?_⟩
      refine e_iconst dL_upload_15 ?_
      exact e_iret dL_upload_16 (Or.inl rfl) ⟨⟨g1, g2⟩, rfl, g4, by rw [g6], fun z => by rw [g6] at z; exact absurd z (by decide)⟩
    · obtain ⟨g6, g7⟩ := g5
      obtain rfl := Sum.inr.inj g7
      refine ⟨17, 4, 2, ⟨[⟨0, 10, 13, 21⟩], ⟨0, 10, 17, 13⟩, [⟨0, 10, 21, 15⟩], rfl, (fun z hz => Or.inr (by
          rcases List.mem_singleton.mp hz with rfl
          exact ⟨by decide, _, cl_21, by decide, by decide⟩)), by decide, by decide, cl_13, by decide, rfl⟩, ⟨by decide, Or.inr ⟨dL_upload_17, rfl⟩⟩, ?_⟩
      refine e_iconst dL_upload_19 ?_
      exact e_iret dL_upload_20 (Or.inl rfl) ⟨⟨g1, g2⟩, rfl, g4, by rw [g6], fun z => by rw [g6] at z; exact absurd z (by decide)⟩
    · obtain ⟨g6, g7⟩ := g5
      obtain rfl := Sum.inr.inj g7
      refine ⟨21, 4, 2, ⟨[⟨0, 10, 13, 21⟩, ⟨0, 10, 17, 13⟩], ⟨0, 10, 21, 15⟩, [], rfl, (fun z hz => Or.inr (by
          rcases List.mem_cons.mp hz with rfl | hz
          · exact ⟨by decide, _, cl_21, by decide, by decide⟩
          · rcases List.mem_singleton.mp hz with rfl
            exact ⟨by decide, _, cl_13, by decide, by decide⟩)), by decide, by decide, cl_15, by decide, rfl⟩, ⟨by decide, Or.inr ⟨dL_upload_21, rfl⟩⟩, ?_⟩
      refine e_iconst dL_upload_23 ?_
      exact e_iret dL_upload_24 (Or.inl rfl) ⟨⟨g1, g2⟩, rfl, g4, by rw [g6], fun z => by rw [g6] at z; exact absurd z (by decide)⟩
set_option maxRecDepth 20000 in
set_option maxHeartbeats 4000000 in
theorem w_pull {K : q_K} {B M C : q_S} {a b : Nat} {k : Int} (hT : K a = (11, 0, 100)) (hb : K b = (21, 1, 280)) (hR : RC M C) (h : OKC M k) (hk : 0 ≤ k ∧ k < 512) (hB : q_tb K (M 50 16)) {c s : Nat} (hc : 16 ≤ c) (hs : 96 ≤ s) {p0 : Int} (hp0 : q_iI p0) : q_E mL_pull 0 [some (q_R a), some (q_I p0), some (q_R b), none] [] K B C c s (WL (pullF M p0) K B) := by
  have nb := nb_10 h.1.2.2.2.2 hk.2
  have oc := okc_pull h hk p0
  refine e_aload_n dL_pull_0 rfl ?_
  refine e_iconst dL_pull_1 ?_
  refine e_aload_n dL_pull_2 rfl ?_
  refine e_iload_n dL_pull_3 rfl ?_
  refine e_callVH (ci := 10) (as := [_]) (c1 := c) (s1 := s) (c2 := 0) (s2 := 0) dL_pull_4 k_X10_pull l_L_49 i_X10_pull v_X10_pull hT (by decide) (by decide) ⟨_, _, rfl⟩ rfl rfl rfl rfl (Nat.le_of_ble_eq_true rfl) ⟨by decide, by decide⟩ (by omega) (by omega) (Nat.le_of_ble_eq_true rfl) (by decide) (c_10_pull hT hR h.1.2.2.1 h.1.1 hB (c := c) (s := s) (by omega) (by omega) hp0 ) (fun o K2 M2 C2 g => ?_) (fun E K2 M2 C2 g => ?_)
  · obtain ⟨⟨g1, g2⟩, g3, g4, g5⟩ := g
    have g6 : (pullF M p0).2 50 41 = 0 ∧ o = some (q_I (pullF M p0).1) := by
      rcases g5 with g5 | g5 | g5 | g5
      · exact ⟨g5.1, Sum.inl.inj g5.2⟩
      · exact absurd g5.2 (by intro z; cases z)
      · exact absurd g5.2 (by intro z; cases z)
      · exact absurd g5.2 (by intro z; cases z)
    obtain ⟨g7, rfl⟩ := g6
    subst g3
    have hb9 := xt_get g1 hb (by decide)
    refine e_i2l dL_pull_7 oc.2 ?_
    refine c_last (by decide) dL_pull_8 hb9 (by decide) (by decide) (by decide) ⟨by have := oc.2.1; omega, by have := oc.2.2; omega⟩ ?_
    refine e_goto (tgt := 15) dL_pull_9 (by decide) ?_
    refine e_iconst dL_pull_15 ?_
    exact e_iret dL_pull_16 (Or.inl rfl) ⟨⟨g1, g2⟩, rfl, rc_280 g4 (rs_16 oc.1.1.1) (fun t j y => us_ne y), by rw [g7], fun _ => us_eq⟩
  · obtain ⟨⟨g1, g2⟩, g3, g4, g5⟩ := g
    subst g3
    rcases g5 with g5 | g5 | g5 | g5
    · exact absurd g5.2 (by intro z; cases z)
    · obtain ⟨g6, g7⟩ := g5
      obtain rfl := Sum.inr.inj g7
      refine ⟨12, 3, 1, ⟨[], ⟨0, 9, 12, 21⟩, [], rfl, (fun z hz => by cases hz), by decide, by decide, cl_21, by decide, rfl⟩, ⟨by decide, Or.inl ⟨3, dL_pull_12, rfl, rfl⟩⟩, ?_⟩
      refine e_iconst dL_pull_13 ?_
      exact e_iret dL_pull_14 (Or.inl rfl) ⟨⟨g1, g2⟩, rfl, g4, by rw [g6], fun z => by rw [g6] at z; exact absurd z (by decide)⟩
    · obtain ⟨g6, g7⟩ := g5
      have t9 := t41_pull M p0
      omega
    · obtain ⟨g6, g7⟩ := g5
      have t9 := t41_pull M p0
      omega
set_option maxRecDepth 20000 in
set_option maxHeartbeats 4000000 in
theorem w_open {K : q_K} {B M C : q_S} {a b : Nat} {k : Int} (hT : K a = (11, 0, 100)) (hb : K b = (21, 1, 280)) (hR : RC M C) (h : OKC M k) (hk : 0 ≤ k ∧ k < 512) (hB : q_tb K (M 50 16)) {c s : Nat} (hc : 16 ≤ c) (hs : 96 ≤ s) {p0 p1 : Int} (hp0 : q_iI p0) (hp1 : q_iI p1) : q_E mL_open 0 [some (q_R a), some (q_I p0), some (q_I p1), some (q_R b), none] [] K B C c s (WL (openF M p0 p1) K B) := by
  have nb := nb_10 h.1.2.2.2.2 hk.2
  have oc := okc_open h hk p0 p1
  refine e_aload_n dL_open_0 rfl ?_
  refine e_iconst dL_open_1 ?_
  refine e_aload_n dL_open_2 rfl ?_
  refine e_iload_n dL_open_3 rfl ?_
  refine e_iload_n dL_open_4 rfl ?_
  refine e_callVH (ci := 10) (as := [_, _]) (c1 := c) (s1 := s) (c2 := 0) (s2 := 0) dL_open_5 k_X10_open l_L_52 i_X10_open v_X10_open hT (by decide) (by decide) ⟨_, _, rfl⟩ rfl rfl rfl rfl (Nat.le_of_ble_eq_true rfl) ⟨by decide, by decide⟩ (by omega) (by omega) (Nat.le_of_ble_eq_true rfl) (by decide) (c_10_open hT hR h.1.2.2.1 h.1.1 hB (c := c) (s := s) (by omega) (by omega) hp0 hp1 (by have := nb.2.2; omega)) (fun o K2 M2 C2 g => ?_) (fun E K2 M2 C2 g => ?_)
  · obtain ⟨⟨g1, g2⟩, g3, g4, g5⟩ := g
    have g6 : (openF M p0 p1).2 50 41 = 0 ∧ o = some (q_I (openF M p0 p1).1) := by
      rcases g5 with g5 | g5 | g5 | g5
      · exact ⟨g5.1, Sum.inl.inj g5.2⟩
      · exact absurd g5.2 (by intro z; cases z)
      · exact absurd g5.2 (by intro z; cases z)
      · exact absurd g5.2 (by intro z; cases z)
    obtain ⟨g7, rfl⟩ := g6
    subst g3
    have hb9 := xt_get g1 hb (by decide)
    refine e_i2l dL_open_8 oc.2 ?_
    refine c_last (by decide) dL_open_9 hb9 (by decide) (by decide) (by decide) ⟨by have := oc.2.1; omega, by have := oc.2.2; omega⟩ ?_
    refine e_goto (tgt := 21) dL_open_10 (by decide) ?_
    refine e_iconst dL_open_21 ?_
    exact e_iret dL_open_22 (Or.inl rfl) ⟨⟨g1, g2⟩, rfl, rc_280 g4 (rs_16 oc.1.1.1) (fun t j y => us_ne y), by rw [g7], fun _ => us_eq⟩
  · obtain ⟨⟨g1, g2⟩, g3, g4, g5⟩ := g
    subst g3
    rcases g5 with g5 | g5 | g5 | g5
    · exact absurd g5.2 (by intro z; cases z)
    · obtain ⟨g6, g7⟩ := g5
      obtain rfl := Sum.inr.inj g7
      refine ⟨13, 4, 2, ⟨[], ⟨0, 10, 13, 21⟩, [⟨0, 10, 17, 15⟩], rfl, (fun z hz => by cases hz), by decide, by decide, cl_21, by decide, rfl⟩, ⟨by decide, Or.inr ⟨dL_open_13, rfl⟩⟩, ?_⟩
      refine e_iconst dL_open_15 ?_
      exact e_iret dL_open_16 (Or.inl rfl) ⟨⟨g1, g2⟩, rfl, g4, by rw [g6], fun z => by rw [g6] at z; exact absurd z (by decide)⟩
    · obtain ⟨g6, g7⟩ := g5
      obtain rfl := Sum.inr.inj g7
      refine ⟨17, 4, 2, ⟨[⟨0, 10, 13, 21⟩], ⟨0, 10, 17, 15⟩, [], rfl, (fun z hz => Or.inr (by
          rcases List.mem_singleton.mp hz with rfl
          exact ⟨by decide, _, cl_21, by decide, by decide⟩)), by decide, by decide, cl_15, by decide, rfl⟩, ⟨by decide, Or.inr ⟨dL_open_17, rfl⟩⟩, ?_⟩
      refine e_iconst dL_open_19 ?_
      exact e_iret dL_open_20 (Or.inl rfl) ⟨⟨g1, g2⟩, rfl, g4, by rw [g6], fun z => by rw [g6] at z; exact absurd z (by decide)⟩
    · obtain ⟨g6, g7⟩ := g5
      have t9 := t41_open M p0 p1
      omega
set_option maxRecDepth 20000 in
set_option maxHeartbeats 4000000 in
theorem w_lock {K : q_K} {B M C : q_S} {a b : Nat} {k : Int} (hT : K a = (11, 0, 100)) (hb : K b = (21, 1, 280)) (hR : RC M C) (h : OKC M k) (hk : 0 ≤ k ∧ k < 512) (hB : q_tb K (M 50 16)) {c s : Nat} (hc : 16 ≤ c) (hs : 96 ≤ s) {p0 p1 p2 : Int} (hp0 : q_iI p0) (hp1 : q_iI p1) (hp2 : q_iI p2) : q_E mL_lock 0 [some (q_R a), some (q_I p0), some (q_I p1), some (q_I p2), some (q_R b), none] [] K B C c s (WL (lockMF M p0 p1 p2) K B) := by
  have nb := nb_10 h.1.2.2.2.2 hk.2
  have oc := okc_lock h hk p0 p1 p2
  refine e_aload dL_lock_0 rfl ?_
  refine e_iconst dL_lock_2 ?_
  refine e_aload_n dL_lock_3 rfl ?_
  refine e_iload_n dL_lock_4 rfl ?_
  refine e_iload_n dL_lock_5 rfl ?_
  refine e_iload_n dL_lock_6 rfl ?_
  refine e_callVH (ci := 10) (as := [_, _, _]) (c1 := c) (s1 := s) (c2 := 0) (s2 := 0) dL_lock_7 k_X10_lock l_L_55 i_X10_lock v_X10_lock hT (by decide) (by decide) ⟨_, _, rfl⟩ rfl rfl rfl rfl (Nat.le_of_ble_eq_true rfl) ⟨by decide, by decide⟩ (by omega) (by omega) (Nat.le_of_ble_eq_true rfl) (by decide) (c_10_lock hT hR h.1.2.2.1 h.1.1 hB (c := c) (s := s) (by omega) (by omega) hp0 hp1 hp2 ) (fun o K2 M2 C2 g => ?_) (fun E K2 M2 C2 g => ?_)
  · obtain ⟨⟨g1, g2⟩, g3, g4, g5⟩ := g
    have g6 : (lockMF M p0 p1 p2).2 50 41 = 0 ∧ o = some (q_I (lockMF M p0 p1 p2).1) := by
      rcases g5 with g5 | g5 | g5 | g5
      · exact ⟨g5.1, Sum.inl.inj g5.2⟩
      · exact absurd g5.2 (by intro z; cases z)
      · exact absurd g5.2 (by intro z; cases z)
      · exact absurd g5.2 (by intro z; cases z)
    obtain ⟨g7, rfl⟩ := g6
    subst g3
    have hb9 := xt_get g1 hb (by decide)
    refine e_i2l dL_lock_10 oc.2 ?_
    refine c_last (by decide) dL_lock_11 hb9 (by decide) (by decide) (by decide) ⟨by have := oc.2.1; omega, by have := oc.2.2; omega⟩ ?_
    refine e_goto (tgt := 27) dL_lock_12 (by decide) ?_
    refine e_iconst dL_lock_27 ?_
    exact e_iret dL_lock_28 (Or.inl rfl) ⟨⟨g1, g2⟩, rfl, rc_280 g4 (rs_16 oc.1.1.1) (fun t j y => us_ne y), by rw [g7], fun _ => us_eq⟩
  · obtain ⟨⟨g1, g2⟩, g3, g4, g5⟩ := g
    subst g3
    rcases g5 with g5 | g5 | g5 | g5
    · exact absurd g5.2 (by intro z; cases z)
    · obtain ⟨g6, g7⟩ := g5
      obtain rfl := Sum.inr.inj g7
      refine ⟨15, 5, 2, ⟨[], ⟨0, 12, 15, 21⟩, [⟨0, 12, 19, 13⟩, ⟨0, 12, 23, 15⟩], rfl, (fun z hz => by cases hz), by decide, by decide, cl_21, by decide, rfl⟩, ⟨by decide, Or.inr ⟨dL_lock_15, rfl⟩⟩, ?_⟩
      refine e_iconst dL_lock_17 ?_
      exact e_iret dL_lock_18 (Or.inl rfl) ⟨⟨g1, g2⟩, rfl, g4, by rw [g6], fun z => by rw [g6] at z; exact absurd z (by decide)⟩
    · obtain ⟨g6, g7⟩ := g5
      obtain rfl := Sum.inr.inj g7
      refine ⟨19, 5, 2, ⟨[⟨0, 12, 15, 21⟩], ⟨0, 12, 19, 13⟩, [⟨0, 12, 23, 15⟩], rfl, (fun z hz => Or.inr (by
          rcases List.mem_singleton.mp hz with rfl
          exact ⟨by decide, _, cl_21, by decide, by decide⟩)), by decide, by decide, cl_13, by decide, rfl⟩, ⟨by decide, Or.inr ⟨dL_lock_19, rfl⟩⟩, ?_⟩
      refine e_iconst dL_lock_21 ?_
      exact e_iret dL_lock_22 (Or.inl rfl) ⟨⟨g1, g2⟩, rfl, g4, by rw [g6], fun z => by rw [g6] at z; exact absurd z (by decide)⟩
    · obtain ⟨g6, g7⟩ := g5
      obtain rfl := Sum.inr.inj g7
      refine ⟨23, 5, 2, ⟨[⟨0, 12, 15, 21⟩, ⟨0, 12, 19, 13⟩], ⟨0, 12, 23, 15⟩, [], rfl, (fun z hz => Or.inr (by
          rcases List.mem_cons.mp hz with rfl | hz
          · exact ⟨by decide, _, cl_21, by decide, by decide⟩
          · rcases List.mem_singleton.mp hz with rfl
            exact ⟨by decide, _, cl_13, by decide, by decide⟩)), by decide, by decide, cl_15, by decide, rfl⟩, ⟨by decide, Or.inr ⟨dL_lock_23, rfl⟩⟩, ?_⟩
      refine e_iconst dL_lock_25 ?_
      exact e_iret dL_lock_26 (Or.inl rfl) ⟨⟨g1, g2⟩, rfl, g4, by rw [g6], fun z => by rw [g6] at z; exact absurd z (by decide)⟩
set_option maxRecDepth 20000 in
set_option maxHeartbeats 4000000 in
theorem w_breakLock {K : q_K} {B M C : q_S} {a b : Nat} {k : Int} (hT : K a = (11, 0, 100)) (hb : K b = (21, 1, 280)) (hR : RC M C) (h : OKC M k) (hk : 0 ≤ k ∧ k < 512) (hB : q_tb K (M 50 16)) {c s : Nat} (hc : 16 ≤ c) (hs : 96 ≤ s) {p0 : Int} (hp0 : q_iI p0) : q_E mL_breakLock 0 [some (q_R a), some (q_I p0), some (q_R b), none] [] K B C c s (WL (breakF M p0) K B) := by
  have nb := nb_10 h.1.2.2.2.2 hk.2
  have oc := okc_breakLock h hk p0
  refine e_aload_n dL_breakLock_0 rfl ?_
  refine e_iconst dL_breakLock_1 ?_
  refine e_aload_n dL_breakLock_2 rfl ?_
  refine e_iload_n dL_breakLock_3 rfl ?_
  refine e_callVH (ci := 10) (as := [_]) (c1 := c) (s1 := s) (c2 := 0) (s2 := 0) dL_breakLock_4 k_X10_breakLock l_L_58 i_X10_breakLock v_X10_breakLock hT (by decide) (by decide) ⟨_, _, rfl⟩ rfl rfl rfl rfl (Nat.le_of_ble_eq_true rfl) ⟨by decide, by decide⟩ (by omega) (by omega) (Nat.le_of_ble_eq_true rfl) (by decide) (c_10_breakLock hT hR h.1.2.2.1 h.1.1 hB (c := c) (s := s) (by omega) (by omega) hp0 ) (fun o K2 M2 C2 g => ?_) (fun E K2 M2 C2 g => ?_)
  · obtain ⟨⟨g1, g2⟩, g3, g4, g5⟩ := g
    have g6 : (breakF M p0).2 50 41 = 0 ∧ o = some (q_I (breakF M p0).1) := by
      rcases g5 with g5 | g5 | g5 | g5
      · exact ⟨g5.1, Sum.inl.inj g5.2⟩
      · exact absurd g5.2 (by intro z; cases z)
      · exact absurd g5.2 (by intro z; cases z)
      · exact absurd g5.2 (by intro z; cases z)
    obtain ⟨g7, rfl⟩ := g6
    subst g3
    have hb9 := xt_get g1 hb (by decide)
    refine e_i2l dL_breakLock_7 oc.2 ?_
    refine c_last (by decide) dL_breakLock_8 hb9 (by decide) (by decide) (by decide) ⟨by have := oc.2.1; omega, by have := oc.2.2; omega⟩ ?_
    refine e_goto (tgt := 18) dL_breakLock_9 (by decide) ?_
    refine e_iconst dL_breakLock_18 ?_
    exact e_iret dL_breakLock_19 (Or.inl rfl) ⟨⟨g1, g2⟩, rfl, rc_280 g4 (rs_16 oc.1.1.1) (fun t j y => us_ne y), by rw [g7], fun _ => us_eq⟩
  · obtain ⟨⟨g1, g2⟩, g3, g4, g5⟩ := g
    subst g3
    rcases g5 with g5 | g5 | g5 | g5
    · exact absurd g5.2 (by intro z; cases z)
    · obtain ⟨g6, g7⟩ := g5
      obtain rfl := Sum.inr.inj g7
      refine ⟨12, 3, 1, ⟨[], ⟨0, 9, 12, 21⟩, [⟨0, 9, 15, 15⟩], rfl, (fun z hz => by cases hz), by decide, by decide, cl_21, by decide, rfl⟩, ⟨by decide, Or.inl ⟨3, dL_breakLock_12, rfl, rfl⟩⟩, ?_⟩
      refine e_iconst dL_breakLock_13 ?_
      exact e_iret dL_breakLock_14 (Or.inl rfl) ⟨⟨g1, g2⟩, rfl, g4, by rw [g6], fun z => by rw [g6] at z; exact absurd z (by decide)⟩
    · obtain ⟨g6, g7⟩ := g5
      obtain rfl := Sum.inr.inj g7
      refine ⟨15, 3, 1, ⟨[⟨0, 9, 12, 21⟩], ⟨0, 9, 15, 15⟩, [], rfl, (fun z hz => Or.inr (by
          rcases List.mem_singleton.mp hz with rfl
          exact ⟨by decide, _, cl_21, by decide, by decide⟩)), by decide, by decide, cl_15, by decide, rfl⟩, ⟨by decide, Or.inl ⟨3, dL_breakLock_15, rfl, rfl⟩⟩, ?_⟩
      refine e_iconst dL_breakLock_16 ?_
      exact e_iret dL_breakLock_17 (Or.inl rfl) ⟨⟨g1, g2⟩, rfl, g4, by rw [g6], fun z => by rw [g6] at z; exact absurd z (by decide)⟩
    · obtain ⟨g6, g7⟩ := g5
      have t9 := t41_breakLock M p0
      omega
set_option maxRecDepth 20000 in
set_option maxHeartbeats 4000000 in
theorem w_hold {K : q_K} {B M C : q_S} {a b : Nat} {k : Int} (hT : K a = (11, 0, 100)) (hb : K b = (21, 1, 280)) (hR : RC M C) (h : OKC M k) (hk : 0 ≤ k ∧ k < 512) (hB : q_tb K (M 50 16)) {c s : Nat} (hc : 16 ≤ c) (hs : 96 ≤ s) {p0 p1 p2 : Int} (hp0 : q_iI p0) (hp1 : q_iI p1) (hp2 : q_iI p2) : q_E mL_hold 0 [some (q_R a), some (q_I p0), some (q_I p1), some (q_I p2), some (q_R b), none] [] K B C c s (WL (holdF M p0 p1 p2) K B) := by
  have nb := nb_10 h.1.2.2.2.2 hk.2
  have oc := okc_hold h hk p0 p1 p2
  refine e_aload dL_hold_0 rfl ?_
  refine e_iconst dL_hold_2 ?_
  refine e_aload_n dL_hold_3 rfl ?_
  refine e_iload_n dL_hold_4 rfl ?_
  refine e_iload_n dL_hold_5 rfl ?_
  refine e_iload_n dL_hold_6 rfl ?_
  refine e_callVH (ci := 10) (as := [_, _, _]) (c1 := c) (s1 := s) (c2 := 0) (s2 := 0) dL_hold_7 k_X10_hold l_L_65 i_X10_hold v_X10_hold hT (by decide) (by decide) ⟨_, _, rfl⟩ rfl rfl rfl rfl (Nat.le_of_ble_eq_true rfl) ⟨by decide, by decide⟩ (by omega) (by omega) (Nat.le_of_ble_eq_true rfl) (by decide) (c_10_hold hT hR h.1.2.2.1 h.1.1 hB (c := c) (s := s) (by omega) (by omega) hp0 hp1 hp2 ) (fun o K2 M2 C2 g => ?_) (fun E K2 M2 C2 g => ?_)
  · obtain ⟨⟨g1, g2⟩, g3, g4, g5⟩ := g
    have g6 : (holdF M p0 p1 p2).2 50 41 = 0 ∧ o = some (q_I (holdF M p0 p1 p2).1) := by
      rcases g5 with g5 | g5 | g5 | g5
      · exact ⟨g5.1, Sum.inl.inj g5.2⟩
      · exact absurd g5.2 (by intro z; cases z)
      · exact absurd g5.2 (by intro z; cases z)
      · exact absurd g5.2 (by intro z; cases z)
    obtain ⟨g7, rfl⟩ := g6
    subst g3
    have hb9 := xt_get g1 hb (by decide)
    refine e_i2l dL_hold_10 oc.2 ?_
    refine c_last (by decide) dL_hold_11 hb9 (by decide) (by decide) (by decide) ⟨by have := oc.2.1; omega, by have := oc.2.2; omega⟩ ?_
    refine e_goto (tgt := 27) dL_hold_12 (by decide) ?_
    refine e_iconst dL_hold_27 ?_
    exact e_iret dL_hold_28 (Or.inl rfl) ⟨⟨g1, g2⟩, rfl, rc_280 g4 (rs_16 oc.1.1.1) (fun t j y => us_ne y), by rw [g7], fun _ => us_eq⟩
  · obtain ⟨⟨g1, g2⟩, g3, g4, g5⟩ := g
    subst g3
    rcases g5 with g5 | g5 | g5 | g5
    · exact absurd g5.2 (by intro z; cases z)
    · obtain ⟨g6, g7⟩ := g5
      obtain rfl := Sum.inr.inj g7
      refine ⟨15, 5, 2, ⟨[], ⟨0, 12, 15, 21⟩, [⟨0, 12, 19, 13⟩, ⟨0, 12, 23, 15⟩], rfl, (fun z hz => by cases hz), by decide, by decide, cl_21, by decide, rfl⟩, ⟨by decide, Or.inr ⟨dL_hold_15, rfl⟩⟩, ?_⟩
      refine e_iconst dL_hold_17 ?_
      exact e_iret dL_hold_18 (Or.inl rfl) ⟨⟨g1, g2⟩, rfl, g4, by rw [g6], fun z => by rw [g6] at z; exact absurd z (by decide)⟩
    · obtain ⟨g6, g7⟩ := g5
      obtain rfl := Sum.inr.inj g7
      refine ⟨19, 5, 2, ⟨[⟨0, 12, 15, 21⟩], ⟨0, 12, 19, 13⟩, [⟨0, 12, 23, 15⟩], rfl, (fun z hz => Or.inr (by
          rcases List.mem_singleton.mp hz with rfl
          exact ⟨by decide, _, cl_21, by decide, by decide⟩)), by decide, by decide, cl_13, by decide, rfl⟩, ⟨by decide, Or.inr ⟨dL_hold_19, rfl⟩⟩, ?_⟩
      refine e_iconst dL_hold_21 ?_
      exact e_iret dL_hold_22 (Or.inl rfl) ⟨⟨g1, g2⟩, rfl, g4, by rw [g6], fun z => by rw [g6] at z; exact absurd z (by decide)⟩
    · obtain ⟨g6, g7⟩ := g5
      obtain rfl := Sum.inr.inj g7
      refine ⟨23, 5, 2, ⟨[⟨0, 12, 15, 21⟩, ⟨0, 12, 19, 13⟩], ⟨0, 12, 23, 15⟩, [], rfl, (fun z hz => Or.inr (by
          rcases List.mem_cons.mp hz with rfl | hz
          · exact ⟨by decide, _, cl_21, by decide, by decide⟩
          · rcases List.mem_singleton.mp hz with rfl
            exact ⟨by decide, _, cl_13, by decide, by decide⟩)), by decide, by decide, cl_15, by decide, rfl⟩, ⟨by decide, Or.inr ⟨dL_hold_23, rfl⟩⟩, ?_⟩
      refine e_iconst dL_hold_25 ?_
      exact e_iret dL_hold_26 (Or.inl rfl) ⟨⟨g1, g2⟩, rfl, g4, by rw [g6], fun z => by rw [g6] at z; exact absurd z (by decide)⟩
set_option maxRecDepth 20000 in
set_option maxHeartbeats 4000000 in
theorem w_restore {K : q_K} {B M C : q_S} {a b : Nat} {k : Int} (hT : K a = (11, 0, 100)) (hb : K b = (21, 1, 280)) (hR : RC M C) (h : OKC M k) (hk : 0 ≤ k ∧ k < 512) (hB : q_tb K (M 50 16)) {c s : Nat} (hc : 16 ≤ c) (hs : 96 ≤ s) {p0 p1 : Int} (hp0 : q_iI p0) (hp1 : q_iI p1) : q_E mL_restore 0 [some (q_R a), some (q_I p0), some (q_I p1), some (q_R b), none] [] K B C c s (WL (restoreF M p0 p1) K B) := by
  have nb := nb_10 h.1.2.2.2.2 hk.2
  have oc := okc_restore h hk p0 p1
  refine e_aload_n dL_restore_0 rfl ?_
  refine e_iconst dL_restore_1 ?_
  refine e_aload_n dL_restore_2 rfl ?_
  refine e_iload_n dL_restore_3 rfl ?_
  refine e_iload_n dL_restore_4 rfl ?_
  refine e_callVH (ci := 10) (as := [_, _]) (c1 := c) (s1 := s) (c2 := 0) (s2 := 0) dL_restore_5 k_X10_restore l_L_68 i_X10_restore v_X10_restore hT (by decide) (by decide) ⟨_, _, rfl⟩ rfl rfl rfl rfl (Nat.le_of_ble_eq_true rfl) ⟨by decide, by decide⟩ (by omega) (by omega) (Nat.le_of_ble_eq_true rfl) (by decide) (c_10_restore hT hR h.1.2.2.1 h.1.1 hB (c := c) (s := s) (by omega) (by omega) hp0 hp1 ) (fun o K2 M2 C2 g => ?_) (fun E K2 M2 C2 g => ?_)
  · obtain ⟨⟨g1, g2⟩, g3, g4, g5⟩ := g
    have g6 : (restoreF M p0 p1).2 50 41 = 0 ∧ o = some (q_I (restoreF M p0 p1).1) := by
      rcases g5 with g5 | g5 | g5 | g5
      · exact ⟨g5.1, Sum.inl.inj g5.2⟩
      · exact absurd g5.2 (by intro z; cases z)
      · exact absurd g5.2 (by intro z; cases z)
      · exact absurd g5.2 (by intro z; cases z)
    obtain ⟨g7, rfl⟩ := g6
    subst g3
    have hb9 := xt_get g1 hb (by decide)
    refine e_i2l dL_restore_8 oc.2 ?_
    refine c_last (by decide) dL_restore_9 hb9 (by decide) (by decide) (by decide) ⟨by have := oc.2.1; omega, by have := oc.2.2; omega⟩ ?_
    refine e_goto (tgt := 25) dL_restore_10 (by decide) ?_
    refine e_iconst dL_restore_25 ?_
    exact e_iret dL_restore_26 (Or.inl rfl) ⟨⟨g1, g2⟩, rfl, rc_280 g4 (rs_16 oc.1.1.1) (fun t j y => us_ne y), by rw [g7], fun _ => us_eq⟩
  · obtain ⟨⟨g1, g2⟩, g3, g4, g5⟩ := g
    subst g3
    rcases g5 with g5 | g5 | g5 | g5
    · exact absurd g5.2 (by intro z; cases z)
    · obtain ⟨g6, g7⟩ := g5
      obtain rfl := Sum.inr.inj g7
      refine ⟨13, 4, 2, ⟨[], ⟨0, 10, 13, 21⟩, [⟨0, 10, 17, 13⟩, ⟨0, 10, 21, 15⟩], rfl, (fun z hz => by cases hz), by decide, by decide, cl_21, by decide, rfl⟩, ⟨by decide, Or.inr ⟨dL_restore_13, rfl⟩⟩, ?_⟩
      refine e_iconst dL_restore_15 ?_
      exact e_iret dL_restore_16 (Or.inl rfl) ⟨⟨g1, g2⟩, rfl, g4, by rw [g6], fun z => by rw [g6] at z; exact absurd z (by decide)⟩
    · obtain ⟨g6, g7⟩ := g5
      obtain rfl := Sum.inr.inj g7
      refine ⟨17, 4, 2, ⟨[⟨0, 10, 13, 21⟩], ⟨0, 10, 17, 13⟩, [⟨0, 10, 21, 15⟩], rfl, (fun z hz => Or.inr (by
          rcases List.mem_singleton.mp hz with rfl
          exact ⟨by decide, _, cl_21, by decide, by decide⟩)), by decide, by decide, cl_13, by decide, rfl⟩, ⟨by decide, Or.inr ⟨dL_restore_17, rfl⟩⟩, ?_⟩
      refine e_iconst dL_restore_19 ?_
      exact e_iret dL_restore_20 (Or.inl rfl) ⟨⟨g1, g2⟩, rfl, g4, by rw [g6], fun z => by rw [g6] at z; exact absurd z (by decide)⟩
    · obtain ⟨g6, g7⟩ := g5
      obtain rfl := Sum.inr.inj g7
      refine ⟨21, 4, 2, ⟨[⟨0, 10, 13, 21⟩, ⟨0, 10, 17, 13⟩], ⟨0, 10, 21, 15⟩, [], rfl, (fun z hz => Or.inr (by
          rcases List.mem_cons.mp hz with rfl | hz
          · exact ⟨by decide, _, cl_21, by decide, by decide⟩
          · rcases List.mem_singleton.mp hz with rfl
            exact ⟨by decide, _, cl_13, by decide, by decide⟩)), by decide, by decide, cl_15, by decide, rfl⟩, ⟨by decide, Or.inr ⟨dL_restore_21, rfl⟩⟩, ?_⟩
      refine e_iconst dL_restore_23 ?_
      exact e_iret dL_restore_24 (Or.inl rfl) ⟨⟨g1, g2⟩, rfl, g4, by rw [g6], fun z => by rw [g6] at z; exact absurd z (by decide)⟩
set_option maxRecDepth 20000 in
set_option maxHeartbeats 4000000 in
theorem w_restoreFolder {K : q_K} {B M C : q_S} {a b : Nat} {k : Int} (hT : K a = (11, 0, 100)) (hb : K b = (21, 1, 280)) (hR : RC M C) (h : OKC M k) (hk : 0 ≤ k ∧ k < 512) (hB : q_tb K (M 50 16)) {c s : Nat} (hc : 16 ≤ c) (hs : 96 ≤ s) {p0 p1 : Int} (hp0 : q_iI p0) (hp1 : q_iI p1) : q_E mL_restoreFolder 0 [some (q_R a), some (q_I p0), some (q_I p1), some (q_R b), none] [] K B C c s (WL (restoreFolderF M p0 p1) K B) := by
  have nb := nb_10 h.1.2.2.2.2 hk.2
  have oc := okc_restoreFolder h hk p0 p1
  refine e_aload_n dL_restoreFolder_0 rfl ?_
  refine e_iconst dL_restoreFolder_1 ?_
  refine e_aload_n dL_restoreFolder_2 rfl ?_
  refine e_iload_n dL_restoreFolder_3 rfl ?_
  refine e_iload_n dL_restoreFolder_4 rfl ?_
  refine e_callVH (ci := 10) (as := [_, _]) (c1 := c) (s1 := s) (c2 := 0) (s2 := 0) dL_restoreFolder_5 k_X10_restoreFolder l_L_71 i_X10_restoreFolder v_X10_restoreFolder hT (by decide) (by decide) ⟨_, _, rfl⟩ rfl rfl rfl rfl (Nat.le_of_ble_eq_true rfl) ⟨by decide, by decide⟩ (by omega) (by omega) (Nat.le_of_ble_eq_true rfl) (by decide) (c_10_restoreFolder hT hR h.1.2.2.1 h.1.1 hB (c := c) (s := s) (by omega) (by omega) hp0 hp1 hc hs) (fun o K2 M2 C2 g => ?_) (fun E K2 M2 C2 g => ?_)
  · obtain ⟨⟨g1, g2⟩, g3, g4, g5⟩ := g
    have g6 : (restoreFolderF M p0 p1).2 50 41 = 0 ∧ o = some (q_I (restoreFolderF M p0 p1).1) := by
      rcases g5 with g5 | g5 | g5 | g5
      · exact ⟨g5.1, Sum.inl.inj g5.2⟩
      · exact absurd g5.2 (by intro z; cases z)
      · exact absurd g5.2 (by intro z; cases z)
      · exact absurd g5.2 (by intro z; cases z)
    obtain ⟨g7, rfl⟩ := g6
    subst g3
    have hb9 := xt_get g1 hb (by decide)
    refine e_i2l dL_restoreFolder_8 oc.2 ?_
    refine c_last (by decide) dL_restoreFolder_9 hb9 (by decide) (by decide) (by decide) ⟨by have := oc.2.1; omega, by have := oc.2.2; omega⟩ ?_
    refine e_goto (tgt := 25) dL_restoreFolder_10 (by decide) ?_
    refine e_iconst dL_restoreFolder_25 ?_
    exact e_iret dL_restoreFolder_26 (Or.inl rfl) ⟨⟨g1, g2⟩, rfl, rc_280 g4 (rs_16 oc.1.1.1) (fun t j y => us_ne y), by rw [g7], fun _ => us_eq⟩
  · obtain ⟨⟨g1, g2⟩, g3, g4, g5⟩ := g
    subst g3
    rcases g5 with g5 | g5 | g5 | g5
    · exact absurd g5.2 (by intro z; cases z)
    · obtain ⟨g6, g7⟩ := g5
      obtain rfl := Sum.inr.inj g7
      refine ⟨13, 4, 2, ⟨[], ⟨0, 10, 13, 21⟩, [⟨0, 10, 17, 13⟩, ⟨0, 10, 21, 15⟩], rfl, (fun z hz => by cases hz), by decide, by decide, cl_21, by decide, rfl⟩, ⟨by decide, Or.inr ⟨dL_restoreFolder_13, rfl⟩⟩, ?_⟩
      refine e_iconst dL_restoreFolder_15 ?_
      exact e_iret dL_restoreFolder_16 (Or.inl rfl) ⟨⟨g1, g2⟩, rfl, g4, by rw [g6], fun z => by rw [g6] at z; exact absurd z (by decide)⟩
    · obtain ⟨g6, g7⟩ := g5
      obtain rfl := Sum.inr.inj g7
      refine ⟨17, 4, 2, ⟨[⟨0, 10, 13, 21⟩], ⟨0, 10, 17, 13⟩, [⟨0, 10, 21, 15⟩], rfl, (fun z hz => Or.inr (by
          rcases List.mem_singleton.mp hz with rfl
          exact ⟨by decide, _, cl_21, by decide, by decide⟩)), by decide, by decide, cl_13, by decide, rfl⟩, ⟨by decide, Or.inr ⟨dL_restoreFolder_17, rfl⟩⟩, ?_⟩
      refine e_iconst dL_restoreFolder_19 ?_
      exact e_iret dL_restoreFolder_20 (Or.inl rfl) ⟨⟨g1, g2⟩, rfl, g4, by rw [g6], fun z => by rw [g6] at z; exact absurd z (by decide)⟩
    · obtain ⟨g6, g7⟩ := g5
      obtain rfl := Sum.inr.inj g7
      refine ⟨21, 4, 2, ⟨[⟨0, 10, 13, 21⟩, ⟨0, 10, 17, 13⟩], ⟨0, 10, 21, 15⟩, [], rfl, (fun z hz => Or.inr (by
          rcases List.mem_cons.mp hz with rfl | hz
          · exact ⟨by decide, _, cl_21, by decide, by decide⟩
          · rcases List.mem_singleton.mp hz with rfl
            exact ⟨by decide, _, cl_13, by decide, by decide⟩)), by decide, by decide, cl_15, by decide, rfl⟩, ⟨by decide, Or.inr ⟨dL_restoreFolder_21, rfl⟩⟩, ?_⟩
      refine e_iconst dL_restoreFolder_23 ?_
      exact e_iret dL_restoreFolder_24 (Or.inl rfl) ⟨⟨g1, g2⟩, rfl, g4, by rw [g6], fun z => by rw [g6] at z; exact absurd z (by decide)⟩
set_option maxRecDepth 20000 in
set_option maxHeartbeats 4000000 in
theorem w_damage {K : q_K} {B M C : q_S} {a b : Nat} {k : Int} (hT : K a = (11, 0, 100)) (hb : K b = (21, 1, 280)) (hR : RC M C) (h : OKC M k) (hk : 0 ≤ k ∧ k < 512) (hB : q_tb K (M 50 16)) {c s : Nat} (hc : 16 ≤ c) (hs : 96 ≤ s) {p0 : Int} (hp0 : q_iI p0) : q_E mL_damage 0 [some (q_R a), some (q_I p0), some (q_R b), none] [] K B C c s (WL (damageF M p0) K B) := by
  have nb := nb_10 h.1.2.2.2.2 hk.2
  have oc := okc_damage h hk p0
  refine e_aload_n dL_damage_0 rfl ?_
  refine e_iconst dL_damage_1 ?_
  refine e_aload_n dL_damage_2 rfl ?_
  refine e_iload_n dL_damage_3 rfl ?_
  refine e_callVH (ci := 10) (as := [_]) (c1 := c) (s1 := s) (c2 := 0) (s2 := 0) dL_damage_4 k_X10_damage l_L_74 i_X10_damage v_X10_damage hT (by decide) (by decide) ⟨_, _, rfl⟩ rfl rfl rfl rfl (Nat.le_of_ble_eq_true rfl) ⟨by decide, by decide⟩ (by omega) (by omega) (Nat.le_of_ble_eq_true rfl) (by decide) (c_10_damage hT hR h.1.2.2.1 h.1.1 hB (c := c) (s := s) (by omega) (by omega) hp0 ) (fun o K2 M2 C2 g => ?_) (fun E K2 M2 C2 g => ?_)
  · obtain ⟨⟨g1, g2⟩, g3, g4, g5⟩ := g
    have g6 : (damageF M p0).2 50 41 = 0 ∧ o = some (q_I (damageF M p0).1) := by
      rcases g5 with g5 | g5 | g5 | g5
      · exact ⟨g5.1, Sum.inl.inj g5.2⟩
      · exact absurd g5.2 (by intro z; cases z)
      · exact absurd g5.2 (by intro z; cases z)
      · exact absurd g5.2 (by intro z; cases z)
    obtain ⟨g7, rfl⟩ := g6
    subst g3
    have hb9 := xt_get g1 hb (by decide)
    refine e_i2l dL_damage_7 oc.2 ?_
    refine c_last (by decide) dL_damage_8 hb9 (by decide) (by decide) (by decide) ⟨by have := oc.2.1; omega, by have := oc.2.2; omega⟩ ?_
    refine e_goto (tgt := 15) dL_damage_9 (by decide) ?_
    refine e_iconst dL_damage_15 ?_
    exact e_iret dL_damage_16 (Or.inl rfl) ⟨⟨g1, g2⟩, rfl, rc_280 g4 (rs_16 oc.1.1.1) (fun t j y => us_ne y), by rw [g7], fun _ => us_eq⟩
  · obtain ⟨⟨g1, g2⟩, g3, g4, g5⟩ := g
    subst g3
    rcases g5 with g5 | g5 | g5 | g5
    · exact absurd g5.2 (by intro z; cases z)
    · obtain ⟨g6, g7⟩ := g5
      obtain rfl := Sum.inr.inj g7
      refine ⟨12, 3, 1, ⟨[], ⟨0, 9, 12, 21⟩, [], rfl, (fun z hz => by cases hz), by decide, by decide, cl_21, by decide, rfl⟩, ⟨by decide, Or.inl ⟨3, dL_damage_12, rfl, rfl⟩⟩, ?_⟩
      refine e_iconst dL_damage_13 ?_
      exact e_iret dL_damage_14 (Or.inl rfl) ⟨⟨g1, g2⟩, rfl, g4, by rw [g6], fun z => by rw [g6] at z; exact absurd z (by decide)⟩
    · obtain ⟨g6, g7⟩ := g5
      have t9 := t41_damage M p0
      omega
    · obtain ⟨g6, g7⟩ := g5
      have t9 := t41_damage M p0
      omega
set_option maxRecDepth 20000 in
set_option maxHeartbeats 4000000 in
theorem w_follow {K : q_K} {B M C : q_S} {a b : Nat} {k : Int} (hT : K a = (11, 0, 100)) (hb : K b = (21, 1, 280)) (hR : RC M C) (h : OKC M k) (hk : 0 ≤ k ∧ k < 512) (hB : q_tb K (M 50 16)) {c s : Nat} (hc : 16 ≤ c) (hs : 96 ≤ s) {p0 : Int} (hp0 : q_iI p0) : q_E mL_follow 0 [some (q_R a), some (q_I p0), some (q_R b), none] [] K B C c s (WL (followF M p0) K B) := by
  have nb := nb_10 h.1.2.2.2.2 hk.2
  have oc := okc_follow h hk p0
  refine e_aload_n dL_follow_0 rfl ?_
  refine e_iconst dL_follow_1 ?_
  refine e_aload_n dL_follow_2 rfl ?_
  refine e_iload_n dL_follow_3 rfl ?_
  refine e_callVH (ci := 10) (as := [_]) (c1 := c) (s1 := s) (c2 := 0) (s2 := 0) dL_follow_4 k_X10_follow l_L_77 i_X10_follow v_X10_follow hT (by decide) (by decide) ⟨_, _, rfl⟩ rfl rfl rfl rfl (Nat.le_of_ble_eq_true rfl) ⟨by decide, by decide⟩ (by omega) (by omega) (Nat.le_of_ble_eq_true rfl) (by decide) (c_10_follow hT hR h.1.2.2.1 h.1.1 hB (c := c) (s := s) (by omega) (by omega) hp0 h.1.2.2.2.2.1.1) (fun o K2 M2 C2 g => ?_) (fun E K2 M2 C2 g => ?_)
  · obtain ⟨⟨g1, g2⟩, g3, g4, g5⟩ := g
    have g6 : (followF M p0).2 50 41 = 0 ∧ o = some (q_I (followF M p0).1) := by
      rcases g5 with g5 | g5 | g5 | g5
      · exact ⟨g5.1, Sum.inl.inj g5.2⟩
      · exact absurd g5.2 (by intro z; cases z)
      · exact absurd g5.2 (by intro z; cases z)
      · exact absurd g5.2 (by intro z; cases z)
    obtain ⟨g7, rfl⟩ := g6
    subst g3
    have hb9 := xt_get g1 hb (by decide)
    refine e_i2l dL_follow_7 oc.2 ?_
    refine c_last (by decide) dL_follow_8 hb9 (by decide) (by decide) (by decide) ⟨by have := oc.2.1; omega, by have := oc.2.2; omega⟩ ?_
    refine e_goto (tgt := 15) dL_follow_9 (by decide) ?_
    refine e_iconst dL_follow_15 ?_
    exact e_iret dL_follow_16 (Or.inl rfl) ⟨⟨g1, g2⟩, rfl, rc_280 g4 (rs_16 oc.1.1.1) (fun t j y => us_ne y), by rw [g7], fun _ => us_eq⟩
  · obtain ⟨⟨g1, g2⟩, g3, g4, g5⟩ := g
    subst g3
    rcases g5 with g5 | g5 | g5 | g5
    · exact absurd g5.2 (by intro z; cases z)
    · obtain ⟨g6, g7⟩ := g5
      obtain rfl := Sum.inr.inj g7
      refine ⟨12, 3, 1, ⟨[], ⟨0, 9, 12, 13⟩, [], rfl, (fun z hz => by cases hz), by decide, by decide, cl_13, by decide, rfl⟩, ⟨by decide, Or.inl ⟨3, dL_follow_12, rfl, rfl⟩⟩, ?_⟩
      refine e_iconst dL_follow_13 ?_
      exact e_iret dL_follow_14 (Or.inl rfl) ⟨⟨g1, g2⟩, rfl, g4, by rw [g6], fun z => by rw [g6] at z; exact absurd z (by decide)⟩
    · obtain ⟨g6, g7⟩ := g5
      have t9 := t41_follow M p0
      omega
    · obtain ⟨g6, g7⟩ := g5
      have t9 := t41_follow M p0
      omega
set_option maxRecDepth 20000 in
set_option maxHeartbeats 4000000 in
theorem w_pass {K : q_K} {B M C : q_S} {a b : Nat} {k : Int} (hT : K a = (11, 0, 100)) (hb : K b = (21, 1, 280)) (hR : RC M C) (h : OKC M k) (hk : 0 ≤ k ∧ k < 512) (hB : q_tb K (M 50 16)) {c s : Nat} (hc : 16 ≤ c) (hs : 96 ≤ s) {p0 : Int} (hp0 : q_iI p0) : q_E mL_pass 0 [some (q_R a), some (q_I p0), some (q_R b), none] [] K B C c s (WL (passF M p0) K B) := by
  have nb := nb_10 h.1.2.2.2.2 hk.2
  have oc := okc_pass h hk p0
  refine e_aload_n dL_pass_0 rfl ?_
  refine e_iconst dL_pass_1 ?_
  refine e_aload_n dL_pass_2 rfl ?_
  refine e_iload_n dL_pass_3 rfl ?_
  refine e_callVH (ci := 10) (as := [_]) (c1 := c) (s1 := s) (c2 := 0) (s2 := 0) dL_pass_4 k_X10_pass l_L_80 i_X10_pass v_X10_pass hT (by decide) (by decide) ⟨_, _, rfl⟩ rfl rfl rfl rfl (Nat.le_of_ble_eq_true rfl) ⟨by decide, by decide⟩ (by omega) (by omega) (Nat.le_of_ble_eq_true rfl) (by decide) (c_10_pass hT hR h.1.2.2.1 h.1.1 hB (c := c) (s := s) (by omega) (by omega) hp0 (by have := nb.1; omega) (by have := (rc_E hR).1; have := nb.2.1; omega)) (fun o K2 M2 C2 g => ?_) (fun E K2 M2 C2 g => ?_)
  · obtain ⟨⟨g1, g2⟩, g3, g4, g5⟩ := g
    have g6 : (passF M p0).2 50 41 = 0 ∧ o = some (q_I (passF M p0).1) := by
      rcases g5 with g5 | g5 | g5 | g5
      · exact ⟨g5.1, Sum.inl.inj g5.2⟩
      · exact absurd g5.2 (by intro z; cases z)
      · exact absurd g5.2 (by intro z; cases z)
      · exact absurd g5.2 (by intro z; cases z)
    obtain ⟨g7, rfl⟩ := g6
    subst g3
    have hb9 := xt_get g1 hb (by decide)
    refine e_i2l dL_pass_7 oc.2 ?_
    refine c_last (by decide) dL_pass_8 hb9 (by decide) (by decide) (by decide) ⟨by have := oc.2.1; omega, by have := oc.2.2; omega⟩ ?_
    refine e_goto (tgt := 18) dL_pass_9 (by decide) ?_
    refine e_iconst dL_pass_18 ?_
    exact e_iret dL_pass_19 (Or.inl rfl) ⟨⟨g1, g2⟩, rfl, rc_280 g4 (rs_16 oc.1.1.1) (fun t j y => us_ne y), by rw [g7], fun _ => us_eq⟩
  · obtain ⟨⟨g1, g2⟩, g3, g4, g5⟩ := g
    subst g3
    rcases g5 with g5 | g5 | g5 | g5
    · exact absurd g5.2 (by intro z; cases z)
    · obtain ⟨g6, g7⟩ := g5
      obtain rfl := Sum.inr.inj g7
      refine ⟨12, 3, 1, ⟨[], ⟨0, 9, 12, 13⟩, [⟨0, 9, 15, 15⟩], rfl, (fun z hz => by cases hz), by decide, by decide, cl_13, by decide, rfl⟩, ⟨by decide, Or.inl ⟨3, dL_pass_12, rfl, rfl⟩⟩, ?_⟩
      refine e_iconst dL_pass_13 ?_
      exact e_iret dL_pass_14 (Or.inl rfl) ⟨⟨g1, g2⟩, rfl, g4, by rw [g6], fun z => by rw [g6] at z; exact absurd z (by decide)⟩
    · obtain ⟨g6, g7⟩ := g5
      obtain rfl := Sum.inr.inj g7
      refine ⟨15, 3, 1, ⟨[⟨0, 9, 12, 13⟩], ⟨0, 9, 15, 15⟩, [], rfl, (fun z hz => Or.inr (by
          rcases List.mem_singleton.mp hz with rfl
          exact ⟨by decide, _, cl_13, by decide, by decide⟩)), by decide, by decide, cl_15, by decide, rfl⟩, ⟨by decide, Or.inl ⟨3, dL_pass_15, rfl, rfl⟩⟩, ?_⟩
      refine e_iconst dL_pass_16 ?_
      exact e_iret dL_pass_17 (Or.inl rfl) ⟨⟨g1, g2⟩, rfl, g4, by rw [g6], fun z => by rw [g6] at z; exact absurd z (by decide)⟩
    · obtain ⟨g6, g7⟩ := g5
      have t9 := t41_pass M p0
      omega
set_option maxRecDepth 20000 in
set_option maxHeartbeats 4000000 in
theorem w_stateOf {K : q_K} {B M C : q_S} {a b : Nat} {k : Int} (hT : K a = (11, 0, 100)) (hb : K b = (21, 1, 280)) (hR : RC M C) (h : OKC M k) (hk : 0 ≤ k ∧ k < 512) (hB : q_tb K (M 50 16)) {c s : Nat} (hc : 16 ≤ c) (hs : 96 ≤ s) {p0 p1 : Int} (hp0 : q_iI p0) (hp1 : q_iI p1) : q_E mL_stateOf 0 [some (q_R a), some (q_I p0), some (q_I p1), some (q_R b), none] [] K B C c s (WL (stateOfF M p0 p1) K B) := by
  have nb := nb_10 h.1.2.2.2.2 hk.2
  have oc := okc_stateOf h p0 p1
  refine e_aload_n dL_stateOf_0 rfl ?_
  refine e_iconst dL_stateOf_1 ?_
  refine e_aload_n dL_stateOf_2 rfl ?_
  refine e_iload_n dL_stateOf_3 rfl ?_
  refine e_iload_n dL_stateOf_4 rfl ?_
  refine e_callVH (ci := 10) (as := [_, _]) (c1 := c) (s1 := s) (c2 := 0) (s2 := 0) dL_stateOf_5 k_X10_stateOf l_L_83 i_X10_stateOf v_X10_stateOf hT (by decide) (by decide) ⟨_, _, rfl⟩ rfl rfl rfl rfl (Nat.le_of_ble_eq_true rfl) ⟨by decide, by decide⟩ (by omega) (by omega) (Nat.le_of_ble_eq_true rfl) (by decide) (c_10_stateOf hT hR h.1.2.2.1 h.1.1 hB (c := c) (s := s) (by omega) (by omega) hp0 hp1 ) (fun o K2 M2 C2 g => ?_) (fun E K2 M2 C2 g => ?_)
  · obtain ⟨⟨g1, g2⟩, g3, g4, g5⟩ := g
    have g6 : (stateOfF M p0 p1).2 50 41 = 0 ∧ o = some (q_I (stateOfF M p0 p1).1) := by
      rcases g5 with g5 | g5 | g5 | g5
      · exact ⟨g5.1, Sum.inl.inj g5.2⟩
      · exact absurd g5.2 (by intro z; cases z)
      · exact absurd g5.2 (by intro z; cases z)
      · exact absurd g5.2 (by intro z; cases z)
    obtain ⟨g7, rfl⟩ := g6
    subst g3
    have hb9 := xt_get g1 hb (by decide)
    refine e_i2l dL_stateOf_8 oc.2 ?_
    refine c_last (by decide) dL_stateOf_9 hb9 (by decide) (by decide) (by decide) ⟨by have := oc.2.1; omega, by have := oc.2.2; omega⟩ ?_
    refine e_goto (tgt := 17) dL_stateOf_10 (by decide) ?_
    refine e_iconst dL_stateOf_17 ?_
    exact e_iret dL_stateOf_18 (Or.inl rfl) ⟨⟨g1, g2⟩, rfl, rc_280 g4 (rs_16 oc.1.1.1) (fun t j y => us_ne y), by rw [g7], fun _ => us_eq⟩
  · obtain ⟨⟨g1, g2⟩, g3, g4, g5⟩ := g
    subst g3
    rcases g5 with g5 | g5 | g5 | g5
    · exact absurd g5.2 (by intro z; cases z)
    · obtain ⟨g6, g7⟩ := g5
      obtain rfl := Sum.inr.inj g7
      refine ⟨13, 4, 2, ⟨[], ⟨0, 10, 13, 21⟩, [], rfl, (fun z hz => by cases hz), by decide, by decide, cl_21, by decide, rfl⟩, ⟨by decide, Or.inr ⟨dL_stateOf_13, rfl⟩⟩, ?_⟩
      refine e_iconst dL_stateOf_15 ?_
      exact e_iret dL_stateOf_16 (Or.inl rfl) ⟨⟨g1, g2⟩, rfl, g4, by rw [g6], fun z => by rw [g6] at z; exact absurd z (by decide)⟩
    · obtain ⟨g6, g7⟩ := g5
      have t9 := t41_stateOf M p0 p1
      omega
    · obtain ⟨g6, g7⟩ := g5
      have t9 := t41_stateOf M p0 p1
      omega
set_option maxRecDepth 20000 in
set_option maxHeartbeats 4000000 in
theorem w_folderOf {K : q_K} {B M C : q_S} {a b : Nat} {k : Int} (hT : K a = (11, 0, 100)) (hb : K b = (21, 1, 280)) (hR : RC M C) (h : OKC M k) (hk : 0 ≤ k ∧ k < 512) (hB : q_tb K (M 50 16)) {c s : Nat} (hc : 16 ≤ c) (hs : 96 ≤ s) {p0 p1 : Int} (hp0 : q_iI p0) (hp1 : q_iI p1) : q_E mL_folderOf 0 [some (q_R a), some (q_I p0), some (q_I p1), some (q_R b), none] [] K B C c s (WL (folderOfF M p0 p1) K B) := by
  have nb := nb_10 h.1.2.2.2.2 hk.2
  have oc := okc_folderOf h p0 p1
  refine e_aload_n dL_folderOf_0 rfl ?_
  refine e_iconst dL_folderOf_1 ?_
  refine e_aload_n dL_folderOf_2 rfl ?_
  refine e_iload_n dL_folderOf_3 rfl ?_
  refine e_iload_n dL_folderOf_4 rfl ?_
  refine e_callVH (ci := 10) (as := [_, _]) (c1 := c) (s1 := s) (c2 := 0) (s2 := 0) dL_folderOf_5 k_X10_folderOf l_L_86 i_X10_folderOf v_X10_folderOf hT (by decide) (by decide) ⟨_, _, rfl⟩ rfl rfl rfl rfl (Nat.le_of_ble_eq_true rfl) ⟨by decide, by decide⟩ (by omega) (by omega) (Nat.le_of_ble_eq_true rfl) (by decide) (c_10_folderOf hT hR h.1.2.2.1 h.1.1 hB (c := c) (s := s) (by omega) (by omega) hp0 hp1 ) (fun o K2 M2 C2 g => ?_) (fun E K2 M2 C2 g => ?_)
  · obtain ⟨⟨g1, g2⟩, g3, g4, g5⟩ := g
    have g6 : (folderOfF M p0 p1).2 50 41 = 0 ∧ o = some (q_I (folderOfF M p0 p1).1) := by
      rcases g5 with g5 | g5 | g5 | g5
      · exact ⟨g5.1, Sum.inl.inj g5.2⟩
      · exact absurd g5.2 (by intro z; cases z)
      · exact absurd g5.2 (by intro z; cases z)
      · exact absurd g5.2 (by intro z; cases z)
    obtain ⟨g7, rfl⟩ := g6
    subst g3
    have hb9 := xt_get g1 hb (by decide)
    refine e_i2l dL_folderOf_8 oc.2 ?_
    refine c_last (by decide) dL_folderOf_9 hb9 (by decide) (by decide) (by decide) ⟨by have := oc.2.1; omega, by have := oc.2.2; omega⟩ ?_
    refine e_goto (tgt := 17) dL_folderOf_10 (by decide) ?_
    refine e_iconst dL_folderOf_17 ?_
    exact e_iret dL_folderOf_18 (Or.inl rfl) ⟨⟨g1, g2⟩, rfl, rc_280 g4 (rs_16 oc.1.1.1) (fun t j y => us_ne y), by rw [g7], fun _ => us_eq⟩
  · obtain ⟨⟨g1, g2⟩, g3, g4, g5⟩ := g
    subst g3
    rcases g5 with g5 | g5 | g5 | g5
    · exact absurd g5.2 (by intro z; cases z)
    · obtain ⟨g6, g7⟩ := g5
      obtain rfl := Sum.inr.inj g7
      refine ⟨13, 4, 2, ⟨[], ⟨0, 10, 13, 21⟩, [], rfl, (fun z hz => by cases hz), by decide, by decide, cl_21, by decide, rfl⟩, ⟨by decide, Or.inr ⟨dL_folderOf_13, rfl⟩⟩, ?_⟩
      refine e_iconst dL_folderOf_15 ?_
      exact e_iret dL_folderOf_16 (Or.inl rfl) ⟨⟨g1, g2⟩, rfl, g4, by rw [g6], fun z => by rw [g6] at z; exact absurd z (by decide)⟩
    · obtain ⟨g6, g7⟩ := g5
      have t9 := t41_folderOf M p0 p1
      omega
    · obtain ⟨g6, g7⟩ := g5
      have t9 := t41_folderOf M p0 p1
      omega
set_option maxRecDepth 20000 in
set_option maxHeartbeats 4000000 in
theorem w_numberAt {K : q_K} {B M C : q_S} {a b : Nat} {k : Int} (hT : K a = (11, 0, 100)) (hb : K b = (21, 1, 280)) (hR : RC M C) (h : OKC M k) (hk : 0 ≤ k ∧ k < 512) (hB : q_tb K (M 50 16)) {c s : Nat} (hc : 16 ≤ c) (hs : 96 ≤ s) {p0 p1 p2 : Int} (hp0 : q_iI p0) (hp1 : q_iI p1) (hp2 : q_iI p2) : q_E mL_numberAt 0 [some (q_R a), some (q_I p0), some (q_I p1), some (q_I p2), some (q_R b), none] [] K B C c s (WL (numberAtF M p0 p1 p2) K B) := by
  have nb := nb_10 h.1.2.2.2.2 hk.2
  have oc := okc_numberAt h p0 p1 p2
  refine e_aload dL_numberAt_0 rfl ?_
  refine e_iconst dL_numberAt_2 ?_
  refine e_aload_n dL_numberAt_3 rfl ?_
  refine e_iload_n dL_numberAt_4 rfl ?_
  refine e_iload_n dL_numberAt_5 rfl ?_
  refine e_iload_n dL_numberAt_6 rfl ?_
  refine e_callVH (ci := 10) (as := [_, _, _]) (c1 := c) (s1 := s) (c2 := 0) (s2 := 0) dL_numberAt_7 k_X10_numberAt l_L_89 i_X10_numberAt v_X10_numberAt hT (by decide) (by decide) ⟨_, _, rfl⟩ rfl rfl rfl rfl (Nat.le_of_ble_eq_true rfl) ⟨by decide, by decide⟩ (by omega) (by omega) (Nat.le_of_ble_eq_true rfl) (by decide) (c_10_numberAt hT hR h.1.2.2.1 h.1.1 hB (c := c) (s := s) (by omega) (by omega) hp0 hp1 hp2 ) (fun o K2 M2 C2 g => ?_) (fun E K2 M2 C2 g => ?_)
  · obtain ⟨⟨g1, g2⟩, g3, g4, g5⟩ := g
    have g6 : (numberAtF M p0 p1 p2).2 50 41 = 0 ∧ o = some (q_I (numberAtF M p0 p1 p2).1) := by
      rcases g5 with g5 | g5 | g5 | g5
      · exact ⟨g5.1, Sum.inl.inj g5.2⟩
      · exact absurd g5.2 (by intro z; cases z)
      · exact absurd g5.2 (by intro z; cases z)
      · exact absurd g5.2 (by intro z; cases z)
    obtain ⟨g7, rfl⟩ := g6
    subst g3
    have hb9 := xt_get g1 hb (by decide)
    refine e_i2l dL_numberAt_10 oc.2 ?_
    refine c_last (by decide) dL_numberAt_11 hb9 (by decide) (by decide) (by decide) ⟨by have := oc.2.1; omega, by have := oc.2.2; omega⟩ ?_
    refine e_goto (tgt := 19) dL_numberAt_12 (by decide) ?_
    refine e_iconst dL_numberAt_19 ?_
    exact e_iret dL_numberAt_20 (Or.inl rfl) ⟨⟨g1, g2⟩, rfl, rc_280 g4 (rs_16 oc.1.1.1) (fun t j y => us_ne y), by rw [g7], fun _ => us_eq⟩
  · obtain ⟨⟨g1, g2⟩, g3, g4, g5⟩ := g
    subst g3
    rcases g5 with g5 | g5 | g5 | g5
    · exact absurd g5.2 (by intro z; cases z)
    · obtain ⟨g6, g7⟩ := g5
      obtain rfl := Sum.inr.inj g7
      refine ⟨15, 5, 2, ⟨[], ⟨0, 12, 15, 21⟩, [], rfl, (fun z hz => by cases hz), by decide, by decide, cl_21, by decide, rfl⟩, ⟨by decide, Or.inr ⟨dL_numberAt_15, rfl⟩⟩, ?_⟩
      refine e_iconst dL_numberAt_17 ?_
      exact e_iret dL_numberAt_18 (Or.inl rfl) ⟨⟨g1, g2⟩, rfl, g4, by rw [g6], fun z => by rw [g6] at z; exact absurd z (by decide)⟩
    · obtain ⟨g6, g7⟩ := g5
      have t9 := t41_numberAt M p0 p1 p2
      omega
    · obtain ⟨g6, g7⟩ := g5
      have t9 := t41_numberAt M p0 p1 p2
      omega
set_option maxRecDepth 20000 in
set_option maxHeartbeats 4000000 in
theorem w_seen {K : q_K} {B M C : q_S} {a b : Nat} {k : Int} (hT : K a = (11, 0, 100)) (hb : K b = (21, 1, 280)) (hR : RC M C) (h : OKC M k) (hk : 0 ≤ k ∧ k < 512) (hB : q_tb K (M 50 16)) {c s : Nat} (hc : 16 ≤ c) (hs : 96 ≤ s) {p0 p1 : Int} (hp0 : q_iI p0) (hp1 : q_iI p1) : q_E mL_seen 0 [some (q_R a), some (q_I p0), some (q_I p1), some (q_R b), none] [] K B C c s (WL (seenF M p0 p1) K B) := by
  have nb := nb_10 h.1.2.2.2.2 hk.2
  have oc := okc_seen h p0 p1
  refine e_aload_n dL_seen_0 rfl ?_
  refine e_iconst dL_seen_1 ?_
  refine e_aload_n dL_seen_2 rfl ?_
  refine e_iload_n dL_seen_3 rfl ?_
  refine e_iload_n dL_seen_4 rfl ?_
  refine e_callVH (ci := 10) (as := [_, _]) (c1 := c) (s1 := s) (c2 := 0) (s2 := 0) dL_seen_5 k_X10_seen l_L_96 i_X10_seen v_X10_seen hT (by decide) (by decide) ⟨_, _, rfl⟩ rfl rfl rfl rfl (Nat.le_of_ble_eq_true rfl) ⟨by decide, by decide⟩ (by omega) (by omega) (Nat.le_of_ble_eq_true rfl) (by decide) (c_10_seen hT hR h.1.2.2.1 h.1.1 hB (c := c) (s := s) (by omega) (by omega) hp0 hp1 ) (fun o K2 M2 C2 g => ?_) (fun E K2 M2 C2 g => ?_)
  · obtain ⟨⟨g1, g2⟩, g3, g4, g5⟩ := g
    have g6 : (seenF M p0 p1).2 50 41 = 0 ∧ o = some (q_I (seenF M p0 p1).1) := by
      rcases g5 with g5 | g5 | g5 | g5
      · exact ⟨g5.1, Sum.inl.inj g5.2⟩
      · exact absurd g5.2 (by intro z; cases z)
      · exact absurd g5.2 (by intro z; cases z)
      · exact absurd g5.2 (by intro z; cases z)
    obtain ⟨g7, rfl⟩ := g6
    subst g3
    have hb9 := xt_get g1 hb (by decide)
    refine e_i2l dL_seen_8 oc.2 ?_
    refine c_last (by decide) dL_seen_9 hb9 (by decide) (by decide) (by decide) ⟨by have := oc.2.1; omega, by have := oc.2.2; omega⟩ ?_
    refine e_goto (tgt := 17) dL_seen_10 (by decide) ?_
    refine e_iconst dL_seen_17 ?_
    exact e_iret dL_seen_18 (Or.inl rfl) ⟨⟨g1, g2⟩, rfl, rc_280 g4 (rs_16 oc.1.1.1) (fun t j y => us_ne y), by rw [g7], fun _ => us_eq⟩
  · obtain ⟨⟨g1, g2⟩, g3, g4, g5⟩ := g
    subst g3
    rcases g5 with g5 | g5 | g5 | g5
    · exact absurd g5.2 (by intro z; cases z)
    · obtain ⟨g6, g7⟩ := g5
      obtain rfl := Sum.inr.inj g7
      refine ⟨13, 4, 2, ⟨[], ⟨0, 10, 13, 21⟩, [], rfl, (fun z hz => by cases hz), by decide, by decide, cl_21, by decide, rfl⟩, ⟨by decide, Or.inr ⟨dL_seen_13, rfl⟩⟩, ?_⟩
      refine e_iconst dL_seen_15 ?_
      exact e_iret dL_seen_16 (Or.inl rfl) ⟨⟨g1, g2⟩, rfl, g4, by rw [g6], fun z => by rw [g6] at z; exact absurd z (by decide)⟩
    · obtain ⟨g6, g7⟩ := g5
      have t9 := t41_seen M p0 p1
      omega
    · obtain ⟨g6, g7⟩ := g5
      have t9 := t41_seen M p0 p1
      omega
set_option maxRecDepth 20000 in
set_option maxHeartbeats 4000000 in
theorem w_noted {K : q_K} {B M C : q_S} {a b : Nat} {k : Int} (hT : K a = (11, 0, 100)) (hb : K b = (21, 1, 280)) (hR : RC M C) (h : OKC M k) (hk : 0 ≤ k ∧ k < 512) (hB : q_tb K (M 50 16)) {c s : Nat} (hc : 16 ≤ c) (hs : 96 ≤ s) {p0 : Int} (hp0 : q_iI p0) : q_E mL_noted 0 [some (q_R a), some (q_I p0), some (q_R b), none] [] K B C c s (WL (notedF M p0) K B) := by
  have nb := nb_10 h.1.2.2.2.2 hk.2
  have oc := okc_noted h p0
  refine e_aload_n dL_noted_0 rfl ?_
  refine e_iconst dL_noted_1 ?_
  refine e_aload_n dL_noted_2 rfl ?_
  refine e_iload_n dL_noted_3 rfl ?_
  refine e_callVH (ci := 10) (as := [_]) (c1 := c) (s1 := s) (c2 := 0) (s2 := 0) dL_noted_4 k_X10_noted l_L_99 i_X10_noted v_X10_noted hT (by decide) (by decide) ⟨_, _, rfl⟩ rfl rfl rfl rfl (Nat.le_of_ble_eq_true rfl) ⟨by decide, by decide⟩ (by omega) (by omega) (Nat.le_of_ble_eq_true rfl) (by decide) (c_10_noted hT hR h.1.2.2.1 h.1.1 hB (c := c) (s := s) (by omega) (by omega) hp0 ) (fun o K2 M2 C2 g => ?_) (fun E K2 M2 C2 g => ?_)
  · obtain ⟨⟨g1, g2⟩, g3, g4, g5⟩ := g
    have g6 : (notedF M p0).2 50 41 = 0 ∧ o = some (q_I (notedF M p0).1) := by
      rcases g5 with g5 | g5 | g5 | g5
      · exact ⟨g5.1, Sum.inl.inj g5.2⟩
      · exact absurd g5.2 (by intro z; cases z)
      · exact absurd g5.2 (by intro z; cases z)
      · exact absurd g5.2 (by intro z; cases z)
    obtain ⟨g7, rfl⟩ := g6
    subst g3
    have hb9 := xt_get g1 hb (by decide)
    refine e_i2l dL_noted_7 oc.2 ?_
    refine c_last (by decide) dL_noted_8 hb9 (by decide) (by decide) (by decide) ⟨by have := oc.2.1; omega, by have := oc.2.2; omega⟩ ?_
    refine e_goto (tgt := 15) dL_noted_9 (by decide) ?_
    refine e_iconst dL_noted_15 ?_
    exact e_iret dL_noted_16 (Or.inl rfl) ⟨⟨g1, g2⟩, rfl, rc_280 g4 (rs_16 oc.1.1.1) (fun t j y => us_ne y), by rw [g7], fun _ => us_eq⟩
  · obtain ⟨⟨g1, g2⟩, g3, g4, g5⟩ := g
    subst g3
    rcases g5 with g5 | g5 | g5 | g5
    · exact absurd g5.2 (by intro z; cases z)
    · obtain ⟨g6, g7⟩ := g5
      obtain rfl := Sum.inr.inj g7
      refine ⟨12, 3, 1, ⟨[], ⟨0, 9, 12, 21⟩, [], rfl, (fun z hz => by cases hz), by decide, by decide, cl_21, by decide, rfl⟩, ⟨by decide, Or.inl ⟨3, dL_noted_12, rfl, rfl⟩⟩, ?_⟩
      refine e_iconst dL_noted_13 ?_
      exact e_iret dL_noted_14 (Or.inl rfl) ⟨⟨g1, g2⟩, rfl, g4, by rw [g6], fun z => by rw [g6] at z; exact absurd z (by decide)⟩
    · obtain ⟨g6, g7⟩ := g5
      have t9 := t41_noted M p0
      omega
    · obtain ⟨g6, g7⟩ := g5
      have t9 := t41_noted M p0
      omega
set_option maxRecDepth 20000 in
set_option maxHeartbeats 4000000 in
theorem w_taken {K : q_K} {B M C : q_S} {a b : Nat} {k : Int} (hT : K a = (11, 0, 100)) (hb : K b = (21, 1, 280)) (hR : RC M C) (h : OKC M k) (hk : 0 ≤ k ∧ k < 512) (hB : q_tb K (M 50 16)) {c s : Nat} (hc : 16 ≤ c) (hs : 96 ≤ s) {p0 : Int} (hp0 : q_iI p0) : q_E mL_taken 0 [some (q_R a), some (q_I p0), some (q_R b), none] [] K B C c s (WL (takenF M p0) K B) := by
  have nb := nb_10 h.1.2.2.2.2 hk.2
  have oc := okc_taken h p0
  refine e_aload_n dL_taken_0 rfl ?_
  refine e_iconst dL_taken_1 ?_
  refine e_aload_n dL_taken_2 rfl ?_
  refine e_iload_n dL_taken_3 rfl ?_
  refine e_callVH (ci := 10) (as := [_]) (c1 := c) (s1 := s) (c2 := 0) (s2 := 0) dL_taken_4 k_X10_taken l_L_102 i_X10_taken v_X10_taken hT (by decide) (by decide) ⟨_, _, rfl⟩ rfl rfl rfl rfl (Nat.le_of_ble_eq_true rfl) ⟨by decide, by decide⟩ (by omega) (by omega) (Nat.le_of_ble_eq_true rfl) (by decide) (c_10_taken hT hR h.1.2.2.1 h.1.1 hB (c := c) (s := s) (by omega) (by omega) hp0 ) (fun o K2 M2 C2 g => ?_) (fun E K2 M2 C2 g => ?_)
  · obtain ⟨⟨g1, g2⟩, g3, g4, g5⟩ := g
    have g6 : (takenF M p0).2 50 41 = 0 ∧ o = some (q_I (takenF M p0).1) := by
      rcases g5 with g5 | g5 | g5 | g5
      · exact ⟨g5.1, Sum.inl.inj g5.2⟩
      · exact absurd g5.2 (by intro z; cases z)
      · exact absurd g5.2 (by intro z; cases z)
      · exact absurd g5.2 (by intro z; cases z)
    obtain ⟨g7, rfl⟩ := g6
    subst g3
    have hb9 := xt_get g1 hb (by decide)
    refine e_i2l dL_taken_7 oc.2 ?_
    refine c_last (by decide) dL_taken_8 hb9 (by decide) (by decide) (by decide) ⟨by have := oc.2.1; omega, by have := oc.2.2; omega⟩ ?_
    refine e_goto (tgt := 15) dL_taken_9 (by decide) ?_
    refine e_iconst dL_taken_15 ?_
    exact e_iret dL_taken_16 (Or.inl rfl) ⟨⟨g1, g2⟩, rfl, rc_280 g4 (rs_16 oc.1.1.1) (fun t j y => us_ne y), by rw [g7], fun _ => us_eq⟩
  · obtain ⟨⟨g1, g2⟩, g3, g4, g5⟩ := g
    subst g3
    rcases g5 with g5 | g5 | g5 | g5
    · exact absurd g5.2 (by intro z; cases z)
    · obtain ⟨g6, g7⟩ := g5
      obtain rfl := Sum.inr.inj g7
      refine ⟨12, 3, 1, ⟨[], ⟨0, 9, 12, 21⟩, [], rfl, (fun z hz => by cases hz), by decide, by decide, cl_21, by decide, rfl⟩, ⟨by decide, Or.inl ⟨3, dL_taken_12, rfl, rfl⟩⟩, ?_⟩
      refine e_iconst dL_taken_13 ?_
      exact e_iret dL_taken_14 (Or.inl rfl) ⟨⟨g1, g2⟩, rfl, g4, by rw [g6], fun z => by rw [g6] at z; exact absurd z (by decide)⟩
    · obtain ⟨g6, g7⟩ := g5
      have t9 := t41_taken M p0
      omega
    · obtain ⟨g6, g7⟩ := g5
      have t9 := t41_taken M p0
      omega
set_option maxRecDepth 20000 in
set_option maxHeartbeats 4000000 in
theorem w_version {K : q_K} {B M C : q_S} {a b : Nat} {k : Int} (hT : K a = (11, 0, 100)) (hb : K b = (21, 1, 280)) (hR : RC M C) (h : OKC M k) (hk : 0 ≤ k ∧ k < 512) (hB : q_tb K (M 50 16)) {c s : Nat} (hc : 16 ≤ c) (hs : 96 ≤ s) {p0 p1 : Int} (hp0 : q_iI p0) (hp1 : q_iI p1) : q_E mL_version 0 [some (q_R a), some (q_I p0), some (q_I p1), some (q_R b), none] [] K B C c s (WL (versionF M p0 p1) K B) := by
  have nb := nb_10 h.1.2.2.2.2 hk.2
  have oc := okc_version h p0 p1
  refine e_aload_n dL_version_0 rfl ?_
  refine e_iconst dL_version_1 ?_
  refine e_aload_n dL_version_2 rfl ?_
  refine e_iload_n dL_version_3 rfl ?_
  refine e_iload_n dL_version_4 rfl ?_
  refine e_callVH (ci := 10) (as := [_, _]) (c1 := c) (s1 := s) (c2 := 0) (s2 := 0) dL_version_5 k_X10_version l_L_105 i_X10_version v_X10_version hT (by decide) (by decide) ⟨_, _, rfl⟩ rfl rfl rfl rfl (Nat.le_of_ble_eq_true rfl) ⟨by decide, by decide⟩ (by omega) (by omega) (Nat.le_of_ble_eq_true rfl) (by decide) (c_10_version hT hR h.1.2.2.1 h.1.1 hB (c := c) (s := s) (by omega) (by omega) hp0 hp1 ) (fun o K2 M2 C2 g => ?_) (fun E K2 M2 C2 g => ?_)
  · obtain ⟨⟨g1, g2⟩, g3, g4, g5⟩ := g
    have g6 : (versionF M p0 p1).2 50 41 = 0 ∧ o = some (q_I (versionF M p0 p1).1) := by
      rcases g5 with g5 | g5 | g5 | g5
      · exact ⟨g5.1, Sum.inl.inj g5.2⟩
      · exact absurd g5.2 (by intro z; cases z)
      · exact absurd g5.2 (by intro z; cases z)
      · exact absurd g5.2 (by intro z; cases z)
    obtain ⟨g7, rfl⟩ := g6
    subst g3
    have hb9 := xt_get g1 hb (by decide)
    refine e_i2l dL_version_8 oc.2 ?_
    refine c_last (by decide) dL_version_9 hb9 (by decide) (by decide) (by decide) ⟨by have := oc.2.1; omega, by have := oc.2.2; omega⟩ ?_
    refine e_goto (tgt := 21) dL_version_10 (by decide) ?_
    refine e_iconst dL_version_21 ?_
    exact e_iret dL_version_22 (Or.inl rfl) ⟨⟨g1, g2⟩, rfl, rc_280 g4 (rs_16 oc.1.1.1) (fun t j y => us_ne y), by rw [g7], fun _ => us_eq⟩
  · obtain ⟨⟨g1, g2⟩, g3, g4, g5⟩ := g
    subst g3
    rcases g5 with g5 | g5 | g5 | g5
    · exact absurd g5.2 (by intro z; cases z)
    · obtain ⟨g6, g7⟩ := g5
      obtain rfl := Sum.inr.inj g7
      refine ⟨13, 4, 2, ⟨[], ⟨0, 10, 13, 21⟩, [⟨0, 10, 17, 13⟩], rfl, (fun z hz => by cases hz), by decide, by decide, cl_21, by decide, rfl⟩, ⟨by decide, Or.inr ⟨dL_version_13, rfl⟩⟩, ?_⟩
      refine e_iconst dL_version_15 ?_
      exact e_iret dL_version_16 (Or.inl rfl) ⟨⟨g1, g2⟩, rfl, g4, by rw [g6], fun z => by rw [g6] at z; exact absurd z (by decide)⟩
    · obtain ⟨g6, g7⟩ := g5
      obtain rfl := Sum.inr.inj g7
      refine ⟨17, 4, 2, ⟨[⟨0, 10, 13, 21⟩], ⟨0, 10, 17, 13⟩, [], rfl, (fun z hz => Or.inr (by
          rcases List.mem_singleton.mp hz with rfl
          exact ⟨by decide, _, cl_21, by decide, by decide⟩)), by decide, by decide, cl_13, by decide, rfl⟩, ⟨by decide, Or.inr ⟨dL_version_17, rfl⟩⟩, ?_⟩
      refine e_iconst dL_version_19 ?_
      exact e_iret dL_version_20 (Or.inl rfl) ⟨⟨g1, g2⟩, rfl, g4, by rw [g6], fun z => by rw [g6] at z; exact absurd z (by decide)⟩
    · obtain ⟨g6, g7⟩ := g5
      have t9 := t41_version M p0 p1
      omega
set_option maxRecDepth 20000 in
set_option maxHeartbeats 4000000 in
theorem w_asOf {K : q_K} {B M C : q_S} {a b : Nat} {k : Int} (hT : K a = (11, 0, 100)) (hb : K b = (21, 1, 280)) (hR : RC M C) (h : OKC M k) (hk : 0 ≤ k ∧ k < 512) (hB : q_tb K (M 50 16)) {c s : Nat} (hc : 16 ≤ c) (hs : 96 ≤ s) {p0 p1 : Int} (hp0 : q_iI p0) (hp1 : q_iI p1) : q_E mL_asOf 0 [some (q_R a), some (q_I p0), some (q_I p1), some (q_R b), none] [] K B C c s (WL (asOfMF M p0 p1) K B) := by
  have nb := nb_10 h.1.2.2.2.2 hk.2
  have oc := okc_asOf h p0 p1
  refine e_aload_n dL_asOf_0 rfl ?_
  refine e_iconst dL_asOf_1 ?_
  refine e_aload_n dL_asOf_2 rfl ?_
  refine e_iload_n dL_asOf_3 rfl ?_
  refine e_iload_n dL_asOf_4 rfl ?_
  refine e_callVH (ci := 10) (as := [_, _]) (c1 := c) (s1 := s) (c2 := 0) (s2 := 0) dL_asOf_5 k_X10_asOf l_L_108 i_X10_asOf v_X10_asOf hT (by decide) (by decide) ⟨_, _, rfl⟩ rfl rfl rfl rfl (Nat.le_of_ble_eq_true rfl) ⟨by decide, by decide⟩ (by omega) (by omega) (Nat.le_of_ble_eq_true rfl) (by decide) (c_10_asOf hT hR h.1.2.2.1 h.1.1 hB (c := c) (s := s) (by omega) (by omega) hp0 hp1 ) (fun o K2 M2 C2 g => ?_) (fun E K2 M2 C2 g => ?_)
  · obtain ⟨⟨g1, g2⟩, g3, g4, g5⟩ := g
    have g6 : (asOfMF M p0 p1).2 50 41 = 0 ∧ o = some (q_I (asOfMF M p0 p1).1) := by
      rcases g5 with g5 | g5 | g5 | g5
      · exact ⟨g5.1, Sum.inl.inj g5.2⟩
      · exact absurd g5.2 (by intro z; cases z)
      · exact absurd g5.2 (by intro z; cases z)
      · exact absurd g5.2 (by intro z; cases z)
    obtain ⟨g7, rfl⟩ := g6
    subst g3
    have hb9 := xt_get g1 hb (by decide)
    refine e_i2l dL_asOf_8 oc.2 ?_
    refine c_last (by decide) dL_asOf_9 hb9 (by decide) (by decide) (by decide) ⟨by have := oc.2.1; omega, by have := oc.2.2; omega⟩ ?_
    refine e_goto (tgt := 21) dL_asOf_10 (by decide) ?_
    refine e_iconst dL_asOf_21 ?_
    exact e_iret dL_asOf_22 (Or.inl rfl) ⟨⟨g1, g2⟩, rfl, rc_280 g4 (rs_16 oc.1.1.1) (fun t j y => us_ne y), by rw [g7], fun _ => us_eq⟩
  · obtain ⟨⟨g1, g2⟩, g3, g4, g5⟩ := g
    subst g3
    rcases g5 with g5 | g5 | g5 | g5
    · exact absurd g5.2 (by intro z; cases z)
    · obtain ⟨g6, g7⟩ := g5
      obtain rfl := Sum.inr.inj g7
      refine ⟨13, 4, 2, ⟨[], ⟨0, 10, 13, 21⟩, [⟨0, 10, 17, 13⟩], rfl, (fun z hz => by cases hz), by decide, by decide, cl_21, by decide, rfl⟩, ⟨by decide, Or.inr ⟨dL_asOf_13, rfl⟩⟩, ?_⟩
      refine e_iconst dL_asOf_15 ?_
      exact e_iret dL_asOf_16 (Or.inl rfl) ⟨⟨g1, g2⟩, rfl, g4, by rw [g6], fun z => by rw [g6] at z; exact absurd z (by decide)⟩
    · obtain ⟨g6, g7⟩ := g5
      obtain rfl := Sum.inr.inj g7
      refine ⟨17, 4, 2, ⟨[⟨0, 10, 13, 21⟩], ⟨0, 10, 17, 13⟩, [], rfl, (fun z hz => Or.inr (by
          rcases List.mem_singleton.mp hz with rfl
          exact ⟨by decide, _, cl_21, by decide, by decide⟩)), by decide, by decide, cl_13, by decide, rfl⟩, ⟨by decide, Or.inr ⟨dL_asOf_17, rfl⟩⟩, ?_⟩
      refine e_iconst dL_asOf_19 ?_
      exact e_iret dL_asOf_20 (Or.inl rfl) ⟨⟨g1, g2⟩, rfl, g4, by rw [g6], fun z => by rw [g6] at z; exact absurd z (by decide)⟩
    · obtain ⟨g6, g7⟩ := g5
      have t9 := t41_asOf M p0 p1
      omega
set_option maxRecDepth 20000 in
set_option maxHeartbeats 4000000 in
theorem w_lockOf {K : q_K} {B M C : q_S} {a b : Nat} {k : Int} (hT : K a = (11, 0, 100)) (hb : K b = (21, 1, 280)) (hR : RC M C) (h : OKC M k) (hk : 0 ≤ k ∧ k < 512) (hB : q_tb K (M 50 16)) {c s : Nat} (hc : 16 ≤ c) (hs : 96 ≤ s) {p0 : Int} (hp0 : q_iI p0) : q_E mL_lockOf 0 [some (q_R a), some (q_I p0), some (q_R b), none] [] K B C c s (WL (lockOfF M p0) K B) := by
  have nb := nb_10 h.1.2.2.2.2 hk.2
  have oc := okc_lockOf h p0
  refine e_aload_n dL_lockOf_0 rfl ?_
  refine e_iconst dL_lockOf_1 ?_
  refine e_aload_n dL_lockOf_2 rfl ?_
  refine e_iload_n dL_lockOf_3 rfl ?_
  refine e_callVH (ci := 10) (as := [_]) (c1 := c) (s1 := s) (c2 := 0) (s2 := 0) dL_lockOf_4 k_X10_lockOf l_L_111 i_X10_lockOf v_X10_lockOf hT (by decide) (by decide) ⟨_, _, rfl⟩ rfl rfl rfl rfl (Nat.le_of_ble_eq_true rfl) ⟨by decide, by decide⟩ (by omega) (by omega) (Nat.le_of_ble_eq_true rfl) (by decide) (c_10_lockOf hT hR h.1.2.2.1 h.1.1 hB (c := c) (s := s) (by omega) (by omega) hp0 ) (fun o K2 M2 C2 g => ?_) (fun E K2 M2 C2 g => ?_)
  · obtain ⟨⟨g1, g2⟩, g3, g4, g5⟩ := g
    have g6 : (lockOfF M p0).2 50 41 = 0 ∧ o = some (q_I (lockOfF M p0).1) := by
      rcases g5 with g5 | g5 | g5 | g5
      · exact ⟨g5.1, Sum.inl.inj g5.2⟩
      · exact absurd g5.2 (by intro z; cases z)
      · exact absurd g5.2 (by intro z; cases z)
      · exact absurd g5.2 (by intro z; cases z)
    obtain ⟨g7, rfl⟩ := g6
    subst g3
    have hb9 := xt_get g1 hb (by decide)
    refine e_i2l dL_lockOf_7 oc.2 ?_
    refine c_last (by decide) dL_lockOf_8 hb9 (by decide) (by decide) (by decide) ⟨by have := oc.2.1; omega, by have := oc.2.2; omega⟩ ?_
    refine e_goto (tgt := 15) dL_lockOf_9 (by decide) ?_
    refine e_iconst dL_lockOf_15 ?_
    exact e_iret dL_lockOf_16 (Or.inl rfl) ⟨⟨g1, g2⟩, rfl, rc_280 g4 (rs_16 oc.1.1.1) (fun t j y => us_ne y), by rw [g7], fun _ => us_eq⟩
  · obtain ⟨⟨g1, g2⟩, g3, g4, g5⟩ := g
    subst g3
    rcases g5 with g5 | g5 | g5 | g5
    · exact absurd g5.2 (by intro z; cases z)
    · obtain ⟨g6, g7⟩ := g5
      obtain rfl := Sum.inr.inj g7
      refine ⟨12, 3, 1, ⟨[], ⟨0, 9, 12, 21⟩, [], rfl, (fun z hz => by cases hz), by decide, by decide, cl_21, by decide, rfl⟩, ⟨by decide, Or.inl ⟨3, dL_lockOf_12, rfl, rfl⟩⟩, ?_⟩
      refine e_iconst dL_lockOf_13 ?_
      exact e_iret dL_lockOf_14 (Or.inl rfl) ⟨⟨g1, g2⟩, rfl, g4, by rw [g6], fun z => by rw [g6] at z; exact absurd z (by decide)⟩
    · obtain ⟨g6, g7⟩ := g5
      have t9 := t41_lockOf M p0
      omega
    · obtain ⟨g6, g7⟩ := g5
      have t9 := t41_lockOf M p0
      omega
set_option maxRecDepth 20000 in
set_option maxHeartbeats 4000000 in
theorem w_right {K : q_K} {B M C : q_S} {a b : Nat} {k : Int} (hT : K a = (11, 0, 100)) (hb : K b = (21, 1, 280)) (hR : RC M C) (h : OKC M k) (hk : 0 ≤ k ∧ k < 512) (hB : q_tb K (M 50 16)) {c s : Nat} (hc : 16 ≤ c) (hs : 96 ≤ s) {p0 p1 : Int} (hp0 : q_iI p0) (hp1 : q_iI p1) : q_E mL_right 0 [some (q_R a), some (q_I p0), some (q_I p1), some (q_R b), none] [] K B C c s (WL (rightMF M p0 p1) K B) := by
  have nb := nb_10 h.1.2.2.2.2 hk.2
  have oc := okc_right h p0 p1
  refine e_aload_n dL_right_0 rfl ?_
  refine e_iconst dL_right_1 ?_
  refine e_aload_n dL_right_2 rfl ?_
  refine e_iload_n dL_right_3 rfl ?_
  refine e_iload_n dL_right_4 rfl ?_
  refine e_callVH (ci := 10) (as := [_, _]) (c1 := c) (s1 := s) (c2 := 0) (s2 := 0) dL_right_5 k_X10_right l_L_114 i_X10_right v_X10_right hT (by decide) (by decide) ⟨_, _, rfl⟩ rfl rfl rfl rfl (Nat.le_of_ble_eq_true rfl) ⟨by decide, by decide⟩ (by omega) (by omega) (Nat.le_of_ble_eq_true rfl) (by decide) (c_10_right hT hR h.1.2.2.1 h.1.1 hB (c := c) (s := s) (by omega) (by omega) hp0 hp1 ) (fun o K2 M2 C2 g => ?_) (fun E K2 M2 C2 g => ?_)
  · obtain ⟨⟨g1, g2⟩, g3, g4, g5⟩ := g
    have g6 : (rightMF M p0 p1).2 50 41 = 0 ∧ o = some (q_I (rightMF M p0 p1).1) := by
      rcases g5 with g5 | g5 | g5 | g5
      · exact ⟨g5.1, Sum.inl.inj g5.2⟩
      · exact absurd g5.2 (by intro z; cases z)
      · exact absurd g5.2 (by intro z; cases z)
      · exact absurd g5.2 (by intro z; cases z)
    obtain ⟨g7, rfl⟩ := g6
    subst g3
    have hb9 := xt_get g1 hb (by decide)
    refine e_i2l dL_right_8 oc.2 ?_
    refine c_last (by decide) dL_right_9 hb9 (by decide) (by decide) (by decide) ⟨by have := oc.2.1; omega, by have := oc.2.2; omega⟩ ?_
    refine e_goto (tgt := 17) dL_right_10 (by decide) ?_
    refine e_iconst dL_right_17 ?_
    exact e_iret dL_right_18 (Or.inl rfl) ⟨⟨g1, g2⟩, rfl, rc_280 g4 (rs_16 oc.1.1.1) (fun t j y => us_ne y), by rw [g7], fun _ => us_eq⟩
  · obtain ⟨⟨g1, g2⟩, g3, g4, g5⟩ := g
    subst g3
    rcases g5 with g5 | g5 | g5 | g5
    · exact absurd g5.2 (by intro z; cases z)
    · obtain ⟨g6, g7⟩ := g5
      obtain rfl := Sum.inr.inj g7
      refine ⟨13, 4, 2, ⟨[], ⟨0, 10, 13, 21⟩, [], rfl, (fun z hz => by cases hz), by decide, by decide, cl_21, by decide, rfl⟩, ⟨by decide, Or.inr ⟨dL_right_13, rfl⟩⟩, ?_⟩
      refine e_iconst dL_right_15 ?_
      exact e_iret dL_right_16 (Or.inl rfl) ⟨⟨g1, g2⟩, rfl, g4, by rw [g6], fun z => by rw [g6] at z; exact absurd z (by decide)⟩
    · obtain ⟨g6, g7⟩ := g5
      have t9 := t41_right M p0 p1
      omega
    · obtain ⟨g6, g7⟩ := g5
      have t9 := t41_right M p0 p1
      omega
set_option maxRecDepth 20000 in
set_option maxHeartbeats 4000000 in
theorem w_count {K : q_K} {B M C : q_S} {a b : Nat} {k : Int} (hT : K a = (11, 0, 100)) (hb : K b = (21, 1, 280)) (hR : RC M C) (h : OKC M k) (hk : 0 ≤ k ∧ k < 512) (hB : q_tb K (M 50 16)) {c s : Nat} (hc : 16 ≤ c) (hs : 96 ≤ s) {p0 : Int} (hp0 : q_iI p0) : q_E mL_count 0 [some (q_R a), some (q_I p0), some (q_R b), none] [] K B C c s (WL (countF M p0) K B) := by
  have nb := nb_10 h.1.2.2.2.2 hk.2
  have oc := okc_count h p0
  refine e_aload_n dL_count_0 rfl ?_
  refine e_iconst dL_count_1 ?_
  refine e_aload_n dL_count_2 rfl ?_
  refine e_iload_n dL_count_3 rfl ?_
  refine e_callVH (ci := 10) (as := [_]) (c1 := c) (s1 := s) (c2 := 0) (s2 := 0) dL_count_4 k_X10_count l_L_117 i_X10_count v_X10_count hT (by decide) (by decide) ⟨_, _, rfl⟩ rfl rfl rfl rfl (Nat.le_of_ble_eq_true rfl) ⟨by decide, by decide⟩ (by omega) (by omega) (Nat.le_of_ble_eq_true rfl) (by decide) (c_10_count hT hR h.1.2.2.1 h.1.1 hB (c := c) (s := s) (by omega) (by omega) hp0 h.1.2.2.2.2.1.1) (fun o K2 M2 C2 g => ?_) (fun E K2 M2 C2 g => ?_)
  · obtain ⟨⟨g1, g2⟩, g3, g4, g5⟩ := g
    have g6 : (countF M p0).2 50 41 = 0 ∧ o = some (q_I (countF M p0).1) := by
      rcases g5 with g5 | g5 | g5 | g5
      · exact ⟨g5.1, Sum.inl.inj g5.2⟩
      · exact absurd g5.2 (by intro z; cases z)
      · exact absurd g5.2 (by intro z; cases z)
      · exact absurd g5.2 (by intro z; cases z)
    obtain ⟨g7, rfl⟩ := g6
    subst g3
    have hb9 := xt_get g1 hb (by decide)
    refine e_i2l dL_count_7 oc.2 ?_
    refine c_last (by decide) dL_count_8 hb9 (by decide) (by decide) (by decide) ⟨by have := oc.2.1; omega, by have := oc.2.2; omega⟩ ?_
    refine e_goto (tgt := 15) dL_count_9 (by decide) ?_
    refine e_iconst dL_count_15 ?_
    exact e_iret dL_count_16 (Or.inl rfl) ⟨⟨g1, g2⟩, rfl, rc_280 g4 (rs_16 oc.1.1.1) (fun t j y => us_ne y), by rw [g7], fun _ => us_eq⟩
  · obtain ⟨⟨g1, g2⟩, g3, g4, g5⟩ := g
    subst g3
    rcases g5 with g5 | g5 | g5 | g5
    · exact absurd g5.2 (by intro z; cases z)
    · obtain ⟨g6, g7⟩ := g5
      obtain rfl := Sum.inr.inj g7
      refine ⟨12, 3, 1, ⟨[], ⟨0, 9, 12, 13⟩, [], rfl, (fun z hz => by cases hz), by decide, by decide, cl_13, by decide, rfl⟩, ⟨by decide, Or.inl ⟨3, dL_count_12, rfl, rfl⟩⟩, ?_⟩
      refine e_iconst dL_count_13 ?_
      exact e_iret dL_count_14 (Or.inl rfl) ⟨⟨g1, g2⟩, rfl, g4, by rw [g6], fun z => by rw [g6] at z; exact absurd z (by decide)⟩
    · obtain ⟨g6, g7⟩ := g5
      have t9 := t41_count M p0
      omega
    · obtain ⟨g6, g7⟩ := g5
      have t9 := t41_count M p0
      omega
