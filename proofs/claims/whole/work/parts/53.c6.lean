set_option maxRecDepth 20000 in
set_option maxHeartbeats 4000000 in
theorem c_6_note {K : q_K} {B M C : q_S} {x : Nat} {m : Int} (hx : K x = (7, 0, 110 + m)) (hm : 0 ≤ m ∧ m ≤ 2) (hL : RLn M C) (hW : WR M) {f : Int} (hf : 0 ≤ f ∧ f ≤ 15) : q_E mX6_note 0 [some (q_R x), some (q_I f), none] [] K B C 0 0 (e_is (none) K B (noC M C m f)) := by
  have hnr := ntF_rg M m 16
  have lp : ∀ (r : Nat) (i : Int), i + r = ntF M m 16 → 0 ≤ i → (∀ j, 0 ≤ j → j < i → ¬ C (150 + m) j = f) → q_E mX6_note 2 [some (q_R x), some (q_I f), some (q_I i)] [] K B C 0 0 (e_is (none) K B (noC M C m f)) := by
    intro r
    induction r with
    | zero =>
      intro i h1 h0 h2
      refine e_iload_n dX6_note_2 rfl ?_
      refine e_aload_n dX6_note_3 rfl ?_
      refine c_getI (by omega) dX6_note_4 f_X6_21 (Or.inl rfl) hx ?_
      rw [(hL m hm.1 hm.2).1]
      refine e_icmp_ge (tgt := 27) dX6_note_7 (by decide) ⟨by omega, by omega⟩ ⟨by omega, by omega⟩ (fun c_7 => ?_) (fun c_7 => ?_)
      · have h8 : ¬ 0 < M 8 (16 * m + f) := by
          intro g
          obtain ⟨j, hj, hk⟩ := (hL m hm.1 hm.2).2.2.2 f hf.1 hf.2 g
          exact h2 j hj.1 (by omega) hk
        have h80 : 0 ≤ M 8 (16 * m + f) := (hW 8 _).1
        have hlt := ntF_lt hf.1 h8 16 (by show f < 16; omega)
        refine e_aload_n dX6_note_27 rfl ?_
        refine c_getI (by omega) dX6_note_28 f_X6_21 (Or.inl rfl) hx ?_
        rw [(hL m hm.1 hm.2).1]
        refine e_bipush dX6_note_31 (by decide) ?_
        refine e_icmp_ge (tgt := 56) dX6_note_33 (by decide) ⟨by omega, by omega⟩ ⟨by omega, by omega⟩ (fun c_33 => ?_) (fun c_33 => ?_)
        · exfalso; omega
        · refine e_aload_n dX6_note_36 rfl ?_
          refine c_getR (kt := (20, 16, (150 + m))) (by omega) (Or.inl (by omega)) dX6_note_37 f_X6_17 hx (kl_l ⟨by omega, by omega⟩) (Nat.succ_ne_zero _) (fun q_37 h_37 => ?_)
          refine e_aload_n dX6_note_40 rfl ?_
          refine c_getI (by omega) dX6_note_41 f_X6_21 (Or.inl rfl) hx ?_
          rw [(hL m hm.1 hm.2).1]
          refine e_iload_n dX6_note_44 rfl ?_
          refine c_iast (by omega) dX6_note_45 h_37 (by omega) (by omega) (by omega) ⟨by omega, by omega⟩ ?_
          refine e_aload_n dX6_note_46 rfl ?_
          refine e_dup dX6_note_47 rfl ?_
          refine c_getI (by omega) dX6_note_48 f_X6_21 (Or.inl rfl) hx ?_
          try simp only [q_us_ap, editsF_3, Int.reduceEq, Int.reduceNeg, false_and, and_false, and_self, if_true, if_false, true_and, and_true, ite_self]
          rw [if_neg (show ¬ (110 + m = 150 + m ∧ 2 = ntF M m 16) by omega), (hL m hm.1 hm.2).1]
          refine e_iconst dX6_note_51 ?_
          refine e_iadd dX6_note_52 ?_
          refine c_putI (by omega) dX6_note_53 f_X6_21 rfl hx (by omega) ⟨by omega, by omega⟩ ?_
          exact e_ret dX6_note_56 rfl (e_ok rfl rfl (by unfold noC; rw [if_pos (show M 8 (16 * m + f) = 0 by omega)]))
      · exfalso; omega
    | succ r ih =>
      intro i h1 h0 h2
      have gi := (hL m hm.1 hm.2).2.1 i h0 (by omega)
      refine e_iload_n dX6_note_2 rfl ?_
      refine e_aload_n dX6_note_3 rfl ?_
      refine c_getI (by omega) dX6_note_4 f_X6_21 (Or.inl rfl) hx ?_
      rw [(hL m hm.1 hm.2).1]
      refine e_icmp_ge (tgt := 27) dX6_note_7 (by decide) ⟨by omega, by omega⟩ ⟨by omega, by omega⟩ (fun c_7 => ?_) (fun c_7 => ?_)
      · exfalso; omega
      · refine e_aload_n dX6_note_10 rfl ?_
        refine c_getR (kt := (20, 16, (150 + m))) (by omega) (Or.inl (by omega)) dX6_note_11 f_X6_17 hx (kl_l ⟨by omega, by omega⟩) (Nat.succ_ne_zero _) (fun q_11 h_11 => ?_)
        refine e_iload_n dX6_note_14 rfl ?_
        refine c_iald (by omega) dX6_note_15 h_11 (by omega) (by omega) ?_
        refine e_iload_n dX6_note_16 rfl ?_
        refine e_icmp_ne (tgt := 21) dX6_note_17 (by decide) ⟨by omega, by omega⟩ ⟨by omega, by omega⟩ (fun c_17 => ?_) (fun c_17 => ?_)
        · refine e_iinc (ls2 := [_, _, _]) dX6_note_21 rfl (Nat.le_of_ble_eq_true rfl) rfl ?_
          refine e_goto (tgt := 2) dX6_note_24 (by decide) ?_
          exact ih (i + 1) (by omega) (by omega) (fun j a b => by by_cases e : j = i; (rw [e]; exact c_17); exact h2 j a (by omega))
        · exact e_ret dX6_note_20 rfl (e_ok rfl rfl (by unfold noC; rw [if_neg (by have := gi.2; rw [c_17] at this; omega)]))
  refine e_iconst dX6_note_0 ?_
  refine e_istore_n (ls2 := [_, _, _]) dX6_note_1 (Nat.le_of_ble_eq_true rfl) rfl ?_
  exact lp (ntF M m 16).toNat 0 (by omega) (Int.le_refl _) (fun j a b => by omega)
set_option maxRecDepth 20000 in
set_option maxHeartbeats 4000000 in
theorem c_6_dropFirst {K : q_K} {B M C : q_S} {x : Nat} {m : Int} (hx : K x = (7, 0, 110 + m)) (hm : 0 ≤ m ∧ m ≤ 2) (hL : RLn M C) (hw : 0 < ntF M m 16) : q_E mX6_dropFirst 0 [some (q_R x)] [] K B C 0 0 (e_is (none) K B (dlC C m (ntF M m 16))) := by
  have hnr := ntF_rg M m 16
  refine e_aload_n dX6_dropFirst_0 rfl ?_
  refine c_getI (by omega) dX6_dropFirst_1 f_X6_21 (Or.inl rfl) hx ?_
  rw [(hL m hm.1 hm.2).1]
  refine e_if_le (tgt := 36) dX6_dropFirst_4 (by decide) ⟨by omega, by omega⟩ (fun c_4 => ?_) (fun c_4 => ?_)
  · exfalso; omega
  · refine e_aload_n dX6_dropFirst_7 rfl ?_
    refine c_getR (kt := (20, 16, (150 + m))) (by omega) (Or.inl (by omega)) dX6_dropFirst_8 f_X6_17 hx (kl_l ⟨by omega, by omega⟩) (Nat.succ_ne_zero _) (fun q_8 h_8 => ?_)
    refine e_iconst dX6_dropFirst_11 ?_
    refine e_aload_n dX6_dropFirst_12 rfl ?_
    refine c_getR (kt := (20, 16, (150 + m))) (by omega) (Or.inl (by omega)) dX6_dropFirst_13 f_X6_17 hx (kl_l ⟨by omega, by omega⟩) (Nat.succ_ne_zero _) (fun q_13 h_13 => ?_)
    refine e_iconst dX6_dropFirst_16 ?_
    refine e_aload_n dX6_dropFirst_17 rfl ?_
    refine c_getI (by omega) dX6_dropFirst_18 f_X6_21 (Or.inl rfl) hx ?_
    rw [(hL m hm.1 hm.2).1]
    refine e_iconst dX6_dropFirst_21 ?_
    refine e_isub dX6_dropFirst_22 ?_
    refine c_acopy ⟨by omega, by omega⟩ (by omega) dX6_dropFirst_23 l_X6_34 (Nat.le_of_ble_eq_true rfl) ⟨by decide, by decide⟩ h_8 h_13 ⟨by omega, by omega⟩ ⟨by omega, by omega⟩ (by omega) ?_
    refine e_aload_n dX6_dropFirst_26 rfl ?_
    refine e_dup dX6_dropFirst_27 rfl ?_
    refine c_getI (by omega) dX6_dropFirst_28 f_X6_21 (Or.inl rfl) hx ?_
    try simp only [q_us_ap, editsF_3, Int.reduceEq, Int.reduceNeg, false_and, and_false, and_self, if_true, if_false, true_and, and_true, ite_self]
    rw [show q_cs C (150 + m) 1 (150 + m) 0 (ntF M m 16 - 1) (110 + m) 2 = ntF M m 16 from by rw [q_cs_ap, if_neg (by omega)]; exact (hL m hm.1 hm.2).1]
    refine e_iconst dX6_dropFirst_31 ?_
    refine e_isub dX6_dropFirst_32 ?_
    refine c_putI (by omega) dX6_dropFirst_33 f_X6_21 rfl hx (by omega) ⟨by omega, by omega⟩ ?_
    exact e_ret dX6_dropFirst_36 rfl (e_ok rfl rfl rfl)
set_option maxRecDepth 20000 in
set_option maxHeartbeats 4000000 in
theorem c_2_copyTo {K : q_K} {B C : q_S} {l : Nat} (hL2 : K l = (3, 0, 103)) {to fr : Int} (h1 : 0 ≤ to ∧ to < 512) (h2 : 0 ≤ fr ∧ fr < 512) (q1 : q_iI (C 121 fr)) (q2 : q_iI (C 122 fr)) (q3 : q_iI (C 123 fr)) : q_E mX2_copyTo 0 [some (q_R l), some (q_I to), some (q_I fr)] [] K B C 0 0 (e_is (none) K B (cpC C to fr)) := by
  refine e_aload_n dX2_copyTo_0 rfl ?_
  refine c_getR (kt := (20, 512, 121)) (by decide) (Or.inl (by decide)) dX2_copyTo_1 f_X2_9 hL2 rfl (Nat.succ_ne_zero _) (fun q_1 h_1 => ?_)
  refine e_iload_n dX2_copyTo_4 rfl ?_
  refine e_aload_n dX2_copyTo_5 rfl ?_
  refine c_getR (kt := (20, 512, 121)) (by decide) (Or.inl (by decide)) dX2_copyTo_6 f_X2_9 hL2 rfl (Nat.succ_ne_zero _) (fun q_6 h_6 => ?_)
  refine e_iload_n dX2_copyTo_9 rfl ?_
  refine c_iald (by decide) dX2_copyTo_10 h_6 (by omega) (by omega) ?_
  refine c_iast (by decide) dX2_copyTo_11 h_1 (by omega) (by omega) (by decide) q1 ?_
  refine e_aload_n dX2_copyTo_12 rfl ?_
  refine c_getR (kt := (20, 512, 122)) (by decide) (Or.inl (by decide)) dX2_copyTo_13 f_X2_15 hL2 rfl (Nat.succ_ne_zero _) (fun q_13 h_13 => ?_)
  refine e_iload_n dX2_copyTo_16 rfl ?_
  refine e_aload_n dX2_copyTo_17 rfl ?_
  refine c_getR (kt := (20, 512, 122)) (by decide) (Or.inl (by decide)) dX2_copyTo_18 f_X2_15 hL2 rfl (Nat.succ_ne_zero _) (fun q_18 h_18 => ?_)
  refine e_iload_n dX2_copyTo_21 rfl ?_
  refine c_iald (by decide) dX2_copyTo_22 h_18 (by omega) (by omega) ?_
  try simp only [q_us_ap, editsF_3, Int.reduceEq, Int.reduceNeg, false_and, and_false, and_self, if_true, if_false, true_and, and_true, ite_self]
  refine c_iast (by decide) dX2_copyTo_23 h_13 (by omega) (by omega) (by decide) q2 ?_
  refine e_aload_n dX2_copyTo_24 rfl ?_
  refine c_getR (kt := (20, 512, 123)) (by decide) (Or.inl (by decide)) dX2_copyTo_25 f_X2_18 hL2 rfl (Nat.succ_ne_zero _) (fun q_25 h_25 => ?_)
  refine e_iload_n dX2_copyTo_28 rfl ?_
  refine e_aload_n dX2_copyTo_29 rfl ?_
  refine c_getR (kt := (20, 512, 123)) (by decide) (Or.inl (by decide)) dX2_copyTo_30 f_X2_18 hL2 rfl (Nat.succ_ne_zero _) (fun q_30 h_30 => ?_)
  refine e_iload_n dX2_copyTo_33 rfl ?_
  refine c_iald (by decide) dX2_copyTo_34 h_30 (by omega) (by omega) ?_
  try simp only [q_us_ap, editsF_3, Int.reduceEq, Int.reduceNeg, false_and, and_false, and_self, if_true, if_false, true_and, and_true, ite_self]
  refine c_iast (by decide) dX2_copyTo_35 h_25 (by omega) (by omega) (by decide) q3 ?_
  exact e_ret dX2_copyTo_36 rfl (e_ok rfl rfl rfl)
theorem re_rg {M C : q_S} (h : RE M C) (hW : WR M) {i : Int} (hi : 0 ≤ i ∧ i < C 103 3) : (0 ≤ C 121 i ∧ C 121 i ≤ 2) ∧ (0 ≤ C 122 i ∧ C 122 i ≤ 15) ∧ 0 < C 123 i ∧ C 123 i ≤ 2100 := by
  obtain ⟨hn, e, h1, -, -⟩ := h
  have g := h1 i hi.1 hi.2
  have g2 : 0 ≤ M 15 (e i) ∧ M 15 (e i) ≤ 2100 := hW 15 _
  exact ⟨g.2.2.1, g.2.2.2.1, g.2.2.2.2.2, by omega⟩
set_option maxRecDepth 20000 in
set_option maxHeartbeats 4000000 in
theorem c_2_addT {K : q_K} {B C : q_S} {l : Nat} (hL2 : K l = (3, 0, 103)) {m f d : Int} (hm : 0 ≤ m ∧ m ≤ 2) (hf : 0 ≤ f ∧ f ≤ 15) (hd : 0 < d ∧ d ≤ 2100) (hn : (C 103 3) < 512) (hn0 : 0 ≤ (C 103 3)) (j : Int) (hj : 0 ≤ j) (hj2 : j ≤ (C 103 3)) : q_E mX2_add 51 [some (q_R l), some (q_I m), some (q_I f), some (q_I d), some (q_I j)] [] K B (shC C j (C 103 3)) 0 0 (e_is (none) K B (adC C j (C 103 3) m f d)) := by
  have s3 : shC C j (C 103 3) 103 3 = (C 103 3) := by rw [shC_ap, if_neg (by omega)]
  refine e_aload_n dX2_add_51 rfl ?_
  refine c_getR (kt := (20, 512, 121)) (by decide) (Or.inl (by decide)) dX2_add_52 f_X2_9 hL2 rfl (Nat.succ_ne_zero _) (fun q_52 h_52 => ?_)
  refine e_iload dX2_add_55 rfl ?_
  refine e_iload_n dX2_add_57 rfl ?_
  refine c_iast (by decide) dX2_add_58 h_52 (by omega) (by omega) (by decide) ⟨by omega, by omega⟩ ?_
  refine e_aload_n dX2_add_59 rfl ?_
  refine c_getR (kt := (20, 512, 122)) (by decide) (Or.inl (by decide)) dX2_add_60 f_X2_15 hL2 rfl (Nat.succ_ne_zero _) (fun q_60 h_60 => ?_)
  refine e_iload dX2_add_63 rfl ?_
  refine e_iload_n dX2_add_65 rfl ?_
  refine c_iast (by decide) dX2_add_66 h_60 (by omega) (by omega) (by decide) ⟨by omega, by omega⟩ ?_
  refine e_aload_n dX2_add_67 rfl ?_
  refine c_getR (kt := (20, 512, 123)) (by decide) (Or.inl (by decide)) dX2_add_68 f_X2_18 hL2 rfl (Nat.succ_ne_zero _) (fun q_68 h_68 => ?_)
  refine e_iload dX2_add_71 rfl ?_
  refine e_iload_n dX2_add_73 rfl ?_
  refine c_iast (by decide) dX2_add_74 h_68 (by omega) (by omega) (by decide) ⟨by omega, by omega⟩ ?_
  refine e_aload_n dX2_add_75 rfl ?_
  refine e_dup dX2_add_76 rfl ?_
  refine c_getI (by decide) dX2_add_77 f_X2_21 (Or.inl rfl) hL2 ?_
  try simp only [q_us_ap, editsF_3, Int.reduceEq, Int.reduceNeg, false_and, and_false, and_self, if_true, if_false, true_and, and_true, ite_self]
  rw [s3]
  refine e_iconst dX2_add_80 ?_
  refine e_iadd dX2_add_81 ?_
  refine c_putI (by decide) dX2_add_82 f_X2_21 rfl hL2 (by decide) ⟨by omega, by omega⟩ ?_
  exact e_ret dX2_add_85 rfl (e_ok rfl rfl rfl)
set_option maxRecDepth 20000 in
set_option maxHeartbeats 4000000 in
theorem c_2_add {K : q_K} {B M C : q_S} {l : Nat} (hL2 : K l = (3, 0, 103)) (hE : RE M C) (hW : WR M) (hn : (C 103 3) < 512) {m f d : Int} (hm : 0 ≤ m ∧ m ≤ 2) (hf : 0 ≤ f ∧ f ≤ 15) (hd : 0 < d ∧ d ≤ 2100) : q_E mX2_add 0 [some (q_R l), some (q_I m), some (q_I f), some (q_I d), none] [] K B C 0 0 (e_is (none) K B (adC C (evJ C d (C 103 3).toNat) (C 103 3) m f d)) := by
  have hn0 := hE.1
  have s3 : ∀ pl n, shC C pl n 103 3 = (C 103 3) := fun pl n => by rw [shC_ap, if_neg (by omega)]
  have sv : ∀ pl n t i, i ≤ pl → shC C pl n t i = C t i := fun pl n t i h => by rw [shC_ap, if_neg (by omega)]
  have lp : ∀ r : Nat, (r : Int) ≤ (C 103 3) → evJ C d (C 103 3).toNat = evJ C d r → q_E mX2_add 17 [some (q_R l), some (q_I m), some (q_I f), some (q_I d), some (q_I ((r : Nat) : Int))] [] K B (shC C r (C 103 3)) 0 0 (e_is (none) K B (adC C (evJ C d (C 103 3).toNat) (C 103 3) m f d)) := by
    intro r
    induction r with
    | zero =>
      intro h1 h2
      refine e_iload dX2_add_17 rfl ?_
      refine e_if_le (tgt := 51) dX2_add_19 (by decide) ⟨by omega, by omega⟩ (fun c_19 => ?_) (fun c_19 => ?_)
      · rw [h2]
        exact c_2_addT hL2 hm hf hd hn hn0.1 0 (Int.le_refl _) h1
      · exfalso; omega
    | succ r ih =>
      intro h1 h2
      have er := re_rg hE hW (i := r) ⟨by omega, by omega⟩
      by_cases e : d < C 123 r
      · have e2 : evJ C d (r + 1) = evJ C d r := by simp only [evJ]; rw [if_pos e]
        have es := shC_s C (pl := ((r + 1 : Nat) : Int)) (n := (C 103 3)) ⟨by omega, h1⟩
        rw [show ((r + 1 : Nat) : Int) - 1 = r by omega] at es
        have ihx := ih (by omega) (by rw [h2, e2])
        refine e_iload dX2_add_17 rfl ?_
        refine e_if_le (tgt := 51) dX2_add_19 (by decide) ⟨by omega, by omega⟩ (fun c_19 => ?_) (fun c_19 => ?_)
        · exfalso; omega
        · refine e_aload_n dX2_add_22 rfl ?_
          refine c_getR (kt := (20, 512, 123)) (by decide) (Or.inl (by decide)) dX2_add_23 f_X2_18 hL2 rfl (Nat.succ_ne_zero _) (fun q_23 h_23 => ?_)
          refine e_iload dX2_add_26 rfl ?_
          refine e_iconst dX2_add_28 ?_
          refine e_isub dX2_add_29 ?_
          refine c_iald (by decide) dX2_add_30 h_23 (by omega) (by omega) ?_
          rw [sv _ _ _ _ (by omega), show ((r + 1 : Nat) : Int) - 1 = r by omega]
          refine e_iload_n dX2_add_31 rfl ?_
          refine e_icmp_le (tgt := 51) dX2_add_32 (by decide) ⟨by omega, by omega⟩ ⟨by omega, by omega⟩ (fun c_32 => ?_) (fun c_32 => ?_)
          · exfalso; omega
          · refine e_aload_n dX2_add_35 rfl ?_
            refine e_iload dX2_add_36 rfl ?_
            refine e_iload dX2_add_38 rfl ?_
            refine e_iconst dX2_add_40 ?_
            refine e_isub dX2_add_41 ?_
            refine e_cV (as := [_, _]) (ci := 2) dX2_add_42 k_X2_copyTo l_X2_25 i_X2_copyTo v_X2_copyTo hL2 rfl (by decide) ⟨_, _, rfl⟩ rfl rfl rfl rfl (Nat.le_of_ble_eq_true rfl) ⟨by decide, by decide⟩ (Nat.le_of_ble_eq_true rfl) (by decide) (c_2_copyTo hL2 ⟨by omega, by omega⟩ ⟨by omega, by omega⟩ (by rw [sv _ _ _ _ (by omega), show ((r + 1 : Nat) : Int) - 1 = r by omega]; exact ⟨by omega, by omega⟩) (by rw [sv _ _ _ _ (by omega), show ((r + 1 : Nat) : Int) - 1 = r by omega]; exact ⟨by omega, by omega⟩) (by rw [sv _ _ _ _ (by omega), show ((r + 1 : Nat) : Int) - 1 = r by omega]; exact ⟨by omega, by omega⟩)) ?_
            refine e_iinc (ls2 := [_, _, _, _, _]) dX2_add_45 rfl (Nat.le_of_ble_eq_true rfl) rfl ?_
            refine e_goto (tgt := 17) dX2_add_48 (by decide) ?_
            rw [show ((r + 1 : Nat) : Int) + (-1) = r by omega, show ((r + 1 : Nat) : Int) - 1 = r by omega, es]
            exact ihx
      · have e2 : evJ C d (r + 1) = (r : Int) + 1 := by simp only [evJ]; rw [if_neg e]
        rw [h2, e2, show (r : Int) + 1 = ((r + 1 : Nat) : Int) by omega]
        refine e_iload dX2_add_17 rfl ?_
        refine e_if_le (tgt := 51) dX2_add_19 (by decide) ⟨by omega, by omega⟩ (fun c_19 => ?_) (fun c_19 => ?_)
        · exfalso; omega
        · refine e_aload_n dX2_add_22 rfl ?_
          refine c_getR (kt := (20, 512, 123)) (by decide) (Or.inl (by decide)) dX2_add_23 f_X2_18 hL2 rfl (Nat.succ_ne_zero _) (fun q_23 h_23 => ?_)
          refine e_iload dX2_add_26 rfl ?_
          refine e_iconst dX2_add_28 ?_
          refine e_isub dX2_add_29 ?_
          refine c_iald (by decide) dX2_add_30 h_23 (by omega) (by omega) ?_
          rw [sv _ _ _ _ (by omega), show ((r + 1 : Nat) : Int) - 1 = r by omega]
          refine e_iload_n dX2_add_31 rfl ?_
          refine e_icmp_le (tgt := 51) dX2_add_32 (by decide) ⟨by omega, by omega⟩ ⟨by omega, by omega⟩ (fun c_32 => ?_) (fun c_32 => ?_)
          · exact c_2_addT hL2 hm hf hd hn hn0.1 _ (by omega) h1
          · exfalso; omega
  refine e_aload_n dX2_add_0 rfl ?_
  refine c_getI (by decide) dX2_add_1 f_X2_21 (Or.inl rfl) hL2 ?_
  refine e_sipush dX2_add_4 (by decide) ?_
  refine e_icmp_lt (tgt := 11) dX2_add_7 (by decide) ⟨by omega, by omega⟩ ⟨by omega, by omega⟩ (fun c_7 => ?_) (fun c_7 => ?_)
  · refine e_aload_n dX2_add_11 rfl ?_
    refine c_getI (by decide) dX2_add_12 f_X2_21 (Or.inl rfl) hL2 ?_
    refine e_istore (ls2 := [_, _, _, _, _]) dX2_add_15 (Nat.le_of_ble_eq_true rfl) rfl ?_
    have e0 := lp (C 103 3).toNat (by omega) rfl
    rw [show ((C 103 3).toNat : Int) = (C 103 3) by omega, shC_n] at e0
    exact e0
  · exfalso; omega
set_option maxRecDepth 20000 in
set_option maxHeartbeats 4000000 in
theorem c_2_comeBy {K : q_K} {B M C : q_S} {l : Nat} (hL2 : K l = (3, 0, 103)) (hE : RE M C) (hW : WR M) (hn : (C 103 3) ≤ 512) {h : Int} (hh : 0 ≤ h ∧ h ≤ 2100) : q_E mX2_comeBy 0 [some (q_R l), some (q_I h), none] [] K B C 0 0 (e_is (some (q_I (cbF C (C 103 3) h ((C 103 3).toNat + 1) 0))) K B (C)) := by
  have hn0 := hE.1
  have lp : ∀ (r : Nat) (i : Int), (C 103 3) - i < r → 0 ≤ i → i ≤ (C 103 3) → q_E mX2_comeBy 2 [some (q_R l), some (q_I h), some (q_I i)] [] K B C 0 0 (e_is (some (q_I (cbF C (C 103 3) h r i))) K B (C)) := by
    intro r
    induction r with
    | zero => intro i h1 h2 h3; exfalso; omega
    | succ r ih =>
      intro i h1 h2 h3
      have er := fun g => re_rg hE hW (i := i) ⟨h2, g⟩
      simp only [cbF]
      refine e_iload_n dX2_comeBy_2 rfl ?_
      refine e_aload_n dX2_comeBy_3 rfl ?_
      refine c_getI (by decide) dX2_comeBy_4 f_X2_21 (Or.inl rfl) hL2 ?_
      refine e_icmp_ge (tgt := 26) dX2_comeBy_7 (by decide) ⟨by omega, by omega⟩ ⟨by omega, by omega⟩ (fun c_7 => ?_) (fun c_7 => ?_)
      · refine e_iload_n dX2_comeBy_26 rfl ?_
        exact e_iret dX2_comeBy_27 (Or.inl rfl) (e_ok (by rw [if_neg (by omega)]) rfl rfl)
      · have er2 := er (by omega)
        refine e_aload_n dX2_comeBy_10 rfl ?_
        refine c_getR (kt := (20, 512, 123)) (by decide) (Or.inl (by decide)) dX2_comeBy_11 f_X2_18 hL2 rfl (Nat.succ_ne_zero _) (fun q_11 h_11 => ?_)
        refine e_iload_n dX2_comeBy_14 rfl ?_
        refine c_iald (by decide) dX2_comeBy_15 h_11 (by omega) (by omega) ?_
        refine e_iload_n dX2_comeBy_16 rfl ?_
        refine e_icmp_gt (tgt := 26) dX2_comeBy_17 (by decide) ⟨by omega, by omega⟩ ⟨by omega, by omega⟩ (fun c_17 => ?_) (fun c_17 => ?_)
        · refine e_iload_n dX2_comeBy_26 rfl ?_
          exact e_iret dX2_comeBy_27 (Or.inl rfl) (e_ok (by rw [if_neg (by omega)]) rfl rfl)
        · refine e_iinc (ls2 := [_, _, _]) dX2_comeBy_20 rfl (Nat.le_of_ble_eq_true rfl) rfl ?_
          refine e_goto (tgt := 2) dX2_comeBy_23 (by decide) ?_
          rw [if_pos ⟨by omega, by omega⟩]
          exact ih (i + 1) (by omega) (by omega) (by omega)
  refine e_iconst dX2_comeBy_0 ?_
  refine e_istore_n (ls2 := [_, _, _]) dX2_comeBy_1 (Nat.le_of_ble_eq_true rfl) rfl ?_
  exact lp ((C 103 3).toNat + 1) 0 (by omega) (Int.le_refl _) hn0.1
set_option maxRecDepth 20000 in
set_option maxHeartbeats 4000000 in
theorem c_2_dropFirst {K : q_K} {B M C : q_S} {l : Nat} (hL2 : K l = (3, 0, 103)) (hE : RE M C) (hW : WR M) (hn : (C 103 3) ≤ 512) {g : Int} (hg : 0 ≤ g ∧ g ≤ (C 103 3)) : q_E mX2_dropFirst 0 [some (q_R l), some (q_I g), none] [] K B C 0 0 (e_is (none) K B (dfC C g (C 103 3))) := by
  have hn0 := hE.1
  have s3 : ∀ pl, drC C g pl 103 3 = (C 103 3) := fun pl => by rw [drC_ap, if_neg (by omega)]
  have sv : ∀ pl t, 0 ≤ pl → drC C g pl t pl = C t pl := fun pl t h => by
    rw [drC_ap]
    by_cases e : (121 ≤ t ∧ t ≤ 123) ∧ 0 ≤ pl ∧ pl < pl - g
    · omega
    · rw [if_neg e]
  have lp : ∀ (r j : Nat), g + j + r = (C 103 3) → q_E mX2_dropFirst 2 [some (q_R l), some (q_I g), some (q_I (g + (j : Int)))] [] K B (drC C g (g + (j : Int))) 0 0 (e_is (none) K B (dfC C g (C 103 3))) := by
    intro r
    induction r with
    | zero =>
      intro j h1
      refine e_iload_n dX2_dropFirst_2 rfl ?_
      refine e_aload_n dX2_dropFirst_3 rfl ?_
      refine c_getI (by decide) dX2_dropFirst_4 f_X2_21 (Or.inl rfl) hL2 ?_
      rw [s3]
      refine e_icmp_ge (tgt := 24) dX2_dropFirst_7 (by decide) ⟨by omega, by omega⟩ ⟨by omega, by omega⟩ (fun c_7 => ?_) (fun c_7 => ?_)
      · refine e_aload_n dX2_dropFirst_24 rfl ?_
        refine e_dup dX2_dropFirst_25 rfl ?_
        refine c_getI (by decide) dX2_dropFirst_26 f_X2_21 (Or.inl rfl) hL2 ?_
        rw [s3]
        refine e_iload_n dX2_dropFirst_29 rfl ?_
        refine e_isub dX2_dropFirst_30 ?_
        refine c_putI (by decide) dX2_dropFirst_31 f_X2_21 rfl hL2 (by decide) ⟨by omega, by omega⟩ ?_
        exact e_ret dX2_dropFirst_34 rfl (e_ok rfl rfl (by rw [show g + (j : Int) = (C 103 3) by omega]; rfl))
      · exfalso; omega
    | succ r ih =>
      intro j h1
      have er := re_rg hE hW (i := g + (j : Int)) ⟨by omega, by omega⟩
      have es := drC_s C (g := g) (pl := g + (j : Int)) ⟨hg.1, by omega⟩
      have ihx := ih (j + 1) (by omega)
      rw [show g + ((j + 1 : Nat) : Int) = g + (j : Int) + 1 by omega] at ihx
      refine e_iload_n dX2_dropFirst_2 rfl ?_
      refine e_aload_n dX2_dropFirst_3 rfl ?_
      refine c_getI (by decide) dX2_dropFirst_4 f_X2_21 (Or.inl rfl) hL2 ?_
      rw [s3]
      refine e_icmp_ge (tgt := 24) dX2_dropFirst_7 (by decide) ⟨by omega, by omega⟩ ⟨by omega, by omega⟩ (fun c_7 => ?_) (fun c_7 => ?_)
      · exfalso; omega
      · refine e_aload_n dX2_dropFirst_10 rfl ?_
        refine e_iload_n dX2_dropFirst_11 rfl ?_
        refine e_iload_n dX2_dropFirst_12 rfl ?_
        refine e_isub dX2_dropFirst_13 ?_
        refine e_iload_n dX2_dropFirst_14 rfl ?_
        refine e_cV (as := [_, _]) (ci := 2) dX2_dropFirst_15 k_X2_copyTo l_X2_25 i_X2_copyTo v_X2_copyTo hL2 rfl (by decide) ⟨_, _, rfl⟩ rfl rfl rfl rfl (Nat.le_of_ble_eq_true rfl) ⟨by decide, by decide⟩ (Nat.le_of_ble_eq_true rfl) (by decide) (c_2_copyTo hL2 ⟨by omega, by omega⟩ ⟨by omega, by omega⟩ (by rw [sv _ _ (by omega)]; exact ⟨by omega, by omega⟩) (by rw [sv _ _ (by omega)]; exact ⟨by omega, by omega⟩) (by rw [sv _ _ (by omega)]; exact ⟨by omega, by omega⟩)) ?_
        refine e_iinc (ls2 := [_, _, _]) dX2_dropFirst_18 rfl (Nat.le_of_ble_eq_true rfl) rfl ?_
        refine e_goto (tgt := 2) dX2_dropFirst_21 (by decide) ?_
        rw [es]
        exact ihx
  refine e_iload_n dX2_dropFirst_0 rfl ?_
  refine e_istore_n (ls2 := [_, _, _]) dX2_dropFirst_1 (Nat.le_of_ble_eq_true rfl) rfl ?_
  have e0 := lp ((C 103 3) - g).toNat 0 (by omega)
  rw [show g + ((0 : Nat) : Int) = g by omega, drC_0] at e0
  exact e0
set_option maxRecDepth 20000 in
set_option maxHeartbeats 4000000 in
theorem c_2_dropOf {K : q_K} {B M C : q_S} {l : Nat} (hL2 : K l = (3, 0, 103)) (hE : RE M C) (hW : WR M) (hn : (C 103 3) ≤ 512) {m : Int} (hm : 0 ≤ m ∧ m ≤ 2) : q_E mX2_dropOf 0 [some (q_R l), some (q_I m), none, none] [] K B C 0 0 (e_is (some (q_I ((C 103 3) - (kpE C m (C 103 3).toNat).1))) K B (doC C m)) := by
  have hn0 := hE.1
  have lp : ∀ (r k : Nat), k + r = (C 103 3).toNat → q_E mX2_dropOf 4 [some (q_R l), some (q_I m), some (q_I (kpE C m k).1), some (q_I (k : Int))] [] K B (kpE C m k).2 0 0 (e_is (some (q_I ((C 103 3) - (kpE C m (C 103 3).toNat).1))) K B (doC C m)) := by
    intro r
    induction r with
    | zero =>
      intro k h1
      have sp := kpE_sp C m k
      have s3 : (kpE C m k).2 103 3 = (C 103 3) := sp.2.1 103 3 (Or.inr (by decide))
      have ek : (C 103 3).toNat = k := by omega
      refine e_iload_n dX2_dropOf_4 rfl ?_
      refine e_aload_n dX2_dropOf_5 rfl ?_
      refine c_getI (by decide) dX2_dropOf_6 f_X2_21 (Or.inl rfl) hL2 ?_
      rw [s3]
      refine e_icmp_ge (tgt := 37) dX2_dropOf_9 (by decide) ⟨by omega, by omega⟩ ⟨by omega, by omega⟩ (fun c_9 => ?_) (fun c_9 => ?_)
      · refine e_aload_n dX2_dropOf_37 rfl ?_
        refine c_getI (by decide) dX2_dropOf_38 f_X2_21 (Or.inl rfl) hL2 ?_
        rw [s3]
        refine e_iload_n dX2_dropOf_41 rfl ?_
        refine e_isub dX2_dropOf_42 ?_
        refine e_istore_n (ls2 := [_, _, _, _]) dX2_dropOf_43 (Nat.le_of_ble_eq_true rfl) rfl ?_
        refine e_aload_n dX2_dropOf_44 rfl ?_
        refine e_iload_n dX2_dropOf_45 rfl ?_
        refine c_putI (by decide) dX2_dropOf_46 f_X2_21 rfl hL2 (by decide) ⟨by omega, by omega⟩ ?_
        refine e_iload_n dX2_dropOf_49 rfl ?_
        exact e_iret dX2_dropOf_50 (Or.inl rfl) (e_ok (by rw [ek]) rfl (by unfold doC; rw [ek]))
      · exfalso; omega
    | succ r ih =>
      intro k h1
      have sp := kpE_sp C m k
      have s3 : (kpE C m k).2 103 3 = (C 103 3) := sp.2.1 103 3 (Or.inr (by decide))
      have sv : ∀ t, (kpE C m k).2 t (k : Int) = C t (k : Int) := fun t => sp.2.1 t _ (Or.inl sp.1.2)
      have er := re_rg hE hW (i := (k : Int)) ⟨by omega, by omega⟩
      have ihx := ih (k + 1) (by omega)
      simp only [kpE] at ihx
      refine e_iload_n dX2_dropOf_4 rfl ?_
      refine e_aload_n dX2_dropOf_5 rfl ?_
      refine c_getI (by decide) dX2_dropOf_6 f_X2_21 (Or.inl rfl) hL2 ?_
      rw [s3]
      refine e_icmp_ge (tgt := 37) dX2_dropOf_9 (by decide) ⟨by omega, by omega⟩ ⟨by omega, by omega⟩ (fun c_9 => ?_) (fun c_9 => ?_)
      · exfalso; omega
      · refine e_aload_n dX2_dropOf_12 rfl ?_
        refine c_getR (kt := (20, 512, 121)) (by decide) (Or.inl (by decide)) dX2_dropOf_13 f_X2_9 hL2 rfl (Nat.succ_ne_zero _) (fun q_13 h_13 => ?_)
        refine e_iload_n dX2_dropOf_16 rfl ?_
        refine c_iald (by decide) dX2_dropOf_17 h_13 (by omega) (by omega) ?_
        rw [sv]
        refine e_iload_n dX2_dropOf_18 rfl ?_
        refine e_icmp_eq (tgt := 31) dX2_dropOf_19 (by decide) ⟨by omega, by omega⟩ ⟨by omega, by omega⟩ (fun c_19 => ?_) (fun c_19 => ?_)
        · refine e_iinc (ls2 := [_, _, _, _]) dX2_dropOf_31 rfl (Nat.le_of_ble_eq_true rfl) rfl ?_
          refine e_goto (tgt := 4) dX2_dropOf_34 (by decide) ?_
          rw [show ((k + 1 : Nat) : Int) = (k : Int) + 1 by omega] at ihx
          first | (rw [if_pos (show ¬ C 121 k = m from c_19)] at ihx; exact ihx) | (rw [if_neg (fun g => g (show C 121 k = m from c_19))] at ihx; exact ihx)
        · refine e_aload_n dX2_dropOf_22 rfl ?_
          refine e_iload_n dX2_dropOf_23 rfl ?_
          refine e_iload_n dX2_dropOf_24 rfl ?_
          refine e_cV (as := [_, _]) (ci := 2) dX2_dropOf_25 k_X2_copyTo l_X2_25 i_X2_copyTo v_X2_copyTo hL2 rfl (by decide) ⟨_, _, rfl⟩ rfl rfl rfl rfl (Nat.le_of_ble_eq_true rfl) ⟨by decide, by decide⟩ (Nat.le_of_ble_eq_true rfl) (by decide) (c_2_copyTo hL2 ⟨by omega, by omega⟩ ⟨by omega, by omega⟩ (by rw [sv]; exact ⟨by omega, by omega⟩) (by rw [sv]; exact ⟨by omega, by omega⟩) (by rw [sv]; exact ⟨by omega, by omega⟩)) ?_
          refine e_iinc (ls2 := [_, _, _, _]) dX2_dropOf_28 rfl (Nat.le_of_ble_eq_true rfl) rfl ?_
          refine e_iinc (ls2 := [_, _, _, _]) dX2_dropOf_31 rfl (Nat.le_of_ble_eq_true rfl) rfl ?_
          refine e_goto (tgt := 4) dX2_dropOf_34 (by decide) ?_
          rw [show ((k + 1 : Nat) : Int) = (k : Int) + 1 by omega] at ihx
          first | (rw [if_pos (show ¬ C 121 k = m from c_19)] at ihx; exact ihx) | (rw [if_neg (fun g => g (show C 121 k = m from c_19))] at ihx; exact ihx)
  refine e_iconst dX2_dropOf_0 ?_
  refine e_istore_n (ls2 := [_, _, _, _]) dX2_dropOf_1 (Nat.le_of_ble_eq_true rfl) rfl ?_
  refine e_iconst dX2_dropOf_2 ?_
  refine e_istore_n (ls2 := [_, _, _, _]) dX2_dropOf_3 (Nat.le_of_ble_eq_true rfl) rfl ?_
  exact lp (C 103 3).toNat 0 (by omega)
