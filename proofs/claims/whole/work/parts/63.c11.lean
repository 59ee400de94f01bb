set_option maxRecDepth 20000 in
set_option maxHeartbeats 4000000 in
theorem c_0_initL {K : q_K} {B C : q_S} {x y a b : Nat} {c : Int} (hx : K x = (1, 0, 900)) (hy : 0 < mlen c → K y = (20, 12, 101)) (ha : K a = (20, 12, 300)) (hb : K b = (20, 12, 301)) (hc : vcode c) (hrow : ∀ i, 0 ≤ i → i < mlen c → C 101 i = fig c i) : ∀ (r k : Nat), k + r = mlen c → q_E mX0_init 41 [some (q_R x), some (q_R y), some (q_I (mlen c)), some (q_I (mlen c)), some (q_I (cSt c k).1), some (q_I (cSt c k).2.1), some (q_I (k : Int))] [] K B (ciC C c k) 0 0 (e_is none K B (cfC C c)) := by
  have hl := vcode_len hc
  intro r
  induction r with
  | zero =>
    intro k h1
    have cs := cSt_rg c k
    have ek : (mlen c).toNat = k := by omega
    refine e_iload dX0_init_41 rfl ?_
    refine e_iload_n dX0_init_43 rfl ?_
    refine e_icmp_ge (tgt := 114) dX0_init_44 (by decide) ⟨by omega, by omega⟩ ⟨by omega, by omega⟩ (fun c_44 => ?_) (fun c_44 => ?_)
    · refine e_aload_n dX0_init_114 rfl ?_
      refine e_iload_n dX0_init_115 rfl ?_
      refine e_iconst dX0_init_116 ?_
      refine e_mmax dX0_init_117 l_X0_24 (Nat.le_of_ble_eq_true rfl) ⟨by decide, by decide⟩ ⟨by omega, by omega⟩ ⟨by omega, by omega⟩ ?_
      rw [show max (mlen c) 0 = mlen c by omega]
      refine c_putIf (by decide) dX0_init_120 f_X0_27 (Or.inr ⟨rfl, _, _, rfl⟩) hx (by decide) ⟨by omega, by omega⟩ ?_
      refine e_aload_n dX0_init_123 rfl ?_
      refine e_iload dX0_init_124 rfl ?_
      refine c_putIf (by decide) dX0_init_126 f_X0_31 (Or.inr ⟨rfl, _, _, rfl⟩) hx (by decide) ⟨by omega, by omega⟩ ?_
      exact e_ret dX0_init_129 rfl (e_ok rfl rfl (by unfold cfC ncut; rw [ek]))
    · exfalso; omega
  | succ r ih =>
    intro k h1
    replace hy := hy (by omega)
    have cs := cSt_rg c k
    have fr := fig_rg c k
    have r1 : ciC C c k 101 (k : Int) = fig c k := by rw [ciC_ap, if_neg (by decide), if_neg (by decide), ciB_o (by decide) (by decide) (by decide)]; exact hrow k (by omega) (by omega)
    have ihx := ih (k + 1) (by omega)
    have s1 := ciC_s1 C c k
    have s0 := ciC_s0 C c k
    have c1 : (fig c k = 0 ∨ 10000 ≤ 10 * (cSt c k).2.1 + fig c k ∨ (k : Int) = mlen c - 1) → cSt c (k + 1) = ((cSt c k).1 + 1, 1, fun j => if j = (cSt c k).1 then 10 * (cSt c k).2.1 + fig c k else (cSt c k).2.2 j) := fun h => by simp only [cSt]; rw [if_pos h]
    have c0 : ¬ (fig c k = 0 ∨ 10000 ≤ 10 * (cSt c k).2.1 + fig c k ∨ (k : Int) = mlen c - 1) → cSt c (k + 1) = ((cSt c k).1, 10 * (cSt c k).2.1 + fig c k, (cSt c k).2.2) := fun h => by simp only [cSt]; rw [if_neg h]
    have e9 : (cSt c k).2.1 * 10 + fig c k = 10 * (cSt c k).2.1 + fig c k := by omega
    refine e_iload dX0_init_41 rfl ?_
    refine e_iload_n dX0_init_43 rfl ?_
    refine e_icmp_ge (tgt := 114) dX0_init_44 (by decide) ⟨by omega, by omega⟩ ⟨by omega, by omega⟩ (fun c_44 => ?_) (fun c_44 => ?_)
    · exfalso; omega
    · refine e_aload_n dX0_init_47 rfl ?_
      refine c_getR (kt := (20, 12, 300)) (by decide) (Or.inr (by show (1 : Int) ≠ 0; decide)) dX0_init_48 f_X0_9 hx rfl (Nat.succ_ne_zero _) (fun q_48 h_48 => ?_)
      refine e_iload dX0_init_51 rfl ?_
      refine e_aload_n dX0_init_53 rfl ?_
      refine e_iload dX0_init_54 rfl ?_
      refine c_iald (by decide) dX0_init_56 hy (by omega) (by omega) ?_
      rw [r1]
      refine c_iast (by decide) dX0_init_57 h_48 (by omega) (by omega) (by decide) ⟨by omega, by omega⟩ ?_
      refine e_iload dX0_init_58 rfl ?_
      refine e_bipush dX0_init_60 (by decide) ?_
      refine e_imul dX0_init_62 ?_
      refine e_aload_n dX0_init_63 rfl ?_
      refine e_iload dX0_init_64 rfl ?_
      refine c_iald (by decide) dX0_init_66 hy (by omega) (by omega) ?_
      try simp only [q_us_ap, editsF_3, Int.reduceEq, Int.reduceNeg, false_and, and_false, and_self, if_true, if_false, true_and, and_true, ite_self]
      rw [r1]
      refine e_iadd dX0_init_67 ?_
      refine e_istore (ls2 := [_, _, _, _, _, _, _]) dX0_init_68 (Nat.le_of_ble_eq_true rfl) rfl ?_
      refine e_aload_n dX0_init_70 rfl ?_
      refine e_iload dX0_init_71 rfl ?_
      refine c_iald (by decide) dX0_init_73 hy (by omega) (by omega) ?_
      try simp only [q_us_ap, editsF_3, Int.reduceEq, Int.reduceNeg, false_and, and_false, and_self, if_true, if_false, true_and, and_true, ite_self]
      rw [r1]
      refine e_if_eq (tgt := 93) dX0_init_74 (by decide) ⟨by omega, by omega⟩ (fun c_74 => ?_) (fun c_74 => ?_)
      · refine e_aload_n dX0_init_93 rfl ?_
        refine c_getR (kt := (20, 12, 301)) (by decide) (Or.inr (by show (1 : Int) ≠ 0; decide)) dX0_init_94 f_X0_15 hx rfl (Nat.succ_ne_zero _) (fun q_94 h_94 => ?_)
        refine e_iload dX0_init_97 rfl ?_
        refine e_iload dX0_init_99 rfl ?_
        refine c_iast (by decide) dX0_init_101 h_94 (by omega) (by omega) (by decide) ⟨by omega, by omega⟩ ?_
        refine e_iinc (ls2 := [_, _, _, _, _, _, _]) dX0_init_102 rfl (Nat.le_of_ble_eq_true rfl) rfl ?_
        refine e_iconst dX0_init_105 ?_
        refine e_istore (ls2 := [_, _, _, _, _, _, _]) dX0_init_106 (Nat.le_of_ble_eq_true rfl) rfl ?_
        refine e_iinc (ls2 := [_, _, _, _, _, _, _]) dX0_init_108 rfl (Nat.le_of_ble_eq_true rfl) rfl ?_
        refine e_goto (tgt := 41) dX0_init_111 (by decide) ?_
        first | (rw [e9, s1 (by omega)]; rw [c1 (by omega)] at ihx; exact ihx) | (rw [e9, s0 (by omega)]; rw [c0 (by omega)] at ihx; exact ihx)
      · refine e_iload dX0_init_77 rfl ?_
        refine e_sipush dX0_init_79 (by decide) ?_
        refine e_icmp_ge (tgt := 93) dX0_init_82 (by decide) ⟨by omega, by omega⟩ ⟨by omega, by omega⟩ (fun c_82 => ?_) (fun c_82 => ?_)
        · refine e_aload_n dX0_init_93 rfl ?_
          refine c_getR (kt := (20, 12, 301)) (by decide) (Or.inr (by show (1 : Int) ≠ 0; decide)) dX0_init_94 f_X0_15 hx rfl (Nat.succ_ne_zero _) (fun q_94 h_94 => ?_)
          refine e_iload dX0_init_97 rfl ?_
          refine e_iload dX0_init_99 rfl ?_
          refine c_iast (by decide) dX0_init_101 h_94 (by omega) (by omega) (by decide) ⟨by omega, by omega⟩ ?_
          refine e_iinc (ls2 := [_, _, _, _, _, _, _]) dX0_init_102 rfl (Nat.le_of_ble_eq_true rfl) rfl ?_
          refine e_iconst dX0_init_105 ?_
          refine e_istore (ls2 := [_, _, _, _, _, _, _]) dX0_init_106 (Nat.le_of_ble_eq_true rfl) rfl ?_
          refine e_iinc (ls2 := [_, _, _, _, _, _, _]) dX0_init_108 rfl (Nat.le_of_ble_eq_true rfl) rfl ?_
          refine e_goto (tgt := 41) dX0_init_111 (by decide) ?_
          first | (rw [e9, s1 (by omega)]; rw [c1 (by omega)] at ihx; exact ihx) | (rw [e9, s0 (by omega)]; rw [c0 (by omega)] at ihx; exact ihx)
        · refine e_iload dX0_init_85 rfl ?_
          refine e_iload_n dX0_init_87 rfl ?_
          refine e_iconst dX0_init_88 ?_
          refine e_isub dX0_init_89 ?_
          refine e_icmp_ne (tgt := 108) dX0_init_90 (by decide) ⟨by omega, by omega⟩ ⟨by omega, by omega⟩ (fun c_90 => ?_) (fun c_90 => ?_)
          · refine e_iinc (ls2 := [_, _, _, _, _, _, _]) dX0_init_108 rfl (Nat.le_of_ble_eq_true rfl) rfl ?_
            refine e_goto (tgt := 41) dX0_init_111 (by decide) ?_
            first | (rw [e9, s1 (by omega)]; rw [c1 (by omega)] at ihx; exact ihx) | (rw [e9, s0 (by omega)]; rw [c0 (by omega)] at ihx; exact ihx)
          · refine e_aload_n dX0_init_93 rfl ?_
            refine c_getR (kt := (20, 12, 301)) (by decide) (Or.inr (by show (1 : Int) ≠ 0; decide)) dX0_init_94 f_X0_15 hx rfl (Nat.succ_ne_zero _) (fun q_94 h_94 => ?_)
            refine e_iload dX0_init_97 rfl ?_
            refine e_iload dX0_init_99 rfl ?_
            refine c_iast (by decide) dX0_init_101 h_94 (by omega) (by omega) (by decide) ⟨by omega, by omega⟩ ?_
            refine e_iinc (ls2 := [_, _, _, _, _, _, _]) dX0_init_102 rfl (Nat.le_of_ble_eq_true rfl) rfl ?_
            refine e_iconst dX0_init_105 ?_
            refine e_istore (ls2 := [_, _, _, _, _, _, _]) dX0_init_106 (Nat.le_of_ble_eq_true rfl) rfl ?_
            refine e_iinc (ls2 := [_, _, _, _, _, _, _]) dX0_init_108 rfl (Nat.le_of_ble_eq_true rfl) rfl ?_
            refine e_goto (tgt := 41) dX0_init_111 (by decide) ?_
            first | (rw [e9, s1 (by omega)]; rw [c1 (by omega)] at ihx; exact ihx) | (rw [e9, s0 (by omega)]; rw [c0 (by omega)] at ihx; exact ihx)
set_option maxRecDepth 20000 in
set_option maxHeartbeats 4000000 in
theorem c_0_init {K : q_K} {B C : q_S} {x y : Nat} {c : Int} (hx : K x = (1, 0, 900)) (hy : K y = (20, 12, 101)) (h3 : q_fre K 300) (h3b : q_fre K 301) (hc : vcode c) (hrow : ∀ i, 0 ≤ i → i < mlen c → C 101 i = fig c i) : q_E mX0_init 0 [some (q_R x), some (q_R y), some (q_I (mlen c)), none, none, none, none] [] K B C 2 24 ((fun o K2 M2 C2 => ∃ a b, (K a).1 = 0 ∧ (q_uk K a (20, 12, 300) b).1 = 0 ∧ o = Sum.inl none ∧ K2 = q_uk (q_uk K a (20, 12, 300)) b (20, 12, 301) ∧ M2 = B ∧ C2 = cfC C c)) := by
  have hl := vcode_len hc
  refine e_aload_n dX0_init_0 rfl ?_
  refine e_objI dX0_init_1 l_X0_3 (Nat.le_of_ble_eq_true rfl) ⟨by decide, by decide⟩ ?_
  refine e_aload_n dX0_init_4 rfl ?_
  refine e_bipush dX0_init_5 (by decide) ?_
  refine c_newI (t := 300) (n := 12) (c2 := 1) (s2 := 12) (by decide) h3 dX0_init_7 g_aI rfl (by decide) (by omega) (by omega) (fun n_7 z_7 y_7 => ?_)
  replace hx := uk_k (k := (20, 12, 300)) y_7 hx (Nat.succ_ne_zero _)
  replace hy := uk_k (k := (20, 12, 300)) y_7 hy (Nat.succ_ne_zero _)
  have h_7 : q_uk K n_7 (20, 12, 300) n_7 = (20, 12, 300) := uk_p
  refine c_putRf 1 (by decide) dX0_init_9 f_X0_9 (Or.inr ⟨rfl, _, _, rfl⟩) hx (by decide) h_7 (Nat.succ_ne_zero _) rfl (Or.inr (Or.inl rfl)) ?_
  refine e_aload_n dX0_init_12 rfl ?_
  refine e_bipush dX0_init_13 (by decide) ?_
  refine c_newI (t := 301) (n := 12) (c2 := 0) (s2 := 0) (by decide) (fre_uk h3b (by decide)) dX0_init_15 g_aI rfl (by decide) (by omega) (by omega) (fun n_15 z_15 y_15 => ?_)
  replace hx := uk_k (k := (20, 12, 301)) y_15 hx (Nat.succ_ne_zero _)
  replace hy := uk_k (k := (20, 12, 301)) y_15 hy (Nat.succ_ne_zero _)
  have h_15 : q_uk (q_uk K n_7 (20, 12, 300)) n_15 (20, 12, 301) n_15 = (20, 12, 301) := uk_p
  replace h_7 := uk_k (k := (20, 12, 301)) y_15 h_7 (Nat.succ_ne_zero _)
  refine c_putRf 1 (by decide) dX0_init_17 f_X0_15 (Or.inr ⟨rfl, _, _, rfl⟩) hx (by decide) h_15 (Nat.succ_ne_zero _) rfl (Or.inr (Or.inl rfl)) ?_
  refine e_iload_n dX0_init_20 rfl ?_
  refine e_aload_n dX0_init_21 rfl ?_
  refine e_alen dX0_init_22 hy ?_
  refine e_bipush dX0_init_23 (by decide) ?_
  refine e_mmin dX0_init_25 l_X0_18 (Nat.le_of_ble_eq_true rfl) ⟨by decide, by decide⟩ ⟨by omega, by omega⟩ ⟨by omega, by omega⟩ ?_
  refine e_mmin dX0_init_28 l_X0_18 (Nat.le_of_ble_eq_true rfl) ⟨by decide, by decide⟩ ⟨by omega, by omega⟩ ⟨by omega, by omega⟩ ?_
  rw [show min (mlen c) (min ((12 : Nat) : Int) 12) = mlen c by omega]
  refine e_istore_n (ls2 := [_, _, _, _, _, _, _]) dX0_init_31 (Nat.le_of_ble_eq_true rfl) rfl ?_
  refine e_iconst dX0_init_32 ?_
  refine e_istore (ls2 := [_, _, _, _, _, _, _]) dX0_init_33 (Nat.le_of_ble_eq_true rfl) rfl ?_
  refine e_iconst dX0_init_35 ?_
  refine e_istore (ls2 := [_, _, _, _, _, _, _]) dX0_init_36 (Nat.le_of_ble_eq_true rfl) rfl ?_
  refine e_iconst dX0_init_38 ?_
  refine e_istore (ls2 := [_, _, _, _, _, _, _]) dX0_init_39 (Nat.le_of_ble_eq_true rfl) rfl ?_
  have lp := c_0_initL (B := B) (C := C) (y := y) hx (fun _ => hy) h_7 h_15 hc hrow (mlen c).toNat 0 (by omega)
  rw [ciC_0] at lp
  refine e_room (Nat.zero_le _) (Nat.zero_le _) (e_conseq (Q1 := e_is none (q_uk (q_uk K n_7 (20, 12, 300)) n_15 (20, 12, 301)) B (cfC C c)) (fun o K1 M1 C1 g => ?_) lp)
  obtain ⟨g1, g2, g3, g4⟩ := g
  exact ⟨n_7, n_15, y_7, y_15, g1, g2, g3, g4⟩
set_option maxRecDepth 20000 in
set_option maxHeartbeats 4000000 in
theorem c_0_init0 {K : q_K} {B C : q_S} {x y : Nat} {c : Int} (hx : K x = (1, 0, 900)) (hm : mlen c = 0) (hy : K y = (20, 0, 160)) (h3 : q_fre K 300) (h3b : q_fre K 301) (hc : vcode c)  : q_E mX0_init 0 [some (q_R x), some (q_R y), some (q_I (mlen c)), none, none, none, none] [] K B C 2 24 ((fun o K2 M2 C2 => ∃ a b, (K a).1 = 0 ∧ (q_uk K a (20, 12, 300) b).1 = 0 ∧ o = Sum.inl none ∧ K2 = q_uk (q_uk K a (20, 12, 300)) b (20, 12, 301) ∧ M2 = B ∧ C2 = cfC C c)) := by
  have hl := vcode_len hc
  refine e_aload_n dX0_init_0 rfl ?_
  refine e_objI dX0_init_1 l_X0_3 (Nat.le_of_ble_eq_true rfl) ⟨by decide, by decide⟩ ?_
  refine e_aload_n dX0_init_4 rfl ?_
  refine e_bipush dX0_init_5 (by decide) ?_
  refine c_newI (t := 300) (n := 12) (c2 := 1) (s2 := 12) (by decide) h3 dX0_init_7 g_aI rfl (by decide) (by omega) (by omega) (fun n_7 z_7 y_7 => ?_)
  replace hx := uk_k (k := (20, 12, 300)) y_7 hx (Nat.succ_ne_zero _)
  replace hy := uk_k (k := (20, 12, 300)) y_7 hy (Nat.succ_ne_zero _)
  have h_7 : q_uk K n_7 (20, 12, 300) n_7 = (20, 12, 300) := uk_p
  refine c_putRf 1 (by decide) dX0_init_9 f_X0_9 (Or.inr ⟨rfl, _, _, rfl⟩) hx (by decide) h_7 (Nat.succ_ne_zero _) rfl (Or.inr (Or.inl rfl)) ?_
  refine e_aload_n dX0_init_12 rfl ?_
  refine e_bipush dX0_init_13 (by decide) ?_
  refine c_newI (t := 301) (n := 12) (c2 := 0) (s2 := 0) (by decide) (fre_uk h3b (by decide)) dX0_init_15 g_aI rfl (by decide) (by omega) (by omega) (fun n_15 z_15 y_15 => ?_)
  replace hx := uk_k (k := (20, 12, 301)) y_15 hx (Nat.succ_ne_zero _)
  replace hy := uk_k (k := (20, 12, 301)) y_15 hy (Nat.succ_ne_zero _)
  have h_15 : q_uk (q_uk K n_7 (20, 12, 300)) n_15 (20, 12, 301) n_15 = (20, 12, 301) := uk_p
  replace h_7 := uk_k (k := (20, 12, 301)) y_15 h_7 (Nat.succ_ne_zero _)
  refine c_putRf 1 (by decide) dX0_init_17 f_X0_15 (Or.inr ⟨rfl, _, _, rfl⟩) hx (by decide) h_15 (Nat.succ_ne_zero _) rfl (Or.inr (Or.inl rfl)) ?_
  refine e_iload_n dX0_init_20 rfl ?_
  refine e_aload_n dX0_init_21 rfl ?_
  refine e_alen dX0_init_22 hy ?_
  refine e_bipush dX0_init_23 (by decide) ?_
  refine e_mmin dX0_init_25 l_X0_18 (Nat.le_of_ble_eq_true rfl) ⟨by decide, by decide⟩ ⟨by omega, by omega⟩ ⟨by omega, by omega⟩ ?_
  refine e_mmin dX0_init_28 l_X0_18 (Nat.le_of_ble_eq_true rfl) ⟨by decide, by decide⟩ ⟨by omega, by omega⟩ ⟨by omega, by omega⟩ ?_
  rw [show min (mlen c) (min ((0 : Nat) : Int) 12) = mlen c by omega]
  refine e_istore_n (ls2 := [_, _, _, _, _, _, _]) dX0_init_31 (Nat.le_of_ble_eq_true rfl) rfl ?_
  refine e_iconst dX0_init_32 ?_
  refine e_istore (ls2 := [_, _, _, _, _, _, _]) dX0_init_33 (Nat.le_of_ble_eq_true rfl) rfl ?_
  refine e_iconst dX0_init_35 ?_
  refine e_istore (ls2 := [_, _, _, _, _, _, _]) dX0_init_36 (Nat.le_of_ble_eq_true rfl) rfl ?_
  refine e_iconst dX0_init_38 ?_
  refine e_istore (ls2 := [_, _, _, _, _, _, _]) dX0_init_39 (Nat.le_of_ble_eq_true rfl) rfl ?_
  have lp := c_0_initL (B := B) (C := C) (y := y) hx (fun g => absurd g (by omega)) h_7 h_15 hc (fun i g1 g2 => by omega) (mlen c).toNat 0 (by omega)
  rw [ciC_0] at lp
  refine e_room (Nat.zero_le _) (Nat.zero_le _) (e_conseq (Q1 := e_is none (q_uk (q_uk K n_7 (20, 12, 300)) n_15 (20, 12, 301)) B (cfC C c)) (fun o K1 M1 C1 g => ?_) lp)
  obtain ⟨g1, g2, g3, g4⟩ := g
  exact ⟨n_7, n_15, y_7, y_15, g1, g2, g3, g4⟩
