set_option maxRecDepth 20000 in
set_option maxHeartbeats 4000000 in
theorem c_7_initL {K : q_K} {B C : q_S} {x : Nat} {Q : q_Q2} (hx : K x = (8, 0, 507)) (g0 : C 507 0 = 1) (g1 : C 507 1 = 1) (H : q_E mX7_init 50 [some (q_R x), some (q_I 12)] [] K B (spC C 12) 0 0 Q) : ∀ (r k : Nat), k + r = 12 → q_E mX7_init 22 [some (q_R x), some (q_I (k : Int))] [] K B (spC C k) 0 0 Q := by
  intro r
  induction r with
  | zero =>
    intro k h1
    have ek : k = 12 := by omega
    subst ek
    refine e_iload_n dX7_init_22 rfl ?_
    refine e_bipush dX7_init_23 (by decide) ?_
    refine e_icmp_ge (tgt := 50) dX7_init_25 (by decide) ⟨by omega, by omega⟩ ⟨by omega, by omega⟩ (fun c_25 => ?_) (fun c_25 => ?_)
    · exact H
    · exfalso; omega
  | succ r ih =>
    intro k h1
    have e0 : spC C k 507 0 = 1 := by rw [spC_ap, if_neg (by omega), if_neg (by omega)]; exact g0
    have e1 : spC C k 507 1 = 1 := by rw [spC_ap, if_neg (by omega), if_neg (by omega)]; exact g1
    have ihx := ih (k + 1) (by omega)
    rw [show ((k + 1 : Nat) : Int) = (k : Int) + 1 by omega, ← spC_s] at ihx
    refine e_iload_n dX7_init_22 rfl ?_
    refine e_bipush dX7_init_23 (by decide) ?_
    refine e_icmp_ge (tgt := 50) dX7_init_25 (by decide) ⟨by omega, by omega⟩ ⟨by omega, by omega⟩ (fun c_25 => ?_) (fun c_25 => ?_)
    · exfalso; omega
    · refine e_aload_n dX7_init_28 rfl ?_
      refine c_getR (kt := (20, 12, 133)) (by decide) (Or.inr (by rw [e0]; decide)) dX7_init_29 f_X7_9 hx rfl (Nat.succ_ne_zero _) (fun q_29 h_29 => ?_)
      refine e_iload_n dX7_init_32 rfl ?_
      refine e_iconst dX7_init_33 ?_
      refine c_iast (by decide) dX7_init_34 h_29 (by omega) (by omega) (by decide) ⟨by omega, by omega⟩ ?_
      refine e_aload_n dX7_init_35 rfl ?_
      refine c_getR (kt := (20, 12, 134)) (by decide) (Or.inr (by simp only [q_us_ap]; rw [if_neg (by omega), e1]; decide)) dX7_init_36 f_X7_15 hx rfl (Nat.succ_ne_zero _) (fun q_36 h_36 => ?_)
      refine e_iload_n dX7_init_39 rfl ?_
      refine e_sipush dX7_init_40 (by decide) ?_
      refine c_iast (by decide) dX7_init_43 h_36 (by omega) (by omega) (by decide) ⟨by omega, by omega⟩ ?_
      refine e_iinc (ls2 := [_, _]) dX7_init_44 rfl (Nat.le_of_ble_eq_true rfl) rfl ?_
      refine e_goto (tgt := 22) dX7_init_47 (by decide) ?_
      exact ihx
set_option maxRecDepth 20000 in
set_option maxHeartbeats 4000000 in
theorem c_7_init {K : q_K} {B C : q_S} {x : Nat} (y0 : (K x).1 = 0) (hf : ∀ t : Int, (t = 507 ∨ (t = 107 ∨ (133 ≤ t ∧ t ≤ 134))) → q_fre K t) : q_E mX7_init 0 [some (q_R x), none] [] (q_uk K x (8, 0, 507)) B C 2 24 (fun o K2 M2 C2 => o = Sum.inl none ∧ M2 = B ∧ q_nx K K2 (fun t => t = 107 ∨ (133 ≤ t ∧ t ≤ 134)) ∧ K2 x = (8, 0, 107) ∧ (∀ t j : Int, ¬ (t = 507 ∨ (t = 107 ∨ (133 ≤ t ∧ t ≤ 134))) → C2 t j = C t j) ∧ ∀ f, 0 ≤ f → f < 12 → C2 133 f = 2 ∧ C2 134 f = 2001) := by
  have hx : (q_uk K x (8, 0, 507)) x = (8, 0, 507) := uk_p
  refine e_aload_n dX7_init_0 rfl ?_
  refine e_objI dX7_init_1 l_X7_3 (Nat.le_of_ble_eq_true rfl) ⟨by decide, by decide⟩ ?_
  refine e_aload_n dX7_init_4 rfl ?_
  refine e_bipush dX7_init_5 (by decide) ?_
  refine c_newI (t := 133) (n := 12) (c2 := 1) (s2 := 12) (by decide) (fre_uk (hf 133 (by omega)) (by decide)) dX7_init_7 g_aI rfl (by decide) (by omega) (by omega) (fun n_7 z_7 y_7 => ?_)
  replace hx := uk_k (k := (20, 12, 133)) y_7 hx (Nat.succ_ne_zero _)
  have h_7 : q_uk (q_uk K x (8, 0, 507)) n_7 (20, 12, 133) n_7 = (20, 12, 133) := uk_p
  refine c_putRf 1 (by decide) dX7_init_9 f_X7_9 (Or.inr ⟨rfl, _, _, rfl⟩) hx (by decide) h_7 (Nat.succ_ne_zero _) rfl (Or.inl (by decide)) ?_
  refine e_aload_n dX7_init_12 rfl ?_
  refine e_bipush dX7_init_13 (by decide) ?_
  refine c_newI (t := 134) (n := 12) (c2 := 0) (s2 := 0) (by decide) (fre_uk (fre_uk (hf 134 (by omega)) (by decide)) (by decide)) dX7_init_15 g_aI rfl (by decide) (by omega) (by omega) (fun n_15 z_15 y_15 => ?_)
  replace hx := uk_k (k := (20, 12, 134)) y_15 hx (Nat.succ_ne_zero _)
  have h_15 : q_uk (q_uk (q_uk K x (8, 0, 507)) n_7 (20, 12, 133)) n_15 (20, 12, 134) n_15 = (20, 12, 134) := uk_p
  refine c_putRf 1 (by decide) dX7_init_17 f_X7_15 (Or.inr ⟨rfl, _, _, rfl⟩) hx (by decide) h_15 (Nat.succ_ne_zero _) rfl (Or.inl (by decide)) ?_
  refine e_iconst dX7_init_20 ?_
  refine e_istore_n (ls2 := [_, _]) dX7_init_21 (Nat.le_of_ble_eq_true rfl) rfl ?_
  have H : q_E mX7_init 50 [some (q_R x), some (q_I 12)] [] (q_uk (q_uk (q_uk K x (8, 0, 507)) n_7 (20, 12, 133)) n_15 (20, 12, 134)) B (spC (q_us (q_zt (q_us (q_zt C 133) 507 0 1) 134) 507 1 1) 12) 0 0 (fun o K2 M2 C2 => o = Sum.inl none ∧ M2 = B ∧ q_nx K K2 (fun t => t = 107 ∨ (133 ≤ t ∧ t ≤ 134)) ∧ K2 x = (8, 0, 107) ∧ (∀ t j : Int, ¬ (t = 507 ∨ (t = 107 ∨ (133 ≤ t ∧ t ≤ 134))) → C2 t j = C t j) ∧ ∀ f, 0 ≤ f → f < 12 → C2 133 f = 2 ∧ C2 134 f = 2001) := by
    refine e_finR (q := x) (k := 8) (n := 0) (t := 507) (t2 := 107) hx (by decide) ⟨by decide, by decide⟩ (by decide) ⟨by decide, by decide⟩ (fre_uk (fre_uk (fre_uk (hf 107 (by omega)) (by decide)) (by decide)) (by decide)) (fun j hj => ?_) ?_
    · rcases isr_7 hj with rfl | rfl <;> (rw [spC_ap, if_neg (by omega), if_neg (by omega)]; simp only [q_us_ap, q_zt_ap, rtC_ap, Int.reduceEq, Int.reduceNeg, false_and, and_false, and_self, true_and, and_true, if_true, if_false]; exact ⟨by decide, rfl, by decide⟩)
    exact e_ret dX7_init_50 rfl ⟨rfl, rfl, nz_E (nz_1 (nz_1 (nz_0 y0) y_7 (by decide)) y_15 (by decide)) y0 (by decide), uk_p, (fun t j g => by simp only [rtC_ap, spC_ap, q_us_ap, q_zt_ap]; repeat rw [if_neg (by omega)]), (fun f a b => ⟨by rw [rtC_ap, if_neg (by decide), spC_ap, if_pos ⟨rfl, a, by omega⟩], by rw [rtC_ap, if_neg (by decide), spC_ap, if_neg (by omega), if_pos ⟨rfl, a, by omega⟩]⟩)⟩
  have l0 := c_7_initL hx (by simp only [q_us_ap, q_zt_ap, rtC_ap, Int.reduceEq, Int.reduceNeg, false_and, and_false, and_self, true_and, and_true, if_true, if_false]) (by simp only [q_us_ap, q_zt_ap, rtC_ap, Int.reduceEq, Int.reduceNeg, false_and, and_false, and_self, true_and, and_true, if_true, if_false]) H 12 0 (by omega)
  rw [spC_0] at l0
  exact l0
set_option maxRecDepth 20000 in
set_option maxHeartbeats 4000000 in
theorem c_1_init {K : q_K} {B C : q_S} {x y : Nat} {p : Int} (hp : 0 ≤ p ∧ p < 48) (hx : K x = (2, 0, 600 + p)) (hy : K y = (1, 0, 1000000)) : q_E mX1_init 0 [some (q_R x), some (q_R y)] [] K B C 0 0 (e_is (none) K B (cpI C (600 + p))) := by
  refine e_aload_n dX1_init_0 rfl ?_
  refine e_objI dX1_init_1 l_X1_3 (Nat.le_of_ble_eq_true rfl) ⟨by decide, by decide⟩ ?_
  refine e_aload_n dX1_init_4 rfl ?_
  refine e_iconst dX1_init_5 ?_
  refine c_putI (by omega) dX1_init_6 f_X1_9 rfl hx (by omega) ⟨by omega, by omega⟩ ?_
  refine e_aload_n dX1_init_9 rfl ?_
  refine e_iconst dX1_init_10 ?_
  refine c_putI (by omega) dX1_init_11 f_X1_15 rfl hx (by omega) ⟨by omega, by omega⟩ ?_
  refine e_aload_n dX1_init_14 rfl ?_
  refine e_iconst dX1_init_15 ?_
  refine c_putI (by omega) dX1_init_16 f_X1_18 rfl hx (by omega) ⟨by omega, by omega⟩ ?_
  refine e_aload_n dX1_init_19 rfl ?_
  refine e_iconst dX1_init_20 ?_
  refine c_putB (by omega) dX1_init_21 f_X1_21 rfl hx (by omega) (by omega) ?_
  refine e_aload_n dX1_init_24 rfl ?_
  refine e_iconst dX1_init_25 ?_
  refine c_putI (by omega) dX1_init_26 f_X1_25 rfl hx (by omega) ⟨by omega, by omega⟩ ?_
  refine e_aload_n dX1_init_29 rfl ?_
  refine e_aload_n dX1_init_30 rfl ?_
  refine c_putRf 1000000 (by omega) dX1_init_31 f_X1_28 (Or.inr ⟨rfl, _, _, rfl⟩) hx (by omega) hy (Nat.succ_ne_zero _) (kl_600 hp).1 (Or.inl (kl_600 hp).2) ?_
  refine e_aload_n dX1_init_34 rfl ?_
  refine e_aload_n dX1_init_35 rfl ?_
  refine c_putR 1000000 (by omega) dX1_init_36 f_X1_32 rfl hx (by omega) hy (Nat.succ_ne_zero _) (kl_600 hp).1 (Or.inl (kl_600 hp).2) ?_
  exact e_ret dX1_init_39 rfl (e_ok rfl rfl rfl)
set_option maxRecDepth 20000 in
set_option maxHeartbeats 4000000 in
theorem c_6_initL {K : q_K} {B C : q_S} {x y a : Nat} {m : Int} {Q : q_Q2} (hm : 0 ≤ m ∧ m ≤ 2) (hf : ∀ t : Int, ((200 + 16 * m ≤ t ∧ t < 200 + 16 * m + 16) ∨ (600 + 16 * m ≤ t ∧ t < 600 + 16 * m + 16)) → q_fre K t) (H : ∀ K2 C2, (((K2) x = (7, 0, 510 + m) ∧ (K2) a = (31, 16, 540 + m) ∧ (K2) y = (1, 0, 1000000)) ∧ q_nz K (K2) x (fun t => 200 + 16 * m ≤ t ∧ t < 200 + 16 * m + 16) ∧ (C2) (510 + m) 0 = 1 ∧ (∀ i : Int, 0 ≤ i → i < 16 → (C2) (540 + m) i = 1 ∧ ((C2) (200 + (16 * m + i)) 0 = 0 ∧ (C2) (200 + (16 * m + i)) 1 = -1 ∧ (C2) (200 + (16 * m + i)) 2 = 1000000 ∧ (C2) (200 + (16 * m + i)) 3 = -1 ∧ (C2) (200 + (16 * m + i)) 4 = 0 ∧ (C2) (200 + (16 * m + i)) 5 = 0)) ∧ ∀ t j : Int, ¬ (t = 540 + m ∨ (200 + 16 * m ≤ t ∧ t < 200 + 16 * m + 16) ∨ (600 + 16 * m ≤ t ∧ t < 600 + 16 * m + 16)) → (C2) t j = C t j) → q_E mX6_init 65 [some (q_R x), some (q_R y), some (q_I 16)] [] K2 B C2 0 0 Q) :
    ∀ (r k : Nat) (K2 : q_K) (C2 : q_S), k + r = 16 → (((K2) x = (7, 0, 510 + m) ∧ (K2) a = (31, 16, 540 + m) ∧ (K2) y = (1, 0, 1000000)) ∧ q_nz K (K2) x (fun t => 200 + 16 * m ≤ t ∧ t < 200 + 16 * m + (k : Int)) ∧ (C2) (510 + m) 0 = 1 ∧ (∀ i : Int, 0 ≤ i → i < (k : Int) → (C2) (540 + m) i = 1 ∧ ((C2) (200 + (16 * m + i)) 0 = 0 ∧ (C2) (200 + (16 * m + i)) 1 = -1 ∧ (C2) (200 + (16 * m + i)) 2 = 1000000 ∧ (C2) (200 + (16 * m + i)) 3 = -1 ∧ (C2) (200 + (16 * m + i)) 4 = 0 ∧ (C2) (200 + (16 * m + i)) 5 = 0)) ∧ ∀ t j : Int, ¬ (t = 540 + m ∨ (200 + 16 * m ≤ t ∧ t < 200 + 16 * m + 16) ∨ (600 + 16 * m ≤ t ∧ t < 600 + 16 * m + 16)) → (C2) t j = C t j) → q_E mX6_init 39 [some (q_R x), some (q_R y), some (q_I (k : Int))] [] K2 B C2 r (7 * r) Q := by
  intro r
  induction r with
  | zero =>
    intro k K2 C2 h1 hI
    have ek : k = 16 := by omega
    subst ek
    have hx2 := hI.1.1
    have hy2 := hI.1.2.2
    refine e_iload_n dX6_init_39 rfl ?_
    refine e_bipush dX6_init_40 (by decide) ?_
    refine e_icmp_ge (tgt := 65) dX6_init_42 (by decide) ⟨by omega, by omega⟩ ⟨by omega, by omega⟩ (fun c_42 => ?_) (fun c_42 => ?_)
    · exact H K2 C2 hI
    · exfalso; omega
  | succ r ih =>
    intro k K2 C2 h1 hI
    obtain ⟨⟨hx2, ha2, hy2⟩, hN, hg, hD, hfr⟩ := hI
    have hp : 0 ≤ 16 * m + (k : Int) ∧ 16 * m + (k : Int) < 48 := by omega
    have l5 := (ln_510 (g := C2 (510 + m) 0) hm).1
    have fr1 : q_fre K2 (600 + (16 * m + (k : Int))) := nz_fre hN hx2 (by show 510 + m ≠ _; omega) (hf _ (Or.inr ⟨by omega, by omega⟩)) (by omega)
    have fr2 : q_fre K2 (200 + (16 * m + (k : Int))) := nz_fre hN hx2 (by show 510 + m ≠ _; omega) (hf _ (Or.inl ⟨by omega, by omega⟩)) (by omega)
    refine e_iload_n dX6_init_39 rfl ?_
    refine e_bipush dX6_init_40 (by decide) ?_
    refine e_icmp_ge (tgt := 65) dX6_init_42 (by decide) ⟨by omega, by omega⟩ ⟨by omega, by omega⟩ (fun c_42 => ?_) (fun c_42 => ?_)
    · exfalso; omega
    · refine e_aload_n dX6_init_45 rfl ?_
      refine c_getR (kt := (31, 16, (540 + m))) (by omega) (Or.inr (by rw [hg]; decide)) dX6_init_46 f_X6_11 hx2 (by rw [l5]; exact kof_540 hm) (Nat.succ_ne_zero _) (fun q_46 h_46 => ?_)
      refine e_iload_n dX6_init_49 rfl ?_
      refine e_new (t := (600 + (16 * m + (k : Int)))) (c2 := r) (s2 := 7 * r) (by omega) fr1 (Or.inl ⟨by omega, by omega⟩) dX6_init_50 n_X6_9 (by omega) (by have e9 : q_sz 1 = 7 := rfl; omega) (fun n z0 yn => ?_)
      refine e_dup dX6_init_53 rfl ?_
      refine e_aload_n dX6_init_54 rfl ?_
      have hxn := uk_k (k := (2, 0, (600 + (16 * m + (k : Int))))) yn hx2 (Nat.succ_ne_zero _)
      have hyn := uk_k (k := (2, 0, (600 + (16 * m + (k : Int))))) yn hy2 (Nat.succ_ne_zero _)
      have han := uk_k (k := (2, 0, (600 + (16 * m + (k : Int))))) yn h_46 (Nat.succ_ne_zero _)
      have haa := uk_k (k := (2, 0, (600 + (16 * m + (k : Int))))) yn ha2 (Nat.succ_ne_zero _)
      have hnn : q_uk K2 n (2, 0, (600 + (16 * m + (k : Int)))) n = (2, 0, (600 + (16 * m + (k : Int)))) := uk_p
      refine e_cI (as := [_]) dX6_init_55 k_X1_init rfl rfl (Or.inl l_X6_31) i_X1_init hnn (Nat.succ_ne_zero _) rfl rfl rfl (Nat.le_of_ble_eq_true rfl) ⟨by decide, by decide⟩ (Nat.le_of_ble_eq_true rfl) (by decide) (c_1_init hp hnn hyn) ?_
      refine e_finR (q := n) (k := 2) (n := 0) (t := (600 + (16 * m + (k : Int)))) (t2 := (200 + (16 * m + (k : Int)))) hnn (by decide) ⟨by omega, by omega⟩ (by omega) ⟨by omega, by omega⟩ (fre_uk fr2 (by omega)) (fun j hj => ?_) ?_
      · have ci := cpI_p (C := q_zt C2 (600 + (16 * m + (k : Int)))) (t := (600 + (16 * m + (k : Int))))
        rcases isr_1 hj with rfl | rfl
        · rw [ci.2.2.1]
          refine ⟨by decide, ?_, ?_⟩
          · rw [(kl_600 hp).1, ln_p hp]; exact kof_ct (c := 0) (by decide)
          · rw [ln_p hp]; decide
        · rw [ci.2.2.2.2.2.2]
          refine ⟨by decide, ?_, ?_⟩
          · rw [(kl_600 hp).1, ln_p hp]; exact kof_ct (c := 0) (by decide)
          · rw [ln_p hp]; decide
      have NEu : ∀ (b : Nat) (kt : Nat × Nat × Int), q_uk K2 n (2, 0, (600 + (16 * m + (k : Int)))) b = kt → kt.2.2 ≠ (600 + (16 * m + (k : Int))) → q_uk (q_uk K2 n (2, 0, (600 + (16 * m + (k : Int))))) n (2, 0, (200 + (16 * m + (k : Int)))) b = kt := fun b kt g ne => by
        have e : b ≠ n := fun e => ne (by rw [← g, e, uk_p])
        rw [uk_n e]; exact g
      have hx3 := NEu _ _ hxn (by show 510 + m ≠ _; omega)
      have hy3 := NEu _ _ hyn (by show (1000000 : Int) ≠ _; omega)
      have ha3 := NEu _ _ han (by show 540 + m ≠ _; omega)
      have hb3 := NEu _ _ haa (by show 540 + m ≠ _; omega)
      have hn3 : q_uk (q_uk K2 n (2, 0, (600 + (16 * m + (k : Int))))) n (2, 0, (200 + (16 * m + (k : Int)))) n = (2, 0, (200 + (16 * m + (k : Int)))) := uk_p
      refine c_aast (ci := 1) 1 (by omega) dX6_init_58 ha3 (by decide) (by omega) (by omega) (by omega) hn3 (by rw [ln_540 hm, show 200 + 16 * m + (k : Int) = 200 + (16 * m + k) by omega]; exact kof_cp hp) (by rw [ln_540 hm]; omega) ?_
      refine e_iinc (ls2 := [_, _, _]) dX6_init_59 rfl (Nat.le_of_ble_eq_true rfl) rfl ?_
      refine e_goto (tgt := 39) dX6_init_62 (by decide) ?_
      rw [show (k : Int) + 1 = ((k + 1 : Nat) : Int) by omega]
      have cp := cpI_p (C := q_zt C2 (600 + (16 * m + (k : Int)))) (t := (600 + (16 * m + (k : Int))))
      have val : ∀ t j : Int, t ≠ (600 + (16 * m + (k : Int))) → t ≠ (200 + (16 * m + (k : Int))) → ¬ (t = 540 + m ∧ j = k) → q_us (rtC (cpI (q_zt C2 (600 + (16 * m + (k : Int)))) (600 + (16 * m + (k : Int)))) (600 + (16 * m + (k : Int))) (200 + (16 * m + (k : Int)))) (540 + m) k 1 t j = C2 t j := fun t j a b d => by
        rw [q_us_ap, if_neg d, rtC_ap, if_neg b, cpI_o a, q_zt_ap, if_neg a]
      have valn : ∀ j : Int, q_us (rtC (cpI (q_zt C2 (600 + (16 * m + (k : Int)))) (600 + (16 * m + (k : Int)))) (600 + (16 * m + (k : Int))) (200 + (16 * m + (k : Int)))) (540 + m) k 1 (200 + (16 * m + (k : Int))) j = cpI (q_zt C2 (600 + (16 * m + (k : Int)))) (600 + (16 * m + (k : Int))) (600 + (16 * m + (k : Int))) j := fun j => by
        rw [us_ne (by omega), rtC_ap, if_pos rfl]
      refine ih (k + 1) _ _ (by omega) ⟨⟨hx3, hb3, hy3⟩, ?_, ?_, ?_, ?_⟩
      · refine ⟨fun b g => ?_, fun b e g => ?_⟩
        · have g1 := hN.1 b g
          have e : b ≠ n := fun e => by subst e; rw [← g1] at g; exact g yn
          rw [uk_n e, uk_n e]; exact g1
        · by_cases e2 : b = n
          · rw [e2, uk_p]; exact Or.inr ((show 200 + 16 * m ≤ (200 + (16 * m + (k : Int))) ∧ (200 + (16 * m + (k : Int))) < 200 + 16 * m + ((k + 1 : Nat) : Int) from ⟨by omega, by omega⟩))
          · rw [uk_n e2, uk_n e2] at g ⊢
            rcases hN.2 b e g with y9 | y9
            · exact Or.inl y9
            · exact Or.inr (show 200 + 16 * m ≤ (K2 b).2.2 ∧ (K2 b).2.2 < 200 + 16 * m + ((k + 1 : Nat) : Int) from ⟨y9.1, by omega⟩)
      · rw [val _ _ (by omega) (by omega) (by omega)]; exact hg
      · intro i i0 i1
        by_cases e : i = k
        · subst e
          rw [valn, valn, valn, valn, valn, valn, cp.1, cp.2.1, cp.2.2.1, cp.2.2.2.1, cp.2.2.2.2.1, cp.2.2.2.2.2.1]
          exact ⟨if_pos ⟨rfl, rfl⟩, rfl, rfl, rfl, rfl, rfl, rfl⟩
        · have d := hD i i0 (by omega)
          have v2 : ∀ j, q_us (rtC (cpI (q_zt C2 (600 + (16 * m + (k : Int)))) (600 + (16 * m + (k : Int)))) (600 + (16 * m + (k : Int))) (200 + (16 * m + (k : Int)))) (540 + m) k 1 (200 + (16 * m + i)) j = C2 (200 + (16 * m + i)) j := fun j => val _ _ (by omega) (by omega) (by omega)
          rw [v2, v2, v2, v2, v2, v2, val (540 + m) i (by omega) (by omega) (by omega)]
          exact d
      · intro t j g
        rw [val _ _ (by omega) (by omega) (by omega)]; exact hfr t j g
set_option maxRecDepth 20000 in
set_option maxHeartbeats 4000000 in
theorem c_6_init {K : q_K} {B C : q_S} {x y : Nat} {m : Int} (hm : 0 ≤ m ∧ m ≤ 2) (y0 : (K x).1 = 0) (hy0 : K y = (1, 0, 1000000)) (hf : ∀ t : Int, (t = 510 + m ∨ t = 540 + m ∨ (600 + 16 * m ≤ t ∧ t < 600 + 16 * m + 16) ∨ (t = 110 + m ∨ t = 140 + m ∨ t = 150 + m ∨ (200 + 16 * m ≤ t ∧ t < 200 + 16 * m + 16))) → q_fre K t) : q_E mX6_init 0 [some (q_R x), some (q_R y), none] [] (q_uk K x (7, 0, 510 + m)) B C 18 144 (fun o K2 M2 C2 => o = Sum.inl none ∧ M2 = B ∧ q_nx K K2 (fun t => t = 110 + m ∨ t = 140 + m ∨ t = 150 + m ∨ (200 + 16 * m ≤ t ∧ t < 200 + 16 * m + 16)) ∧ K2 x = (7, 0, 110 + m) ∧ (∀ t j : Int, ¬ (t = 510 + m ∨ t = 540 + m ∨ (600 + 16 * m ≤ t ∧ t < 600 + 16 * m + 16) ∨ (t = 110 + m ∨ t = 140 + m ∨ t = 150 + m ∨ (200 + 16 * m ≤ t ∧ t < 200 + 16 * m + 16))) → C2 t j = C t j) ∧ (C2 (110 + m) 2 = 0 ∧ C2 (110 + m) 3 = 0 ∧ C2 (110 + m) 4 = 100) ∧ ∀ i : Int, 0 ≤ i → i < 16 → C2 (200 + (16 * m + i)) 0 = 0 ∧ C2 (200 + (16 * m + i)) 1 = -1 ∧ C2 (200 + (16 * m + i)) 2 = 1000000 ∧ C2 (200 + (16 * m + i)) 3 = -1 ∧ C2 (200 + (16 * m + i)) 4 = 0 ∧ C2 (200 + (16 * m + i)) 5 = 0) := by
  have hx : q_uk K x (7, 0, 510 + m) x = (7, 0, 510 + m) := uk_p
  have hy : q_uk K x (7, 0, 510 + m) y = (1, 0, 1000000) := uk_k y0 hy0 (Nat.succ_ne_zero _)
  have l51 := ln_510 (g := 1) hm
  refine e_aload_n dX6_init_0 rfl ?_
  refine e_objI dX6_init_1 l_X6_3 (Nat.le_of_ble_eq_true rfl) ⟨by decide, by decide⟩ ?_
  refine e_aload_n dX6_init_4 rfl ?_
  refine e_bipush dX6_init_5 (by decide) ?_
  refine c_newA (t := 540 + m) (n := 16) (c2 := 17) (s2 := 128) (by omega) (fre_uk (hf _ (by omega)) (by omega)) ⟨by omega, by omega⟩ dX6_init_7 a_X6_9 rfl (by decide) (by omega) (by omega) (fun n_7 z_7 y_7 => ?_)
  replace hx := uk_k (k := (31, 16, 540 + m)) y_7 hx (Nat.succ_ne_zero _)
  replace hy := uk_k (k := (31, 16, 540 + m)) y_7 hy (Nat.succ_ne_zero _)
  have h_7 : (q_uk (q_uk K x (7, 0, 510 + m)) n_7 (31, 16, 540 + m)) n_7 = (31, 16, 540 + m) := uk_p
  refine c_putRf 1 (by omega) dX6_init_10 f_X6_11 (Or.inr ⟨rfl, _, _, rfl⟩) hx (by omega) h_7 (Nat.succ_ne_zero _) (by rw [l51.1]; exact kof_540 hm) (Or.inr (Or.inr (Or.inr (Or.inr ⟨by omega, rfl⟩)))) ?_
  refine e_aload_n dX6_init_13 rfl ?_
  refine e_bipush dX6_init_14 (by decide) ?_
  refine c_newI (t := 150 + m) (n := 16) (c2 := 16) (s2 := 112) (by omega) (fre_uk (fre_uk (hf _ (by omega)) (by omega)) (by omega)) dX6_init_16 g_aI rfl (by decide) (by omega) (by omega) (fun n_16 z_16 y_16 => ?_)
  replace hx := uk_k (k := (20, 16, 150 + m)) y_16 hx (Nat.succ_ne_zero _)
  replace hy := uk_k (k := (20, 16, 150 + m)) y_16 hy (Nat.succ_ne_zero _)
  replace h_7 := uk_k (k := (20, 16, 150 + m)) y_16 h_7 (Nat.succ_ne_zero _)
  have h_16 : (q_uk (q_uk (q_uk K x (7, 0, 510 + m)) n_7 (31, 16, 540 + m)) n_16 (20, 16, 150 + m)) n_16 = (20, 16, 150 + m) := uk_p
  refine c_putRf 1 (by omega) dX6_init_18 f_X6_17 (Or.inr ⟨rfl, _, _, rfl⟩) hx (by omega) h_16 (Nat.succ_ne_zero _) (by rw [l51.2]; exact kof_150 hm) (Or.inl (by rw [l51.2]; omega)) ?_
  refine e_aload_n dX6_init_21 rfl ?_
  refine e_iconst dX6_init_22 ?_
  refine c_putI (by omega) dX6_init_23 f_X6_21 rfl hx (by omega) ⟨by omega, by omega⟩ ?_
  refine e_aload_n dX6_init_26 rfl ?_
  refine e_iconst dX6_init_27 ?_
  refine c_putI (by omega) dX6_init_28 f_X6_25 rfl hx (by omega) ⟨by omega, by omega⟩ ?_
  refine e_aload_n dX6_init_31 rfl ?_
  refine e_bipush dX6_init_32 (by decide) ?_
  refine c_putI (by omega) dX6_init_34 f_X6_28 rfl hx (by omega) ⟨by omega, by omega⟩ ?_
  refine e_iconst dX6_init_37 ?_
  refine e_istore_n (ls2 := [_, _, _]) dX6_init_38 (Nat.le_of_ble_eq_true rfl) rfl ?_
  have H : ∀ K3 C3, (((K3 x = (7, 0, 510 + m) ∧ K3 n_7 = (31, 16, 540 + m) ∧ K3 y = (1, 0, 1000000)) ∧ q_nz (q_uk (q_uk (q_uk K x (7, 0, 510 + m)) n_7 (31, 16, 540 + m)) n_16 (20, 16, 150 + m)) K3 x (fun t => 200 + 16 * m ≤ t ∧ t < 200 + 16 * m + 16) ∧ C3 (510 + m) 0 = 1 ∧ (∀ i : Int, 0 ≤ i → i < 16 → C3 (540 + m) i = 1 ∧ (C3 (200 + (16 * m + i)) 0 = 0 ∧ C3 (200 + (16 * m + i)) 1 = -1 ∧ C3 (200 + (16 * m + i)) 2 = 1000000 ∧ C3 (200 + (16 * m + i)) 3 = -1 ∧ C3 (200 + (16 * m + i)) 4 = 0 ∧ C3 (200 + (16 * m + i)) 5 = 0)) ∧ ∀ t j : Int, ¬ (t = 540 + m ∨ (200 + 16 * m ≤ t ∧ t < 200 + 16 * m + 16) ∨ (600 + 16 * m ≤ t ∧ t < 600 + 16 * m + 16)) → C3 t j = (q_us (q_us (q_us (q_us (q_zt (q_us (q_zt C (540 + m)) (510 + m) 0 1) (150 + m)) (510 + m) 1 1) (510 + m) 2 0) (510 + m) 3 0) (510 + m) 4 100) t j)) → q_E mX6_init 65 [some (q_R x), some (q_R y), some (q_I 16)] [] K3 B C3 0 0 (fun o K2 M2 C2 => o = Sum.inl none ∧ M2 = B ∧ q_nx K K2 (fun t => t = 110 + m ∨ t = 140 + m ∨ t = 150 + m ∨ (200 + 16 * m ≤ t ∧ t < 200 + 16 * m + 16)) ∧ K2 x = (7, 0, 110 + m) ∧ (∀ t j : Int, ¬ (t = 510 + m ∨ t = 540 + m ∨ (600 + 16 * m ≤ t ∧ t < 600 + 16 * m + 16) ∨ (t = 110 + m ∨ t = 140 + m ∨ t = 150 + m ∨ (200 + 16 * m ≤ t ∧ t < 200 + 16 * m + 16))) → C2 t j = C t j) ∧ (C2 (110 + m) 2 = 0 ∧ C2 (110 + m) 3 = 0 ∧ C2 (110 + m) 4 = 100) ∧ ∀ i : Int, 0 ≤ i → i < 16 → C2 (200 + (16 * m + i)) 0 = 0 ∧ C2 (200 + (16 * m + i)) 1 = -1 ∧ C2 (200 + (16 * m + i)) 2 = 1000000 ∧ C2 (200 + (16 * m + i)) 3 = -1 ∧ C2 (200 + (16 * m + i)) 4 = 0 ∧ C2 (200 + (16 * m + i)) 5 = 0) := by
    intro K3 C3 hI
    obtain ⟨⟨hx3, ha3, hy3⟩, hN, hg, hD, hfr⟩ := hI
    have v510 : ∀ j, C3 (510 + m) j = (q_us (q_us (q_us (q_us (q_zt (q_us (q_zt C (540 + m)) (510 + m) 0 1) (150 + m)) (510 + m) 1 1) (510 + m) 2 0) (510 + m) 3 0) (510 + m) 4 100) (510 + m) j := fun j => hfr _ j (by omega)
    have w : (q_us (q_us (q_us (q_us (q_zt (q_us (q_zt C (540 + m)) (510 + m) 0 1) (150 + m)) (510 + m) 1 1) (510 + m) 2 0) (510 + m) 3 0) (510 + m) 4 100) (510 + m) 1 = 1 ∧ (q_us (q_us (q_us (q_us (q_zt (q_us (q_zt C (540 + m)) (510 + m) 0 1) (150 + m)) (510 + m) 1 1) (510 + m) 2 0) (510 + m) 3 0) (510 + m) 4 100) (510 + m) 2 = 0 ∧ (q_us (q_us (q_us (q_us (q_zt (q_us (q_zt C (540 + m)) (510 + m) 0 1) (150 + m)) (510 + m) 1 1) (510 + m) 2 0) (510 + m) 3 0) (510 + m) 4 100) (510 + m) 3 = 0 ∧ (q_us (q_us (q_us (q_us (q_zt (q_us (q_zt C (540 + m)) (510 + m) 0 1) (150 + m)) (510 + m) 1 1) (510 + m) 2 0) (510 + m) 3 0) (510 + m) 4 100) (510 + m) 4 = 100 := by
      simp only [q_us_ap, q_zt_ap, Int.reduceEq, and_false, and_self, true_and, and_true, if_true, if_false]
    have f1 : q_fre K3 (110 + m) := nz_fre hN hx3 (by show 510 + m ≠ _; omega) (fre_uk (fre_uk (fre_uk (hf _ (by omega)) (by omega)) (by omega)) (by omega)) (by omega)
    have f2 : q_fre K3 (140 + m) := nz_fre hN hx3 (by show 510 + m ≠ _; omega) (fre_uk (fre_uk (fre_uk (hf _ (by omega)) (by omega)) (by omega)) (by omega)) (by omega)
    refine e_fin2R (q := x) (a := n_7) (ci := 6) (c9 := 1) (n := 16) (t := 510 + m) (ta := 540 + m) (t2 := 110 + m) (ta2 := 140 + m) (j0 := 0) hx3 ha3 ⟨by omega, by omega⟩ ⟨by omega, by omega⟩ ⟨by omega, by omega⟩ ⟨⟨by omega, by omega⟩, by omega, by omega⟩ f1 f2 (fun z j g h => by have := ln_par h g; omega) (fun z j g h e => by have := ln_par h g; omega) (kof_540 hm) (kof_140 hm) (fun g => (ln_510 hm).1) (fun j hj => ?_) (fun j hj => ?_) ?_
    · rcases isr_6 hj with rfl | rfl
      · rw [hg]
        exact ⟨by decide, Or.inl ⟨rfl, by rw [ln_m hm]; omega⟩⟩
      · rw [v510, w.1]
        refine ⟨by decide, Or.inr ⟨?_, ?_⟩⟩
        · rw [(ln_510 hm).2, ln_m hm, show 110 + m + 30 + 10 * 1 = 150 + m by omega]
        · rw [ln_m hm]; omega
    · have hj2 := isr_arr (by decide) hj
      have d := (hD j hj2.1 (by omega)).1
      rw [d, ln_140 hm, ln_540 hm]
      exact ⟨by decide, rfl, by omega⟩
    · have val : ∀ t j : Int, t ≠ 110 + m → t ≠ 140 + m → rtC (rtC C3 (510 + m) (110 + m)) (540 + m) (140 + m) t j = C3 t j := fun t j a b => by rw [rtC_ap, if_neg b, rtC_ap, if_neg a]
      have vx : ∀ j, rtC (rtC C3 (510 + m) (110 + m)) (540 + m) (140 + m) (110 + m) j = C3 (510 + m) j := fun j => by rw [rtC_ap, if_neg (by omega), rtC_ap, if_pos rfl]
      have nxa : x ≠ n_7 := fun e => by rw [e, ha3] at hx3; exact absurd (show (31 : Nat) = 7 from congrArg (fun z => z.1) hx3) (by decide)
      refine e_ret dX6_init_65 rfl ⟨rfl, rfl, ?_, by rw [uk_n nxa, uk_p], fun t j g => ?_, ?_, fun i a b => ?_⟩
      · have xt0 : q_xt K (q_uk (q_uk (q_uk K x (7, 0, 510 + m)) n_7 (31, 16, 540 + m)) n_16 (20, 16, 150 + m)) := (xt_uk y0).trans ((xt_uk y_7).trans (xt_uk y_16))
        refine ⟨fun b g => ?_, fun b g => ?_⟩
        · have g1 := hN.1 b (by rw [xt0 b g]; exact g)
          have e1 : b ≠ x := fun e => by subst e; exact g y0
          have e2 : b ≠ n_7 := fun e => by subst e; rw [uk_n (fun e => nxa e.symm)] at y_7; exact g y_7
          rw [uk_n e2, uk_n e1, g1]; exact xt0 b g
        · by_cases e2 : b = n_7
          · rw [e2, uk_p]; exact Or.inr (Or.inr (Or.inl rfl))
          · rw [uk_n e2] at g ⊢
            by_cases e1 : b = x
            · rw [e1, uk_p]; exact Or.inr (Or.inl rfl)
            · rw [uk_n e1] at g ⊢
              rcases hN.2 b e1 g with y9 | y9
              · by_cases e3 : b = n_16
                · have g3 := hN.1 b y9
                  rw [g3, e3, uk_p]; exact Or.inr (Or.inr (Or.inr (Or.inl rfl)))
                · rw [uk_n e3, uk_n e2, uk_n e1] at y9; exact Or.inl y9
              · exact Or.inr (Or.inr (Or.inr (Or.inr y9)))
      · rw [val t j (by omega) (by omega), hfr t j (by omega)]
        simp only [q_us_ap, q_zt_ap]
        repeat rw [if_neg (by omega)]
      · rw [vx, vx, vx, v510, v510, v510]; exact w.2
      · have d := (hD i a b).2
        rw [val _ _ (by omega) (by omega), val _ _ (by omega) (by omega), val _ _ (by omega) (by omega), val _ _ (by omega) (by omega), val _ _ (by omega) (by omega), val _ _ (by omega) (by omega)]
        exact d
  exact c_6_initL hm (fun t h => fre_uk (fre_uk (fre_uk (hf t (by omega)) (by omega)) (by omega)) (by omega)) H 16 0 _ _ (by omega) ⟨⟨hx, h_7, hy⟩, ⟨q_xt.rfl, fun b e g => Or.inl g⟩, by simp only [q_us_ap, q_zt_ap, Int.reduceEq, and_false, and_self, true_and, and_true, if_true, if_false]; repeat rw [if_neg (by omega)], fun i a b => by omega, fun t j g => rfl⟩
