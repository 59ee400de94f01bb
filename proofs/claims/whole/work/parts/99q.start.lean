/-! the law's start -/
def lz_c1 (c r j : Int) : Int := if r = 0 then (if j = 0 then mlen c else if j = 1 then ncut c else if j ≤ 3 then 1 else 0) else if r = 1 then (if j < mlen c then fig c j else 0) else (if j < ncut c then pce c j else 0)
/-- a memory for contents that are not yet made -/
def lz_C : q_S := fun t j => if t < 1000000 then 0 else lz_c1 ((t - 1000000) / 3) ((t - 1000000) % 3) j
theorem lz_Ca {c r j : Int} (h0 : 0 ≤ c) (hr : 0 ≤ r ∧ r < 3) : lz_C (1000000 + 3 * c + r) j = lz_c1 c r j := by
  unfold lz_C
  rw [if_neg (by omega), show (1000000 + 3 * c + r - 1000000) / 3 = c by omega, show (1000000 + 3 * c + r - 1000000) % 3 = r by omega]
theorem lz_Cb {c j : Int} (h0 : 0 ≤ c) : lz_C (1000000 + 3 * c) j = lz_c1 c 0 j := by
  have := lz_Ca (r := 0) (j := j) h0 (by decide)
  rwa [Int.add_zero] at this
theorem lz_cc : CC lz_C := fun c hc => by
  have h0 : 0 ≤ c := hc.1
  refine ⟨(lz_Cb h0).trans rfl, (lz_Cb h0).trans rfl, fun i hi => (lz_Ca h0 (by decide)).trans rfl, fun i hi => (lz_Ca h0 (by decide)).trans rfl, (lz_Cb h0).trans rfl, (lz_Cb h0).trans rfl, fun j hj => (lz_Cb h0).trans ?_⟩
  unfold lz_c1
  rw [if_pos rfl, if_neg (by omega), if_neg (by omega), if_neg (by omega)]
theorem rc_450 {M C C2 : q_S} (h : RC M C) (h16 : 0 ≤ M 50 16 ∧ M 50 16 ≤ 120) (f : ∀ t j : Int, t ≠ 450 → C2 t j = C t j) : RC M C2 := by
  refine ⟨?_, RD_fr (rc_D h) rfl (f _ _ (by omega)) (fun j => f _ _ (by omega)), RP_fr (rc_P h) (fun _ => rfl) (fun _ => rfl) (fun _ => rfl) (fun _ => rfl) (fun _ => rfl) (fun _ => rfl) (fun t j a b => f _ _ (by omega)), RM_fr (rc_M h) (fun _ => rfl) (fun _ => rfl) (fun t j a b d => f _ _ (by omega)), RL_fr (rc_L h) (fun _ => rfl) (fun t a b => f _ _ (by omega)) (fun t j a b => f _ _ (by omega)),
    RV_fr (rc_V h) rfl (fun _ => rfl) (fun _ => rfl) (fun _ => rfl) (fun _ => rfl) (fun _ => rfl) (fun _ => rfl) (fun j => f _ _ (by omega)) (fun j => f _ _ (by omega)) (fun t j a => f _ _ (by omega)), RK_fr (rc_K h) (Int.le_refl _) (fun _ => rfl) (fun _ => rfl) (fun j => f _ _ (by omega)) (fun j => f _ _ (by omega)), RH_fr (rc_H h) (fun _ => rfl) (fun _ => rfl) (fun j => f _ _ (by omega)) (fun j => f _ _ (by omega)),
    RO_fr (rc_O h) (fun _ => rfl) (fun _ => rfl) (fun _ => rfl) rfl (fun j => f _ _ (by omega)) (fun j => f _ _ (by omega)) (fun j => f _ _ (by omega)), RT_fr (rc_T h) (fun _ => rfl) (fun _ => rfl) (fun _ => rfl) (f _ _ (by omega)) (fun j => f _ _ (by omega)) (fun j => f _ _ (by omega)) (fun j => f _ _ (by omega)) (fun j => f _ _ (by omega)), RE_fr (rc_E h) (fun _ => rfl) (fun _ => rfl) rfl (f _ _ (by omega)) (fun j => f _ _ (by omega)) (fun j => f _ _ (by omega)) (fun j => f _ _ (by omega)), CC_fr (rc_C h) (fun t j a => f _ _ (by omega))⟩
  have hS := h.1
  unfold RS at hS ⊢
  rw [f 100 9 (by omega), f 100 10 (by omega), f 100 11 (by omega), f 100 12 (by omega), f 100 13 (by omega), f 104 0 (by omega), f 108 0 (by omega), f 105 1 (by omega), f 105 2 (by omega)]
  exact hS
set_option maxRecDepth 20000 in
set_option maxHeartbeats 4000000 in
theorem lz_start {l : Launch} {D : va_G} {B sb n : Nat} {Z : Int → Int} (hn : n ≤ 2560) {K : q_K} (hK : ∀ a, (K a).1 = 0) {c s : Nat} (hc : 9000 ≤ c) (hs : 200000 ≤ s) : q_F l D B sb n Z 0 [some (q_R 0), none, none, none, none, none, none] [] K (fun _ _ => 0) lz_C c s := by
  refine lz_new (t := 500) (ci := 10) (c2 := c - 1) (s2 := s - 14) (by decide) (fun a g => absurd (hK a) g) (Or.inl (by decide)) dL_law_0 n_L_8 (by omega) (by show s - 14 + 14 ≤ s; omega) (fun x zx yx => ?_)
  refine lz_dup dL_law_3 ?_
  have hx0 : q_uk K x (10 + 1, 0, 500) x = (11, 0, 500) := uk_p
  refine lz_callI (as := []) (rest := [q_R x]) (c1 := 87) (s1 := 4838) (c2 := c - 100) (s2 := s - 5000) dL_law_4 k_X10_init rfl rfl l_L_120 i_X10_init hx0 (by decide) rfl rfl rfl rfl (Nat.le_of_ble_eq_true rfl) ⟨by decide, by decide⟩ (by omega) (by omega) (Nat.le_of_ble_eq_true rfl) (by decide)
    (c_10_init yx (fun t _ a g => absurd (hK a) g) (CC_fr lz_cc (fun t j ht => by unfold q_zt; rw [if_neg (by omega)]))) (fun ov K2 M2 C2 g => ?_) (fun E K2 M2 C2 g => by obtain ⟨g5, -⟩ := g; cases g5)
  obtain ⟨g5, g6, g7, g8, g9⟩ := g
  obtain rfl := Sum.inl.inj g5
  rw [g6]
  refine lz_astore_n (ls2 := [some (q_R 0), some (q_R x), none, none, none, none, none]) dL_law_7 (by decide) rfl ?_
  have hP2 : ∀ a, (K2 a).1 ≠ 0 → (100 ≤ (K2 a).2.2 ∧ (K2 a).2.2 < 280) ∨ (K2 a).2.2 = 999 ∨ 1000000 ≤ (K2 a).2.2 := fun a ha => (g7.2 a ha).elim (fun y => absurd (hK a) y) id
  refine lz_new (t := 450) (ci := 11) (c2 := c - 101) (s2 := s - 5043) (by decide) (fun a g => by have := hP2 a g; omega) (Or.inl (by decide)) dL_law_8 n_L_121 (by omega) (by show s - 5043 + 43 ≤ s - 5000; omega) (fun m zm ym => ?_)
  refine lz_dup dL_law_11 ?_
  have hm0 : q_uk K2 m (11 + 1, 0, 450) m = (12, 0, 450) := uk_p
  refine lz_callI (as := []) (rest := [q_R m]) (c1 := 30) (s1 := 90660) (c2 := c - 200) (s2 := s - 100000) dL_law_12 k_X11_init rfl rfl l_L_123 i_X11_init hm0 (by decide) rfl rfl rfl rfl (Nat.le_of_ble_eq_true rfl) ⟨by decide, by decide⟩ (by omega) (by omega) (Nat.le_of_ble_eq_true rfl) (by decide)
    (m_init ym (fun j => by unfold q_zt; rw [if_pos rfl]) (fun t ht a g => by have := hP2 a g; omega)) (fun ov K4 M4 C4 g => ?_) (fun E K4 M4 C4 g => by obtain ⟨g5, -⟩ := g; cases g5)
  obtain ⟨f5, f6, f7, f8, f9⟩ := g
  obtain rfl := Sum.inl.inj f5
  rw [f6]
  have hm4 : x ≠ m := fun e => by rw [← e, g8] at ym; exact absurd ym (by decide)
  have hx4 : K4 x = (11, 0, 100) := xt_get f7.1 g8 (by decide)
  refine lz_astore_n (ls2 := [some (q_R 0), some (q_R x), some (q_R m), none, none, none, none]) dL_law_15 (by decide) rfl ?_
  refine lz_iconst dL_law_16 ?_
  have hP4 : ∀ a, (K4 a).1 ≠ 0 → ((100 ≤ (K4 a).2.2 ∧ (K4 a).2.2 < 280) ∨ (K4 a).2.2 = 999 ∨ 1000000 ≤ (K4 a).2.2) ∨ (K4 a).2.2 < 100 := fun a ha => by
    rcases f7.2 a ha with y | y
    · left
      have e := f7.1 a y
      rw [e]
      exact hP2 a y
    · exact Or.inr y
  refine lz_newL (t := 280) (m := 1) (c2 := c - 201) (s2 := s - 100001) (by decide) (fun a g => by have := hP4 a g; omega) dL_law_17 g_aL rfl (by decide) (by omega) (by omega) (fun o zo yo => ?_)
  refine lz_astore_n (ls2 := [some (q_R 0), some (q_R x), some (q_R m), some (q_R o), none, none, none]) dL_law_19 (by decide) rfl ?_
  refine lz_iconst dL_law_20 ?_
  refine lz_istore (ls2 := [some (q_R 0), some (q_R x), some (q_R m), some (q_R o), some (q_I 0), none, none]) dL_law_21 (by decide) rfl ?_
  have h16 : 0 ≤ m0 50 16 ∧ m0 50 16 ≤ 120 := rs_16 okc_ini.1.1
  refine lz_loop hn 512 0 0 _ m0 _ none none _ _ (by decide) (by decide) (by decide) ⟨uk_k yo hx4 (by decide), uk_k yo f8 (by decide), uk_p, fun a ha => ?_, ?_, okc_ini⟩ (by omega) (by omega)
  · by_cases e : a = o
    · rw [e, uk_p]; exact Or.inl (by decide)
    · rw [uk_n e] at ha ⊢
      have := hP4 a ha
      omega
  · have r2 : RC m0 C2 := rc_ini g9
    have r4 : RC m0 C4 := rc_450 r2 h16 (fun t j ht => (f9 t j ht).trans (by unfold q_zt; rw [if_neg ht]))
    exact rc_280 r4 h16 (fun t j ht => by unfold q_zt; rw [if_neg ht])
