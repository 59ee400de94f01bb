/-! a new content -/
def ciB (C : q_S) : q_S := q_us (q_zt (q_us (q_zt C 300) 900 2 1) 301) 900 3 1
def ciC (C : q_S) (c : Int) (k : Nat) : q_S := fun t j => if t = 300 then (if 0 ≤ j ∧ j < k then fig c j else 0) else if t = 301 then (cSt c k).2.2 j else ciB C t j
theorem ciC_ap {C : q_S} {c : Int} {k : Nat} {t j : Int} : ciC C c k t j = if t = 300 then (if 0 ≤ j ∧ j < k then fig c j else 0) else if t = 301 then (cSt c k).2.2 j else ciB C t j := rfl
theorem ciB_o {C : q_S} {t j : Int} (h : t ≠ 300) (h2 : t ≠ 301) (h3 : t ≠ 900) : ciB C t j = C t j := by
  unfold ciB
  simp only [q_us_ap, q_zt_ap]
  rw [if_neg (fun g => h3 g.1), if_neg h2, if_neg (fun g => h3 g.1), if_neg h]
theorem ciC_0 (C : q_S) (c : Int) : ciC C c 0 = ciB C := by
  funext t j
  rw [ciC_ap]
  by_cases e : t = 300
  · rw [if_pos e, if_neg (by omega), e]
    unfold ciB; simp only [q_us_ap, q_zt_ap, Int.reduceEq, false_and, if_false, if_true]
  · rw [if_neg e]
    by_cases e2 : t = 301
    · rw [if_pos e2, e2]
      unfold ciB; simp only [q_us_ap, q_zt_ap, Int.reduceEq, false_and, if_false, if_true]; rfl
    · rw [if_neg e2]
theorem ciC_s1 (C : q_S) (c : Int) (k : Nat) (h : fig c k = 0 ∨ 10000 ≤ 10 * (cSt c k).2.1 + fig c k ∨ (k : Int) = mlen c - 1) : q_us (q_us (ciC C c k) 300 k (fig c k)) 301 (cSt c k).1 (10 * (cSt c k).2.1 + fig c k) = ciC C c (k + 1) := by
  funext t j
  have es : cSt c (k + 1) = ((cSt c k).1 + 1, 1, fun j => if j = (cSt c k).1 then 10 * (cSt c k).2.1 + fig c k else (cSt c k).2.2 j) := by simp only [cSt]; rw [if_pos h]
  simp only [q_us_ap, ciC_ap]
  rw [es]
  by_cases e1 : t = 301
  · subst e1
    simp only [Int.reduceEq, false_and, true_and, if_false, if_true]
  · rw [if_neg (fun g => e1 g.1)]
    by_cases e2 : t = 300
    · subst e2
      rw [if_pos rfl, if_pos rfl]
      by_cases e : j = k
      · rw [if_pos ⟨rfl, e⟩, if_pos ⟨by omega, by omega⟩, e]
      · rw [if_neg (fun g => e g.2)]
        by_cases e3 : 0 ≤ j ∧ j < k
        · rw [if_pos e3, if_pos ⟨by omega, by omega⟩]
        · rw [if_neg e3, if_neg (by omega)]
    · rw [if_neg (fun g => e2 g.1), if_neg e2, if_neg e1, if_neg e2, if_neg e1]
theorem ciC_s0 (C : q_S) (c : Int) (k : Nat) (h : ¬ (fig c k = 0 ∨ 10000 ≤ 10 * (cSt c k).2.1 + fig c k ∨ (k : Int) = mlen c - 1)) : q_us (ciC C c k) 300 k (fig c k) = ciC C c (k + 1) := by
  funext t j
  have es : cSt c (k + 1) = ((cSt c k).1, 10 * (cSt c k).2.1 + fig c k, (cSt c k).2.2) := by simp only [cSt]; rw [if_neg h]
  simp only [q_us_ap, ciC_ap]
  rw [es]
  by_cases e2 : t = 300
  · subst e2
    rw [if_pos rfl, if_pos rfl]
    by_cases e : j = k
    · rw [if_pos ⟨rfl, e⟩, if_pos ⟨by omega, by omega⟩, e]
    · rw [if_neg (fun g => e g.2)]
      by_cases e3 : 0 ≤ j ∧ j < k
      · rw [if_pos e3, if_pos ⟨by omega, by omega⟩]
      · rw [if_neg e3, if_neg (by omega)]
  · rw [if_neg (fun g => e2 g.1), if_neg e2, if_neg e2]
def cfC (C : q_S) (c : Int) : q_S := q_us (q_us (ciC C c (mlen c).toNat) 900 0 (mlen c)) 900 1 (ncut c)
theorem cfC_o {C : q_S} {c t j : Int} (h : ¬ (290 ≤ t ∧ t < 999)) : cfC C c t j = C t j := by
  unfold cfC
  simp only [q_us_ap]
  rw [if_neg (by omega), if_neg (by omega), ciC_ap, if_neg (by omega), if_neg (by omega), ciB_o (by omega) (by omega) (by omega)]
theorem cSt_z (c : Int) : ∀ (k : Nat) (j : Int), (cSt c k).1 ≤ j → (cSt c k).2.2 j = 0 := by
  intro k
  induction k with
  | zero => intro j _; rfl
  | succ k ih =>
    intro j h
    simp only [cSt] at h ⊢
    split
    next e =>
      rw [if_pos e] at h
      simp only [] at h ⊢
      rw [if_neg (by omega)]
      exact ih j (by omega)
    next e =>
      rw [if_neg e] at h
      exact ih j h
/-- the cell 900 was empty before -/
theorem cfC_ok {C0 : q_S} {c : Int} (hC : CC C0) (hc : vcode c) : (∀ j, 0 ≤ j → cfC (q_zt C0 900) c 900 j = cfC (q_zt C0 900) c (1000000 + 3 * c) j) ∧ (∀ j, 0 ≤ j → cfC (q_zt C0 900) c 300 j = cfC (q_zt C0 900) c (1000000 + 3 * c + 1) j) ∧ (∀ j, 0 ≤ j → cfC (q_zt C0 900) c 301 j = cfC (q_zt C0 900) c (1000000 + 3 * c + 2) j) ∧ cfC (q_zt C0 900) c 900 2 = 1 ∧ cfC (q_zt C0 900) c 900 3 = 1 := by
  have h0 := hc.1
  have hl := vcode_len hc
  have g := hC c hc
  have big : ∀ t j, 1000000 ≤ t → cfC (q_zt C0 900) c t j = C0 t j := fun t j h => by rw [cfC_o (by omega), q_zt_ap, if_neg (by omega)]
  have e900 : ∀ j, cfC (q_zt C0 900) c 900 j = if j = 1 then ncut c else if j = 0 then mlen c else if j = 3 then 1 else if j = 2 then 1 else 0 := by
    intro j
    unfold cfC
    simp only [q_us_ap, ciC_ap, true_and, Int.reduceEq, if_false]
    unfold ciB
    simp only [q_us_ap, q_zt_ap, true_and, Int.reduceEq, if_false, if_true]
  refine ⟨fun j hj => ?_, fun j hj => ?_, fun j hj => ?_, by rw [e900]; rfl, by rw [e900]; rfl⟩
  · rw [e900, big _ _ (by omega)]
    by_cases e1 : j = 1
    · rw [if_pos e1, e1]; exact g.2.1.symm
    · rw [if_neg e1]
      by_cases e2 : j = 0
      · rw [if_pos e2, e2]; exact g.1.symm
      · rw [if_neg e2]
        by_cases e3 : j = 3
        · rw [if_pos e3, e3]; exact g.2.2.2.2.2.1.symm
        · rw [if_neg e3]
          by_cases e4 : j = 2
          · rw [if_pos e4, e4]; exact g.2.2.2.2.1.symm
          · rw [if_neg e4]; exact (g.2.2.2.2.2.2 j (by omega)).symm
  · rw [big (1000000 + 3 * c + 1) j (by omega), g.2.2.1 j hj]
    unfold cfC
    simp only [q_us_ap, Int.reduceEq, false_and, if_false, ciC_ap, if_true]
    by_cases e : j < mlen c
    · rw [if_pos ⟨hj, by omega⟩, if_pos e]
    · rw [if_neg (by omega), if_neg e]
  · rw [big (1000000 + 3 * c + 2) j (by omega), g.2.2.2.1 j hj]
    unfold cfC
    simp only [q_us_ap, Int.reduceEq, false_and, if_false, ciC_ap, if_true]
    by_cases e : j < ncut c
    · rw [if_pos e]; rfl
    · rw [if_neg e]; exact cSt_z c _ j (by unfold ncut at e; omega)
theorem rc_sc {M C C2 : q_S} (h : RC M C) (h16 : 0 ≤ M 50 16 ∧ M 50 16 ≤ 120) (f : ∀ t j : Int, ¬ (290 ≤ t ∧ t < 999) → C2 t j = C t j) : RC M C2 := by
  refine ⟨?_, RD_fr (rc_D h) rfl (f _ _ (by omega)) (fun j => f _ _ (by omega)), RP_fr (rc_P h) (fun _ => rfl) (fun _ => rfl) (fun _ => rfl) (fun _ => rfl) (fun _ => rfl) (fun _ => rfl) (fun t j a b => f _ _ (by omega)), RM_fr (rc_M h) (fun _ => rfl) (fun _ => rfl) (fun t j a b d => f _ _ (by omega)), RL_fr (rc_L h) (fun _ => rfl) (fun t a b => f _ _ (by omega)) (fun t j a b => f _ _ (by omega)),
    RV_fr (rc_V h) rfl (fun _ => rfl) (fun _ => rfl) (fun _ => rfl) (fun _ => rfl) (fun _ => rfl) (fun _ => rfl) (fun j => f _ _ (by omega)) (fun j => f _ _ (by omega)) (fun t j a => f _ _ (by omega)), RK_fr (rc_K h) (Int.le_refl _) (fun _ => rfl) (fun _ => rfl) (fun j => f _ _ (by omega)) (fun j => f _ _ (by omega)), RH_fr (rc_H h) (fun _ => rfl) (fun _ => rfl) (fun j => f _ _ (by omega)) (fun j => f _ _ (by omega)),
    RO_fr (rc_O h) (fun _ => rfl) (fun _ => rfl) (fun _ => rfl) rfl (fun j => f _ _ (by omega)) (fun j => f _ _ (by omega)) (fun j => f _ _ (by omega)), RT_fr (rc_T h) (fun _ => rfl) (fun _ => rfl) (fun _ => rfl) (f _ _ (by omega)) (fun j => f _ _ (by omega)) (fun j => f _ _ (by omega)) (fun j => f _ _ (by omega)) (fun j => f _ _ (by omega)), RE_fr (rc_E h) (fun _ => rfl) (fun _ => rfl) rfl (f _ _ (by omega)) (fun j => f _ _ (by omega)) (fun j => f _ _ (by omega)) (fun j => f _ _ (by omega)), CC_fr (rc_C h) (fun t j a => f _ _ (by omega))⟩
  have hS := h.1
  unfold RS at hS ⊢
  rw [f 100 9 (by omega), f 100 10 (by omega), f 100 11 (by omega), f 100 12 (by omega), f 100 13 (by omega), f 104 0 (by omega), f 108 0 (by omega), f 105 1 (by omega), f 105 2 (by omega)]
  exact hS
theorem xt_get {K K2 : q_K} {a : Nat} {k : Nat × Nat × Int} (h : q_xt K K2) (g : K a = k) (h0 : k.1 ≠ 0) : K2 a = k := by
  rw [h a (by rw [g]; exact h0)]; exact g
/-- the kinds when a content is done -/
theorem xt_3 {K : q_K} {q a b : Nat} {t n : Int} (hq : (K q).1 = 0) (ha : (q_uk K q (1, 0, 900) a).1 = 0) (hb : (q_uk (q_uk K q (1, 0, 900)) a (20, 12, 300) b).1 = 0) (hB : q_tb K n) (ht : 1000000 ≤ t) :
    let K3 := q_uk (q_uk (q_uk (q_uk (q_uk (q_uk K q (1, 0, 900)) a (20, 12, 300)) b (20, 12, 301)) q (1, 0, t)) a (20, 12, t + 1)) b (20, 12, t + 2)
    q_xt K K3 ∧ q_tb K3 n ∧ K3 q = (1, 0, t) ∧ q ≠ a ∧ q ≠ b ∧ a ≠ b := by
  have qa : q ≠ a := fun e => by rw [← e, uk_p] at ha; cases ha
  have ab : a ≠ b := fun e => by rw [← e, uk_p] at hb; cases hb
  have qb : q ≠ b := fun e => by rw [← e, uk_n qa, uk_p] at hb; cases hb
  have ka : (K a).1 = 0 := by rw [uk_n qa.symm] at ha; exact ha
  have kb : (K b).1 = 0 := by rw [uk_n ab.symm, uk_n qb.symm] at hb; exact hb
  have kx : ∀ x, x ≠ q → x ≠ a → x ≠ b → q_uk (q_uk (q_uk (q_uk (q_uk (q_uk K q (1, 0, 900)) a (20, 12, 300)) b (20, 12, 301)) q (1, 0, t)) a (20, 12, t + 1)) b (20, 12, t + 2) x = K x := fun x h1 h2 h3 => by
    rw [uk_n h3, uk_n h2, uk_n h1, uk_n h3, uk_n h2, uk_n h1]
  refine ⟨fun x hx => ?_, fun x hx => ?_, ?_, qa, qb, ab⟩
  · exact kx x (fun e => hx (by rw [e]; exact hq)) (fun e => hx (by rw [e]; exact ka)) (fun e => hx (by rw [e]; exact kb))
  · by_cases e3 : x = b
    · subst e3; rw [uk_p]; exact Or.inr (Or.inr (show 1000000 ≤ t + 2 by omega))
    · by_cases e2 : x = a
      · subst e2; rw [uk_n e3, uk_p]; exact Or.inr (Or.inr (show 1000000 ≤ t + 1 by omega))
      · by_cases e1 : x = q
        · subst e1; rw [uk_n e3, uk_n e2, uk_p]; exact Or.inr (Or.inr ht)
        · rw [kx x e1 e2 e3] at hx ⊢; exact hB x hx
  · rw [uk_n qb, uk_n qa, uk_p]
