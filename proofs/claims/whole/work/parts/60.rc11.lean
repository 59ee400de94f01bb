/-! a new version, done -/
theorem uk_uk {K : q_K} {q : Nat} {a b : Nat × Nat × Int} : q_uk (q_uk K q a) q b = q_uk K q b := by
  funext x
  unfold q_uk
  split <;> rfl
theorem uk_re {K : q_K} {q a : Nat} {k k2 k3 : Nat × Nat × Int} (h : q_uk K q k a = k2) (hne : k ≠ k2) : q_uk K q k3 a = k2 := by
  have e : a ≠ q := fun e => hne (by rw [e, uk_p] at h; exact h)
  rw [uk_n e] at h ⊢; exact h
theorem tb_uk {K : q_K} {q k m : Nat} {n t : Int} (h : q_tb K n) (h0 : 0 ≤ n) (ht : t < 290 ∨ (999 ≤ t ∧ t < 1000 + (n + 1)) ∨ 1000000 ≤ t) : q_tb (q_uk K q (k, m, t)) (n + 1) := by
  intro a ha
  by_cases e : a = q
  · rw [e, uk_p]; exact ht
  · rw [uk_n e] at ha ⊢
    rcases h a ha with g | g | g
    · exact Or.inl g
    · exact Or.inr (Or.inl ⟨g.1, by omega⟩)
    · exact Or.inr (Or.inr g)
theorem e_finV {X : q_X} {pc : Nat} {ls : q_Ls} {st : List q_V} {K0 : q_K} {B C1 : q_S} {c s : Nat} {Q : q_Q2} {q : Nat} {n cc : Int} (hB : q_tb K0 n) (hn : 0 ≤ n ∧ n < 800000) (hc : 0 ≤ cc) (h4 : C1 901 4 = 1000000 + 3 * cc)
    (k : q_E X pc ls st (q_uk K0 q (10, 0, 1000 + n)) B (vnC C1 n) c s Q) : q_E X pc ls st (q_uk K0 q (10, 0, 901)) B C1 c s Q := by
  refine e_fin (M2 := B) (C2 := vnC C1 n) (q := q) (k := 10) (n := 0) (t := 901) (t2 := 1000 + n) uk_p (by decide) (by decide) (by decide) (Or.inr (fre_uk (tb_fre2 hB (Int.le_refl _) hn.1 (by omega)) (by omega))) (fun x j a b d => ?_) (fun j a => ?_) (fun a => by omega) (fun j hj => ?_) ?_
  · unfold mg
    split
    · rfl
    · rw [vnC_ap, if_neg d]
  · rw [mg_c (by omega), mg_c (by decide), vnC_ap, if_pos rfl]
  · have e4 : j = 4 := by
      rcases hj with ⟨c2, k2, h1, h2, h3, h4, h5⟩ | ⟨h1, h2, h3⟩
      · have h6 : c2 = 9 := by simp only [] at h1; omega
        subst h6
        have h7 : k2 < 6 := h4
        match k2, h7, h5 with
        | 0, _, h5 => exact absurd h5 (by decide)
        | 1, _, h5 => exact absurd h5 (by decide)
        | 2, _, h5 => exact absurd h5 (by decide)
        | 3, _, h5 => exact absurd h5 (by decide)
        | 4, _, _ => exact h3
        | 5, _, h5 => exact absurd h5 (by decide)
      · simp only [] at h1; omega
    subst e4
    rw [mg_c (by decide), h4]
    have l1 : ln (1000 + n) 4 (1000000 + 3 * cc) = 1000000 + 3 * cc := by
      have := ln_v (v := n) (j := 4) (g := 1000000 + 3 * cc) ⟨by omega, by omega⟩
      unfold vtag at this; rw [if_neg (by omega)] at this; exact this
    have l2 : ln 901 4 (1000000 + 3 * cc) = 1000000 + 3 * cc := rfl
    rw [l1, l2]
    exact ⟨by omega, rfl, by omega⟩
  · rw [uk_uk]; exact k
def mvC (C : q_S) (n f h m d c : Int) : q_S := q_us (q_us (q_us (vnC (viC (q_zt C 901) f h m d c) n) 125 n (1000 + n)) 124 f n) 104 0 (n + 1)
theorem viC_ap {C : q_S} {f h m d c t j : Int} : viC C f h m d c t j = if t = 901 ∧ j = 4 then 1000000 + 3 * c else if t = 901 ∧ j = 3 then d else if t = 901 ∧ j = 2 then m else if t = 901 ∧ j = 1 then h else if t = 901 ∧ j = 0 then f else if t = 901 ∧ j = 5 then 1 else C t j := rfl
theorem mvC_o {C : q_S} {n f h m d c t j : Int} (hn : 0 ≤ n) (g : ¬ (t = 124 ∨ t = 125 ∨ t = 104 ∧ j = 0 ∨ t = 1000 + n ∨ (400 ≤ t ∧ t < 999))) : mvC C n f h m d c t j = C t j := by
  unfold mvC
  simp only [q_us_ap]
  rw [if_neg (by omega), if_neg (by omega), if_neg (by omega), vnC_ap, if_neg (by omega), viC_ap, if_neg (by omega), if_neg (by omega), if_neg (by omega), if_neg (by omega), if_neg (by omega), if_neg (by omega), q_zt_ap, if_neg (by omega)]
theorem mvC_v {C : q_S} {n f h m d c j : Int} (hn : 0 ≤ n) : mvC C n f h m d c (1000 + n) j = viC (q_zt C 901) f h m d c 901 j := by
  unfold mvC
  simp only [q_us_ap]
  rw [if_neg (by omega), if_neg (by omega), if_neg (by omega), vnC_ap, if_pos rfl]
theorem rc_mv {M C : q_S} (h : RC M C) (hW : WR M) {f m c d fo : Int} (hf : 0 ≤ f ∧ f ≤ 15) (hn : M 50 16 < 120) (hfo : fo = if c = 0 then -1 else d) : RC (makesF M f m c d) (mvC C (M 50 16) f (M 50 1) m fo c) := by
  have h16 := rs_16 hW
  have vv : ∀ j, mvC C (M 50 16) f (M 50 1) m fo c (1000 + M 50 16) j = viC (q_zt C 901) f (M 50 1) m fo c 901 j := fun j => mvC_v h16.1
  refine rc_makes h hW hf hn hfo (fun t j g => mvC_o h16.1 g) ?_ (fun v => ?_) (fun g => ?_) ?_ ?_ ?_ ?_ ?_ ?_
  · unfold mvC; simp only [q_us_ap, and_self, if_true]
  · unfold mvC; simp only [q_us_ap, Int.reduceEq, false_and, true_and, if_false]
    by_cases e : v = M 50 16
    · rw [if_pos e, if_pos e]
    · rw [if_neg e, if_neg e, vnC_ap, if_neg (by omega), viC_ap, if_neg (by omega), if_neg (by omega), if_neg (by omega), if_neg (by omega), if_neg (by omega), if_neg (by omega), q_zt_ap, if_neg (by omega)]
  · unfold mvC; simp only [q_us_ap, Int.reduceEq, false_and, true_and, if_false]
    by_cases e : g = f
    · rw [if_pos e, if_pos e]
    · rw [if_neg e, if_neg e, vnC_ap, if_neg (by omega), viC_ap, if_neg (by omega), if_neg (by omega), if_neg (by omega), if_neg (by omega), if_neg (by omega), if_neg (by omega), q_zt_ap, if_neg (by omega)]
  · rw [vv]; rfl
  · rw [vv]; rfl
  · rw [vv]; rfl
  · rw [vv]; rfl
  · rw [vv]; rfl
  · rw [vv]; rfl
/-- what acknowledging makes -/
abbrev ackF (M : q_S) (m f : Int) : q_S := q_us (makesF M f m (M 3 (16 * m + f)) (M 4 (16 * m + f))) 5 (16 * m + f) (M 50 16 + 1)
theorem rc_seen {M C : q_S} (h : RC M C) (h16 : 0 ≤ M 50 16) {p v : Int} (hp : 0 ≤ p ∧ p < 48) : RC (q_us M 5 p (v + 1)) (q_us C (200 + p) 3 v) := by
  have g := rc_P h p hp.1 hp.2
  have cz : ∀ j, j ≠ 3 → q_us C (200 + p) 3 v (200 + p) j = C (200 + p) j := fun j h => if_neg (fun y => h y.2)
  refine rc_copy h h16 hp (fun t j x => if_neg (by omega)) (fun t j x => if_neg (fun y => x y.1)) ?_ ?_ ?_ ?_ ?_ ?_
  · rw [cz _ (by decide)]; exact g.1
  · rw [cz _ (by decide)]; exact g.2.1
  · rw [cz _ (by decide)]; exact g.2.2.1
  · simp only [q_us_ap, and_self, if_true]; omega
  · rw [cz _ (by decide)]; exact g.2.2.2.2.1
  · rw [cz _ (by decide)]; exact g.2.2.2.2.2
theorem mi_seen {M : q_S} (h : MI M) {p v : Int} (hp : 0 ≤ p ∧ p < 48) (hv : v < M 50 16) (hf : 0 ≤ v → M 17 v = p % 16) : MI (q_us M 5 p (v + 1)) := by
  have g := h.2.1 p hp.1 hp.2
  have e5 : q_us M 5 p (v + 1) 5 p = v + 1 := if_pos ⟨rfl, rfl⟩
  refine mi_copy h hp (fun t j x => if_neg (by omega)) g.1 g.2.1 (by rw [e5]; omega) (fun x => ?_)
  rw [e5] at x ⊢
  rw [show v + 1 - 1 = v by omega]; exact hf (by omega)
theorem rc_ack {M C : q_S} (h : RC M C) (hW : WR M) (hI : MI M) {m f : Int} (hm : 0 ≤ m ∧ m ≤ 2) (hf : 0 ≤ f ∧ f ≤ 15) (hn : M 50 16 < 120) : RC (ackF M m f) (q_us (mvC C (M 50 16) f (M 50 1) m (cfo M (16 * m + f)) (M 3 (16 * m + f))) (200 + (16 * m + f)) 3 (M 50 16)) := by
  have h16 := rs_16 hW
  have hz := mi_2 hI (p := 16 * m + f) ⟨by omega, by omega⟩
  have e16 : makesF M f m (M 3 (16 * m + f)) (M 4 (16 * m + f)) 50 16 = M 50 16 + 1 := by unfold makesF; simp only [q_us_ap, and_self, if_true]
  refine rc_seen (rc_mv h hW hf hn ?_) (by rw [e16]; omega) ⟨by omega, by omega⟩
  unfold cfo
  by_cases e : M 2 (16 * m + f) = 0
  · rw [if_pos e, if_pos (hz.mp e)]
  · rw [if_neg e, if_neg (fun g => e (hz.mpr g))]
theorem mi_ack {M : q_S} (hW : WR M) (hI : MI M) {m f : Int} (hm : 0 ≤ m ∧ m ≤ 2) (hf : 0 ≤ f ∧ f ≤ 15) : MI (ackF M m f) := by
  have h16 := rs_16 hW
  have e16 : makesF M f m (M 3 (16 * m + f)) (M 4 (16 * m + f)) 50 16 = M 50 16 + 1 := by unfold makesF; simp only [q_us_ap, and_self, if_true]
  have e17 : makesF M f m (M 3 (16 * m + f)) (M 4 (16 * m + f)) 17 (M 50 16) = f := by unfold makesF; simp only [q_us_ap, Int.reduceEq, false_and, and_self, if_false, if_true]
  exact mi_seen (mi_makes hI hW (mi_3 hI ⟨by omega, by omega⟩)) ⟨by omega, by omega⟩ (by rw [e16]; omega) (fun _ => by rw [e17]; omega)
