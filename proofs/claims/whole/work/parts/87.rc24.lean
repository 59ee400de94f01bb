/-! constructors: the log, the reference, kinds of a content -/
theorem kof_999 : kof 999 = (10, 0, 999) := rfl
theorem ln_525 {j g : Int} : ln 525 j g = g := by
  unfold ln ln0
  rw [if_pos (by omega), if_neg (by omega), if_neg (by omega), if_neg (by omega), if_neg (by omega), if_neg (by omega), if_neg (by omega), if_neg (by omega), if_neg (by omega), if_neg (by omega), if_neg (by omega), if_neg (by omega), if_neg (by omega), if_neg (by omega), if_neg (by omega), if_neg (by omega), if_pos (by omega)]
theorem ln_125 {j g : Int} : ln 125 j g = g := rfl
theorem ln_502 {j g : Int} : ln 502 j g = 110 + j := by
  unfold ln ln0
  rw [if_pos (by omega), if_neg (by omega), if_neg (by omega), if_neg (by omega), if_neg (by omega), if_neg (by omega), if_neg (by omega), if_neg (by omega), if_pos (by omega)]
theorem ln_102 {j g : Int} : ln 102 j g = 110 + j := rfl
theorem nz_3 {K Kb : q_K} {x q a b : Nat} {P : Int → Prop} {t : Int} (h : q_nz K Kb x P) (hq : (Kb q).1 = 0) (ha : (q_uk Kb q (1, 0, 900) a).1 = 0) (hb : (q_uk (q_uk Kb q (1, 0, 900)) a (20, 12, 300) b).1 = 0) (h1 : P t) (h2 : P (t + 1)) (h3 : P (t + 2)) :
    q_nz K (q_uk (q_uk (q_uk (q_uk (q_uk (q_uk Kb q (1, 0, 900)) a (20, 12, 300)) b (20, 12, 301)) q (1, 0, t)) a (20, 12, t + 1)) b (20, 12, t + 2)) x P ∧ q_xt Kb (q_uk (q_uk (q_uk (q_uk (q_uk (q_uk Kb q (1, 0, 900)) a (20, 12, 300)) b (20, 12, 301)) q (1, 0, t)) a (20, 12, t + 1)) b (20, 12, t + 2)) ∧ (q ≠ a ∧ q ≠ b ∧ a ≠ b) := by
  have qa : q ≠ a := fun e => by rw [← e, uk_p] at ha; cases ha
  have ab : a ≠ b := fun e => by rw [← e, uk_p] at hb; cases hb
  have qb : q ≠ b := fun e => by rw [← e, uk_n qa, uk_p] at hb; cases hb
  have ka : (Kb a).1 = 0 := by rw [uk_n qa.symm] at ha; exact ha
  have kb : (Kb b).1 = 0 := by rw [uk_n ab.symm, uk_n qb.symm] at hb; exact hb
  have kx : ∀ x, x ≠ q → x ≠ a → x ≠ b → q_uk (q_uk (q_uk (q_uk (q_uk (q_uk Kb q (1, 0, 900)) a (20, 12, 300)) b (20, 12, 301)) q (1, 0, t)) a (20, 12, t + 1)) b (20, 12, t + 2) x = Kb x := fun x h1 h2 h3 => by
    rw [uk_n h3, uk_n h2, uk_n h1, uk_n h3, uk_n h2, uk_n h1]
  have xt : q_xt Kb (q_uk (q_uk (q_uk (q_uk (q_uk (q_uk Kb q (1, 0, 900)) a (20, 12, 300)) b (20, 12, 301)) q (1, 0, t)) a (20, 12, t + 1)) b (20, 12, t + 2)) := fun x hx => kx x (fun e => hx (by rw [e]; exact hq)) (fun e => hx (by rw [e]; exact ka)) (fun e => hx (by rw [e]; exact kb))
  refine ⟨⟨h.1.trans xt, fun z e g => ?_⟩, xt, qa, qb, ab⟩
  by_cases e3 : z = b
  · rw [e3, uk_p]; exact Or.inr h3
  · by_cases e2 : z = a
    · rw [e2, uk_n ab, uk_p]; exact Or.inr h2
    · by_cases e1 : z = q
      · rw [e1, uk_n qb, uk_n qa, uk_p]; exact Or.inr h1
      · rw [kx z e1 e2 e3] at g ⊢; exact h.2 z e g
/-- the reference's memory when it is made -/
def m00 (a b : Nat) : q_S := fun t j => if t = 25 ∧ 0 ≤ j ∧ j < a then 2 else if t = 26 ∧ 0 ≤ j ∧ j < a then 2001 else if t = 12 ∧ 0 ≤ j ∧ j < b then 100 else 0
theorem m00_0 : m00 0 0 = fun _ _ => 0 := by
  funext t j
  unfold m00
  rw [if_neg (by omega), if_neg (by omega), if_neg (by omega)]
theorem m00_a (a : Nat) : q_us (q_us (m00 a 0) 25 a 2) 26 a 2001 = m00 (a + 1) 0 := by
  funext t j
  simp only [q_us_ap]
  unfold m00
  by_cases e1 : t = 25
  · subst e1
    simp only [Int.reduceEq, false_and, true_and, if_false]
    by_cases e2 : j = a
    · rw [if_pos e2, if_pos ⟨by omega, by omega⟩]
    · rw [if_neg e2]
      by_cases e3 : 0 ≤ j ∧ j < (a : Int)
      · rw [if_pos e3, if_pos ⟨by omega, by omega⟩]
      · rw [if_neg e3, if_neg (fun g => e3 ⟨g.1, by omega⟩)]
  · by_cases e4 : t = 26
    · subst e4
      simp only [Int.reduceEq, false_and, true_and, if_false]
      by_cases e2 : j = a
      · rw [if_pos e2, if_pos ⟨by omega, by omega⟩]
      · rw [if_neg e2]
        by_cases e3 : 0 ≤ j ∧ j < (a : Int)
        · rw [if_pos e3, if_pos ⟨by omega, by omega⟩]
        · rw [if_neg e3, if_neg (fun g => e3 ⟨g.1, by omega⟩)]
    · simp only [e1, e4, false_and, if_false]
theorem m00_b (a b : Nat) : q_us (m00 a b) 12 b 100 = m00 a (b + 1) := by
  funext t j
  simp only [q_us_ap]
  unfold m00
  by_cases e1 : t = 12
  · subst e1
    simp only [Int.reduceEq, false_and, true_and, if_false]
    by_cases e2 : j = b
    · rw [if_pos e2, if_pos ⟨by omega, by omega⟩]
    · rw [if_neg e2]
      by_cases e3 : 0 ≤ j ∧ j < (b : Int)
      · rw [if_pos e3, if_pos ⟨by omega, by omega⟩]
      · rw [if_neg e3, if_neg (fun g => e3 ⟨g.1, by omega⟩)]
  · simp only [e1, false_and, if_false]
