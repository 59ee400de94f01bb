/-! the reference is made -/
def refI (j : Int) : Int := if j = 42 then 1 else if j = 40 then 1 else if j = 35 then 1 else if j = 33 then 1 else if j = 32 then 1 else if j = 31 then 1 else if j = 30 then 1 else if j = 29 then 1 else if j = 28 then 1 else if j = 26 then 1 else if j = 25 then 1 else if j = 24 then 1 else if j = 23 then 1 else if j = 22 then 1 else if j = 21 then 1 else if j = 20 then 1 else if j = 19 then 1 else if j = 18 then 1 else if j = 17 then 1 else if j = 15 then 1 else if j = 14 then 1 else if j = 12 then 1 else if j = 11 then 1 else if j = 8 then 1 else if j = 7 then 1 else if j = 6 then 1 else if j = 5 then 1 else if j = 4 then 1 else if j = 3 then 1 else if j = 2 then 1 else 0
def m0 : q_S := fun t j => if t = 50 then refI j else m00 12 3 t j
theorem isr_11 {t j : Int} (hj : q_isr (12, 0, t) j) : j = 2 ∨ j = 3 ∨ j = 4 ∨ j = 5 ∨ j = 6 ∨ j = 7 ∨ j = 8 ∨ j = 11 ∨ j = 12 ∨ j = 14 ∨ j = 15 ∨ j = 17 ∨ j = 18 ∨ j = 19 ∨ j = 20 ∨ j = 21 ∨ j = 22 ∨ j = 23 ∨ j = 24 ∨ j = 25 ∨ j = 26 ∨ j = 28 ∨ j = 29 ∨ j = 30 ∨ j = 31 ∨ j = 32 ∨ j = 33 ∨ j = 35 ∨ j = 40 ∨ j = 42 := by
  rcases hj with ⟨c2, k2, h1, h2, h3, h4, h5⟩ | ⟨h1, h2, h3⟩
  · have h6 : c2 = 11 := by simp only [] at h1; omega
    subst h6
    have h7 : k2 < 43 := h4
    match k2, h7, h5 with
    | 0, _, h5 => exact absurd h5 (by decide)
    | 1, _, h5 => exact absurd h5 (by decide)
    | 2, _, _ => exact Or.inl h3
    | 3, _, _ => exact Or.inr (Or.inl h3)
    | 4, _, _ => exact Or.inr (Or.inr (Or.inl h3))
    | 5, _, _ => exact Or.inr (Or.inr (Or.inr (Or.inl h3)))
    | 6, _, _ => exact Or.inr (Or.inr (Or.inr (Or.inr (Or.inl h3))))
    | 7, _, _ => exact Or.inr (Or.inr (Or.inr (Or.inr (Or.inr (Or.inl h3)))))
    | 8, _, _ => exact Or.inr (Or.inr (Or.inr (Or.inr (Or.inr (Or.inr (Or.inl h3))))))
    | 9, _, h5 => exact absurd h5 (by decide)
    | 10, _, h5 => exact absurd h5 (by decide)
    | 11, _, _ => exact Or.inr (Or.inr (Or.inr (Or.inr (Or.inr (Or.inr (Or.inr (Or.inl h3)))))))
    | 12, _, _ => exact Or.inr (Or.inr (Or.inr (Or.inr (Or.inr (Or.inr (Or.inr (Or.inr (Or.inl h3))))))))
    | 13, _, h5 => exact absurd h5 (by decide)
    | 14, _, _ => exact Or.inr (Or.inr (Or.inr (Or.inr (Or.inr (Or.inr (Or.inr (Or.inr (Or.inr (Or.inl h3)))))))))
    | 15, _, _ => exact Or.inr (Or.inr (Or.inr (Or.inr (Or.inr (Or.inr (Or.inr (Or.inr (Or.inr (Or.inr (Or.inl h3))))))))))
    | 16, _, h5 => exact absurd h5 (by decide)
    | 17, _, _ => exact Or.inr (Or.inr (Or.inr (Or.inr (Or.inr (Or.inr (Or.inr (Or.inr (Or.inr (Or.inr (Or.inr (Or.inl h3)))))))))))
    | 18, _, _ => exact Or.inr (Or.inr (Or.inr (Or.inr (Or.inr (Or.inr (Or.inr (Or.inr (Or.inr (Or.inr (Or.inr (Or.inr (Or.inl h3))))))))))))
    | 19, _, _ => exact Or.inr (Or.inr (Or.inr (Or.inr (Or.inr (Or.inr (Or.inr (Or.inr (Or.inr (Or.inr (Or.inr (Or.inr (Or.inr (Or.inl h3)))))))))))))
    | 20, _, _ => exact Or.inr (Or.inr (Or.inr (Or.inr (Or.inr (Or.inr (Or.inr (Or.inr (Or.inr (Or.inr (Or.inr (Or.inr (Or.inr (Or.inr (Or.inl h3))))))))))))))
    | 21, _, _ => exact Or.inr (Or.inr (Or.inr (Or.inr (Or.inr (Or.inr (Or.inr (Or.inr (Or.inr (Or.inr (Or.inr (Or.inr (Or.inr (Or.inr (Or.inr (Or.inl h3)))))))))))))))
    | 22, _, _ => exact Or.inr (Or.inr (Or.inr (Or.inr (Or.inr (Or.inr (Or.inr (Or.inr (Or.inr (Or.inr (Or.inr (Or.inr (Or.inr (Or.inr (Or.inr (Or.inr (Or.inl h3))))))))))))))))
    | 23, _, _ => exact Or.inr (Or.inr (Or.inr (Or.inr (Or.inr (Or.inr (Or.inr (Or.inr (Or.inr (Or.inr (Or.inr (Or.inr (Or.inr (Or.inr (Or.inr (Or.inr (Or.inr (Or.inl h3)))))))))))))))))
    | 24, _, _ => exact Or.inr (Or.inr (Or.inr (Or.inr (Or.inr (Or.inr (Or.inr (Or.inr (Or.inr (Or.inr (Or.inr (Or.inr (Or.inr (Or.inr (Or.inr (Or.inr (Or.inr (Or.inr (Or.inl h3))))))))))))))))))
    | 25, _, _ => exact Or.inr (Or.inr (Or.inr (Or.inr (Or.inr (Or.inr (Or.inr (Or.inr (Or.inr (Or.inr (Or.inr (Or.inr (Or.inr (Or.inr (Or.inr (Or.inr (Or.inr (Or.inr (Or.inr (Or.inl h3)))))))))))))))))))
    | 26, _, _ => exact Or.inr (Or.inr (Or.inr (Or.inr (Or.inr (Or.inr (Or.inr (Or.inr (Or.inr (Or.inr (Or.inr (Or.inr (Or.inr (Or.inr (Or.inr (Or.inr (Or.inr (Or.inr (Or.inr (Or.inr (Or.inl h3))))))))))))))))))))
    | 27, _, h5 => exact absurd h5 (by decide)
    | 28, _, _ => exact Or.inr (Or.inr (Or.inr (Or.inr (Or.inr (Or.inr (Or.inr (Or.inr (Or.inr (Or.inr (Or.inr (Or.inr (Or.inr (Or.inr (Or.inr (Or.inr (Or.inr (Or.inr (Or.inr (Or.inr (Or.inr (Or.inl h3)))))))))))))))))))))
    | 29, _, _ => exact Or.inr (Or.inr (Or.inr (Or.inr (Or.inr (Or.inr (Or.inr (Or.inr (Or.inr (Or.inr (Or.inr (Or.inr (Or.inr (Or.inr (Or.inr (Or.inr (Or.inr (Or.inr (Or.inr (Or.inr (Or.inr (Or.inr (Or.inl h3))))))))))))))))))))))
    | 30, _, _ => exact Or.inr (Or.inr (Or.inr (Or.inr (Or.inr (Or.inr (Or.inr (Or.inr (Or.inr (Or.inr (Or.inr (Or.inr (Or.inr (Or.inr (Or.inr (Or.inr (Or.inr (Or.inr (Or.inr (Or.inr (Or.inr (Or.inr (Or.inr (Or.inl h3)))))))))))))))))))))))
    | 31, _, _ => exact Or.inr (Or.inr (Or.inr (Or.inr (Or.inr (Or.inr (Or.inr (Or.inr (Or.inr (Or.inr (Or.inr (Or.inr (Or.inr (Or.inr (Or.inr (Or.inr (Or.inr (Or.inr (Or.inr (Or.inr (Or.inr (Or.inr (Or.inr (Or.inr (Or.inl h3))))))))))))))))))))))))
    | 32, _, _ => exact Or.inr (Or.inr (Or.inr (Or.inr (Or.inr (Or.inr (Or.inr (Or.inr (Or.inr (Or.inr (Or.inr (Or.inr (Or.inr (Or.inr (Or.inr (Or.inr (Or.inr (Or.inr (Or.inr (Or.inr (Or.inr (Or.inr (Or.inr (Or.inr (Or.inr (Or.inl h3)))))))))))))))))))))))))
    | 33, _, _ => exact Or.inr (Or.inr (Or.inr (Or.inr (Or.inr (Or.inr (Or.inr (Or.inr (Or.inr (Or.inr (Or.inr (Or.inr (Or.inr (Or.inr (Or.inr (Or.inr (Or.inr (Or.inr (Or.inr (Or.inr (Or.inr (Or.inr (Or.inr (Or.inr (Or.inr (Or.inr (Or.inl h3))))))))))))))))))))))))))
    | 34, _, h5 => exact absurd h5 (by decide)
    | 35, _, _ => exact Or.inr (Or.inr (Or.inr (Or.inr (Or.inr (Or.inr (Or.inr (Or.inr (Or.inr (Or.inr (Or.inr (Or.inr (Or.inr (Or.inr (Or.inr (Or.inr (Or.inr (Or.inr (Or.inr (Or.inr (Or.inr (Or.inr (Or.inr (Or.inr (Or.inr (Or.inr (Or.inr (Or.inl h3)))))))))))))))))))))))))))
    | 36, _, h5 => exact absurd h5 (by decide)
    | 37, _, h5 => exact absurd h5 (by decide)
    | 38, _, h5 => exact absurd h5 (by decide)
    | 39, _, h5 => exact absurd h5 (by decide)
    | 40, _, _ => exact Or.inr (Or.inr (Or.inr (Or.inr (Or.inr (Or.inr (Or.inr (Or.inr (Or.inr (Or.inr (Or.inr (Or.inr (Or.inr (Or.inr (Or.inr (Or.inr (Or.inr (Or.inr (Or.inr (Or.inr (Or.inr (Or.inr (Or.inr (Or.inr (Or.inr (Or.inr (Or.inr (Or.inr (Or.inl h3))))))))))))))))))))))))))))
    | 41, _, h5 => exact absurd h5 (by decide)
    | 42, _, _ => exact Or.inr (Or.inr (Or.inr (Or.inr (Or.inr (Or.inr (Or.inr (Or.inr (Or.inr (Or.inr (Or.inr (Or.inr (Or.inr (Or.inr (Or.inr (Or.inr (Or.inr (Or.inr (Or.inr (Or.inr (Or.inr (Or.inr (Or.inr (Or.inr (Or.inr (Or.inr (Or.inr (Or.inr (Or.inr (h3)))))))))))))))))))))))))))))
  · simp only [] at h1; omega
