/-! the script's array goes from one memory to the other -/
theorem e_mv {X : q_X} {pc : Nat} {ls : q_Ls} {st : List q_V} {K : q_K} {M C M2 C2 : q_S} {c s : Nat} {Q : q_Q2} {q n : Nat} {t t2 : Int} (hq : K q = (20, n, t)) (hk : kof t ≠ (20, n, t)) (h1 : t < 1000000) (hf : q_fre K t2) (h2 : t2 < 1000000)
    (hS : ∀ x j, 0 ≤ j → x ≠ t → x ≠ t2 → mg M2 C2 x j = mg M C x j) (hS2 : ∀ j, 0 ≤ j → mg M2 C2 t2 j = mg M C t j) (kk : q_E X pc ls st (q_uk K q (20, n, t2)) M2 C2 c s Q) : q_E X pc ls st K M C c s Q := fun v r hR =>
  q_retag (retag_ok hq) (kk v r (by
    have hu : ∀ a, a ≠ q → q_uk K q (20, n, t2) a = K a := fun a h => uk_n h
    have hnt : ∀ a, a ≠ q → (K a).1 ≠ 0 → (K a).2.2 ≠ t := fun a h g e => h (hR.2 a q g (by rw [hq]; exact (show (20 : Nat) ≠ 0 by decide)) (by rw [e, hq]) (by rw [e]; exact h1))
    refine ⟨fun a ha => ?_, fun a b ha hb e he => ?_⟩
    · by_cases ea : a = q
      · subst ea
        rw [uk_p]
        refine ⟨fun j hj => ?_, fun j hj => ?_⟩
        · have g := (hR.1 a (by rw [hq]; exact (show (20 : Nat) ≠ 0 by decide))).1 j hj
          rw [hq] at g
          rw [g]; exact (hS2 j hj).symm
        · exact absurd hj (q_isr_no (Nat.le_of_ble_eq_true rfl) (Nat.le_of_ble_eq_true rfl))
      · rw [hu a ea] at ha ⊢
        have g := hR.1 a ha
        have n1 := hnt a ea ha
        have n2 : (K a).2.2 ≠ t2 := hf a ha
        refine ⟨fun j hj => by rw [hS _ j hj n1 n2]; exact g.1 j hj, fun j hj => ?_⟩
        rcases g.2 j hj with g2 | g2
        · exact Or.inl g2
        · refine Or.inr ⟨?_, g2.2⟩
          by_cases er : r a j = q
          · exfalso
            rw [er, hq] at g2
            have e2 : t = ln (K a).2.2 j (v a j) := congrArg (fun z => z.2.2) g2.1
            rw [← e2] at g2
            exact hk g2.1.symm
          · rw [hu _ er]; exact g2.1
    · by_cases ea : a = q
      · by_cases eb : b = q
        · rw [ea, eb]
        · rw [ea, uk_p] at e
          rw [hu b eb] at hb e
          exact absurd e.symm (hf b hb)
      · rw [hu a ea] at ha e he
        by_cases eb : b = q
        · rw [eb, uk_p] at e
          exact absurd e (hf a ha)
        · rw [hu b eb] at hb e
          exact hR.2 a b ha hb e he))
