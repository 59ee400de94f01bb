/-! the bound on packs: the numbers -/
def p2 (c : Int) : Int := if 2 ≤ c then 1 else 0
def p3 (c : Int) : Int := if 3 ≤ c then 2 else if c = 2 then 1 else 0
def NUM (P W z sz G c U dl A Wd s th u e G0 E0 E20 U0 c0 k : Int) : Prop :=
  ((0 ≤ dl ∧ W + Wd + dl ≤ A ∧ P ≤ Wd ∧ 2 * P - 20 ≤ W) ∧ (0 ≤ s ∧ U + z ≤ Wd + P * s ∧ 0 ≤ z ∧ 0 ≤ P)) ∧
  ((0 ≤ e ∧ 0 ≤ c ∧ 0 ≤ c0 ∧ c0 ≤ 5 ∧ G0 ≤ G ∧ (G0 < G → 1 ≤ c)) ∧ (5 * (G - G0) + c ≤ sz ∧ sz ≤ P ∧ 5 * (G - G0) + c ≤ c0 + (U - U0) ∧ 5 * G + c ≤ U) ∧ U0 ≤ U ∧ U - U0 ≤ sz) ∧
  ((∀ q : Int, 0 ≤ q → P ≤ 5 * q + 5 → G0 ≤ q * E0) ∧ (∀ q : Int, 74 ≤ q → P ≤ q → U0 ≤ 74 * E0 + (q - 74) * E20) ∧ (P ≤ 76 → 2 * G0 + p2 c0 ≤ 29 * E0 + E20) ∧ (P ≤ 77 → 3 * G0 + p3 c0 ≤ 44 * E0 + 2 * E20)) ∧
  (0 ≤ E20 ∧ 0 ≤ E0 ∧ E0 + E20 + e ≤ u ∧ E0 ≤ th ∧ A + u + th + s ≤ k)
section NUMS
variable {P W z sz G c U dl A Wd s th u e G0 E0 E20 U0 c0 k : Int}
theorem num_id (h : NUM P W z sz G c U dl A Wd s th u e G0 E0 E20 U0 c0 k) : NUM P W z sz G c U dl A Wd s th u e G0 E0 E20 U0 c0 (k + 1) := by
  obtain ⟨h1, h2, h3, h4⟩ := h
  exact ⟨h1, h2, h3, by omega⟩
theorem num_draft (h : NUM P W z sz G c U dl A Wd s th u e G0 E0 E20 U0 c0 k) : NUM P W z sz G c U (dl + 1) (A + 1) Wd s th u e G0 E0 E20 U0 c0 (k + 1) := by
  obtain ⟨⟨h1, h5⟩, h2, h3, h4⟩ := h
  exact ⟨⟨by omega, h5⟩, h2, h3, by omega⟩
theorem num_up (h : NUM P W z sz G c U dl A Wd s th u e G0 E0 E20 U0 c0 k) : NUM P W z sz G c U dl A Wd s th (u + 1) (e + 1) G0 E0 E20 U0 c0 (k + 1) := by
  obtain ⟨h1, ⟨h2, h5⟩, h3, h4⟩ := h
  exact ⟨h1, ⟨by omega, h5⟩, h3, by omega⟩
theorem num_s (h : NUM P W z sz G c U dl A Wd s th u e G0 E0 E20 U0 c0 k) : NUM P W P sz G c U dl A Wd (s + 1) th u e G0 E0 E20 U0 c0 (k + 1) := by
  obtain ⟨⟨h1, h5⟩, h2, h3, h4⟩ := h
  have e1 : P * (s + 1) = P * s + P := by rw [Int.mul_add, Int.mul_one]
  refine ⟨⟨h1, ?_⟩, h2, h3, by omega⟩
  rw [e1]
  generalize P * s = T at *
  omega
theorem num_write {P2 W2 n sw z2 : Int} (h : NUM P W z sz G c U dl A Wd s th u e G0 E0 E20 U0 c0 k) (hP : P ≤ P2 ∧ P2 ≤ P + n) (hW : W2 ≤ W + sw) (hs : sw + n ≤ dl + 1) (h20 : 2 * P2 - 20 ≤ W2) (hz : 0 ≤ z2 ∧ z2 ≤ z + n) : NUM P2 W2 z2 sz G c U 0 (A + 1) (Wd + n) s th u e G0 E0 E20 U0 c0 (k + 1) := by
  obtain ⟨⟨h1, h5⟩, h2, h3, h4⟩ := h
  have e1 : P * s ≤ P2 * s := Int.mul_le_mul_of_nonneg_right hP.1 h5.1
  refine ⟨⟨by omega, ?_⟩, ⟨h2.1, by omega⟩, ⟨fun q a b => h3.1 q a (by omega), fun q a b => h3.2.1 q a (by omega), fun a => h3.2.2.1 (by omega), fun a => h3.2.2.2 (by omega)⟩, by omega⟩
  generalize P * s = T at *
  generalize P2 * s = T2 at *
  omega
theorem num_come {G2 c2 : Int} (h : NUM P W z sz G c U dl A Wd s th u e G0 E0 E20 U0 c0 k) (hg : (G2 = G ∧ c2 = c + 1) ∨ (G2 = G + 1 ∧ c2 = 1 ∧ c = 5)) (hz : 1 ≤ z) (hs : sz + 1 ≤ P) : NUM P W (z - 1) (sz + 1) G2 c2 (U + 1) dl A Wd s th u e G0 E0 E20 U0 c0 k := by
  obtain ⟨⟨h1, h5⟩, ⟨h2, h6, h7⟩, h3, h4⟩ := h
  refine ⟨⟨h1, ?_⟩, ⟨by omega, by omega, by omega⟩, h3, h4⟩
  generalize P * s = T at *
  omega
theorem num_thin {c2 sz2 : Int} (h : NUM P W z sz G c U dl A Wd s th u e G0 E0 E20 U0 c0 k) (h74 : U ≤ U0 + 74 * e) (hc : 0 ≤ c2 ∧ c2 ≤ c ∧ c2 ≤ 5) (hs : c2 ≤ sz2 ∧ sz2 ≤ sz) : NUM P W z sz2 G c2 U dl A Wd s (th + 1) u 0 G (E0 + (if 1 ≤ e then 1 else 0)) (E20 + (if 2 ≤ e then 1 else 0)) U c2 (k + 1) := by
  obtain ⟨⟨h1, h5⟩, ⟨h2, h6, h7⟩, h3, h4⟩ := h
  obtain ⟨a1, a2, a3, a4⟩ := h3
  refine ⟨⟨h1, h5⟩, ⟨by omega, by omega, by omega⟩, ⟨fun q a b => ?_, fun q a b => ?_, fun a => ?_, fun a => ?_⟩, ?_⟩
  · have g := a1 q a b
    by_cases e1 : 1 ≤ e
    · rw [if_pos e1, Int.mul_add, Int.mul_one]
      generalize q * E0 = T at *
      omega
    · rw [if_neg e1, Int.add_zero]
      generalize q * E0 = T at *
      omega
  · have g := a2 q a b
    by_cases e2 : 2 ≤ e
    · rw [if_pos (show 1 ≤ e by omega), if_pos e2, Int.mul_add (q - 74), Int.mul_one]
      generalize (q - 74) * E20 = T at *
      omega
    · rw [if_neg e2, Int.add_zero]
      generalize (q - 74) * E20 = T at *
      by_cases e1 : 1 ≤ e
      · rw [if_pos e1]; omega
      · rw [if_neg e1]; omega
  · have g := a3 a
    unfold p2 at *
    by_cases e2 : 2 ≤ e
    · rw [if_pos (show 1 ≤ e by omega), if_pos e2]; omega
    · rw [if_neg e2]
      by_cases e1 : 1 ≤ e
      · rw [if_pos e1]; omega
      · rw [if_neg e1]; omega
  · have g := a4 a
    unfold p3 at *
    by_cases e2 : 2 ≤ e
    · rw [if_pos (show 1 ≤ e by omega), if_pos e2]; omega
    · rw [if_neg e2]
      by_cases e1 : 1 ≤ e
      · rw [if_pos e1]; omega
      · rw [if_neg e1]; omega
  · by_cases e2 : 2 ≤ e
    · rw [if_pos (show 1 ≤ e by omega), if_pos e2]; omega
    · rw [if_neg e2]
      by_cases e1 : 1 ≤ e
      · rw [if_pos e1]; omega
      · rw [if_neg e1]; omega
end NUMS
theorem fin_0 {Wd A s E E2 : Int} (hs : 0 ≤ s) (he : 0 ≤ E2) (h1 : 2 * 0 - 20 + Wd ≤ A) (h2 : 0 ≤ Wd) (h3 : 7501 ≤ Wd + 0 * s) (h4 : 1500 ≤ 0 * E) (h5 : 7501 ≤ 74 * E + 0 * E2) (h6 : 3000 ≤ 29 * E + E2) (h7 : 4500 ≤ 44 * E + 2 * E2) (h8 : A + (E + E2) + E + s ≤ 513) : False := by omega
theorem fin_1 {Wd A s E E2 : Int} (hs : 0 ≤ s) (he : 0 ≤ E2) (h1 : 2 * 1 - 20 + Wd ≤ A) (h2 : 1 ≤ Wd) (h3 : 7501 ≤ Wd + 1 * s) (h4 : 1500 ≤ 0 * E) (h5 : 7501 ≤ 74 * E + 0 * E2) (h6 : 3000 ≤ 29 * E + E2) (h7 : 4500 ≤ 44 * E + 2 * E2) (h8 : A + (E + E2) + E + s ≤ 513) : False := by omega
theorem fin_2 {Wd A s E E2 : Int} (hs : 0 ≤ s) (he : 0 ≤ E2) (h1 : 2 * 2 - 20 + Wd ≤ A) (h2 : 2 ≤ Wd) (h3 : 7501 ≤ Wd + 2 * s) (h4 : 1500 ≤ 0 * E) (h5 : 7501 ≤ 74 * E + 0 * E2) (h6 : 3000 ≤ 29 * E + E2) (h7 : 4500 ≤ 44 * E + 2 * E2) (h8 : A + (E + E2) + E + s ≤ 513) : False := by omega
theorem fin_3 {Wd A s E E2 : Int} (hs : 0 ≤ s) (he : 0 ≤ E2) (h1 : 2 * 3 - 20 + Wd ≤ A) (h2 : 3 ≤ Wd) (h3 : 7501 ≤ Wd + 3 * s) (h4 : 1500 ≤ 0 * E) (h5 : 7501 ≤ 74 * E + 0 * E2) (h6 : 3000 ≤ 29 * E + E2) (h7 : 4500 ≤ 44 * E + 2 * E2) (h8 : A + (E + E2) + E + s ≤ 513) : False := by omega
theorem fin_4 {Wd A s E E2 : Int} (hs : 0 ≤ s) (he : 0 ≤ E2) (h1 : 2 * 4 - 20 + Wd ≤ A) (h2 : 4 ≤ Wd) (h3 : 7501 ≤ Wd + 4 * s) (h4 : 1500 ≤ 0 * E) (h5 : 7501 ≤ 74 * E + 0 * E2) (h6 : 3000 ≤ 29 * E + E2) (h7 : 4500 ≤ 44 * E + 2 * E2) (h8 : A + (E + E2) + E + s ≤ 513) : False := by omega
theorem fin_5 {Wd A s E E2 : Int} (hs : 0 ≤ s) (he : 0 ≤ E2) (h1 : 2 * 5 - 20 + Wd ≤ A) (h2 : 5 ≤ Wd) (h3 : 7501 ≤ Wd + 5 * s) (h4 : 1500 ≤ 0 * E) (h5 : 7501 ≤ 74 * E + 0 * E2) (h6 : 3000 ≤ 29 * E + E2) (h7 : 4500 ≤ 44 * E + 2 * E2) (h8 : A + (E + E2) + E + s ≤ 513) : False := by omega
theorem fin_6 {Wd A s E E2 : Int} (hs : 0 ≤ s) (he : 0 ≤ E2) (h1 : 2 * 6 - 20 + Wd ≤ A) (h2 : 6 ≤ Wd) (h3 : 7501 ≤ Wd + 6 * s) (h4 : 1500 ≤ 1 * E) (h5 : 7501 ≤ 74 * E + 0 * E2) (h6 : 3000 ≤ 29 * E + E2) (h7 : 4500 ≤ 44 * E + 2 * E2) (h8 : A + (E + E2) + E + s ≤ 513) : False := by omega
theorem fin_7 {Wd A s E E2 : Int} (hs : 0 ≤ s) (he : 0 ≤ E2) (h1 : 2 * 7 - 20 + Wd ≤ A) (h2 : 7 ≤ Wd) (h3 : 7501 ≤ Wd + 7 * s) (h4 : 1500 ≤ 1 * E) (h5 : 7501 ≤ 74 * E + 0 * E2) (h6 : 3000 ≤ 29 * E + E2) (h7 : 4500 ≤ 44 * E + 2 * E2) (h8 : A + (E + E2) + E + s ≤ 513) : False := by omega
theorem fin_8 {Wd A s E E2 : Int} (hs : 0 ≤ s) (he : 0 ≤ E2) (h1 : 2 * 8 - 20 + Wd ≤ A) (h2 : 8 ≤ Wd) (h3 : 7501 ≤ Wd + 8 * s) (h4 : 1500 ≤ 1 * E) (h5 : 7501 ≤ 74 * E + 0 * E2) (h6 : 3000 ≤ 29 * E + E2) (h7 : 4500 ≤ 44 * E + 2 * E2) (h8 : A + (E + E2) + E + s ≤ 513) : False := by omega
theorem fin_9 {Wd A s E E2 : Int} (hs : 0 ≤ s) (he : 0 ≤ E2) (h1 : 2 * 9 - 20 + Wd ≤ A) (h2 : 9 ≤ Wd) (h3 : 7501 ≤ Wd + 9 * s) (h4 : 1500 ≤ 1 * E) (h5 : 7501 ≤ 74 * E + 0 * E2) (h6 : 3000 ≤ 29 * E + E2) (h7 : 4500 ≤ 44 * E + 2 * E2) (h8 : A + (E + E2) + E + s ≤ 513) : False := by omega
theorem fin_10 {Wd A s E E2 : Int} (hs : 0 ≤ s) (he : 0 ≤ E2) (h1 : 2 * 10 - 20 + Wd ≤ A) (h2 : 10 ≤ Wd) (h3 : 7501 ≤ Wd + 10 * s) (h4 : 1500 ≤ 1 * E) (h5 : 7501 ≤ 74 * E + 0 * E2) (h6 : 3000 ≤ 29 * E + E2) (h7 : 4500 ≤ 44 * E + 2 * E2) (h8 : A + (E + E2) + E + s ≤ 513) : False := by omega
theorem fin_11 {Wd A s E E2 : Int} (hs : 0 ≤ s) (he : 0 ≤ E2) (h1 : 2 * 11 - 20 + Wd ≤ A) (h2 : 11 ≤ Wd) (h3 : 7501 ≤ Wd + 11 * s) (h4 : 1500 ≤ 2 * E) (h5 : 7501 ≤ 74 * E + 0 * E2) (h6 : 3000 ≤ 29 * E + E2) (h7 : 4500 ≤ 44 * E + 2 * E2) (h8 : A + (E + E2) + E + s ≤ 513) : False := by omega
theorem fin_12 {Wd A s E E2 : Int} (hs : 0 ≤ s) (he : 0 ≤ E2) (h1 : 2 * 12 - 20 + Wd ≤ A) (h2 : 12 ≤ Wd) (h3 : 7501 ≤ Wd + 12 * s) (h4 : 1500 ≤ 2 * E) (h5 : 7501 ≤ 74 * E + 0 * E2) (h6 : 3000 ≤ 29 * E + E2) (h7 : 4500 ≤ 44 * E + 2 * E2) (h8 : A + (E + E2) + E + s ≤ 513) : False := by omega
theorem fin_13 {Wd A s E E2 : Int} (hs : 0 ≤ s) (he : 0 ≤ E2) (h1 : 2 * 13 - 20 + Wd ≤ A) (h2 : 13 ≤ Wd) (h3 : 7501 ≤ Wd + 13 * s) (h4 : 1500 ≤ 2 * E) (h5 : 7501 ≤ 74 * E + 0 * E2) (h6 : 3000 ≤ 29 * E + E2) (h7 : 4500 ≤ 44 * E + 2 * E2) (h8 : A + (E + E2) + E + s ≤ 513) : False := by omega
theorem fin_14 {Wd A s E E2 : Int} (hs : 0 ≤ s) (he : 0 ≤ E2) (h1 : 2 * 14 - 20 + Wd ≤ A) (h2 : 14 ≤ Wd) (h3 : 7501 ≤ Wd + 14 * s) (h4 : 1500 ≤ 2 * E) (h5 : 7501 ≤ 74 * E + 0 * E2) (h6 : 3000 ≤ 29 * E + E2) (h7 : 4500 ≤ 44 * E + 2 * E2) (h8 : A + (E + E2) + E + s ≤ 513) : False := by omega
theorem fin_15 {Wd A s E E2 : Int} (hs : 0 ≤ s) (he : 0 ≤ E2) (h1 : 2 * 15 - 20 + Wd ≤ A) (h2 : 15 ≤ Wd) (h3 : 7501 ≤ Wd + 15 * s) (h4 : 1500 ≤ 2 * E) (h5 : 7501 ≤ 74 * E + 0 * E2) (h6 : 3000 ≤ 29 * E + E2) (h7 : 4500 ≤ 44 * E + 2 * E2) (h8 : A + (E + E2) + E + s ≤ 513) : False := by omega
theorem fin_16 {Wd A s E E2 : Int} (hs : 0 ≤ s) (he : 0 ≤ E2) (h1 : 2 * 16 - 20 + Wd ≤ A) (h2 : 16 ≤ Wd) (h3 : 7501 ≤ Wd + 16 * s) (h4 : 1500 ≤ 3 * E) (h5 : 7501 ≤ 74 * E + 0 * E2) (h6 : 3000 ≤ 29 * E + E2) (h7 : 4500 ≤ 44 * E + 2 * E2) (h8 : A + (E + E2) + E + s ≤ 513) : False := by omega
theorem fin_17 {Wd A s E E2 : Int} (hs : 0 ≤ s) (he : 0 ≤ E2) (h1 : 2 * 17 - 20 + Wd ≤ A) (h2 : 17 ≤ Wd) (h3 : 7501 ≤ Wd + 17 * s) (h4 : 1500 ≤ 3 * E) (h5 : 7501 ≤ 74 * E + 0 * E2) (h6 : 3000 ≤ 29 * E + E2) (h7 : 4500 ≤ 44 * E + 2 * E2) (h8 : A + (E + E2) + E + s ≤ 513) : False := by omega
theorem fin_18 {Wd A s E E2 : Int} (hs : 0 ≤ s) (he : 0 ≤ E2) (h1 : 2 * 18 - 20 + Wd ≤ A) (h2 : 18 ≤ Wd) (h3 : 7501 ≤ Wd + 18 * s) (h4 : 1500 ≤ 3 * E) (h5 : 7501 ≤ 74 * E + 0 * E2) (h6 : 3000 ≤ 29 * E + E2) (h7 : 4500 ≤ 44 * E + 2 * E2) (h8 : A + (E + E2) + E + s ≤ 513) : False := by omega
theorem fin_19 {Wd A s E E2 : Int} (hs : 0 ≤ s) (he : 0 ≤ E2) (h1 : 2 * 19 - 20 + Wd ≤ A) (h2 : 19 ≤ Wd) (h3 : 7501 ≤ Wd + 19 * s) (h4 : 1500 ≤ 3 * E) (h5 : 7501 ≤ 74 * E + 0 * E2) (h6 : 3000 ≤ 29 * E + E2) (h7 : 4500 ≤ 44 * E + 2 * E2) (h8 : A + (E + E2) + E + s ≤ 513) : False := by omega
theorem fin_20 {Wd A s E E2 : Int} (hs : 0 ≤ s) (he : 0 ≤ E2) (h1 : 2 * 20 - 20 + Wd ≤ A) (h2 : 20 ≤ Wd) (h3 : 7501 ≤ Wd + 20 * s) (h4 : 1500 ≤ 3 * E) (h5 : 7501 ≤ 74 * E + 0 * E2) (h6 : 3000 ≤ 29 * E + E2) (h7 : 4500 ≤ 44 * E + 2 * E2) (h8 : A + (E + E2) + E + s ≤ 513) : False := by omega
theorem fin_21 {Wd A s E E2 : Int} (hs : 0 ≤ s) (he : 0 ≤ E2) (h1 : 2 * 21 - 20 + Wd ≤ A) (h2 : 21 ≤ Wd) (h3 : 7501 ≤ Wd + 21 * s) (h4 : 1500 ≤ 4 * E) (h5 : 7501 ≤ 74 * E + 0 * E2) (h6 : 3000 ≤ 29 * E + E2) (h7 : 4500 ≤ 44 * E + 2 * E2) (h8 : A + (E + E2) + E + s ≤ 513) : False := by omega
theorem fin_22 {Wd A s E E2 : Int} (hs : 0 ≤ s) (he : 0 ≤ E2) (h1 : 2 * 22 - 20 + Wd ≤ A) (h2 : 22 ≤ Wd) (h3 : 7501 ≤ Wd + 22 * s) (h4 : 1500 ≤ 4 * E) (h5 : 7501 ≤ 74 * E + 0 * E2) (h6 : 3000 ≤ 29 * E + E2) (h7 : 4500 ≤ 44 * E + 2 * E2) (h8 : A + (E + E2) + E + s ≤ 513) : False := by omega
theorem fin_23 {Wd A s E E2 : Int} (hs : 0 ≤ s) (he : 0 ≤ E2) (h1 : 2 * 23 - 20 + Wd ≤ A) (h2 : 23 ≤ Wd) (h3 : 7501 ≤ Wd + 23 * s) (h4 : 1500 ≤ 4 * E) (h5 : 7501 ≤ 74 * E + 0 * E2) (h6 : 3000 ≤ 29 * E + E2) (h7 : 4500 ≤ 44 * E + 2 * E2) (h8 : A + (E + E2) + E + s ≤ 513) : False := by omega
theorem fin_24 {Wd A s E E2 : Int} (hs : 0 ≤ s) (he : 0 ≤ E2) (h1 : 2 * 24 - 20 + Wd ≤ A) (h2 : 24 ≤ Wd) (h3 : 7501 ≤ Wd + 24 * s) (h4 : 1500 ≤ 4 * E) (h5 : 7501 ≤ 74 * E + 0 * E2) (h6 : 3000 ≤ 29 * E + E2) (h7 : 4500 ≤ 44 * E + 2 * E2) (h8 : A + (E + E2) + E + s ≤ 513) : False := by omega
theorem fin_25 {Wd A s E E2 : Int} (hs : 0 ≤ s) (he : 0 ≤ E2) (h1 : 2 * 25 - 20 + Wd ≤ A) (h2 : 25 ≤ Wd) (h3 : 7501 ≤ Wd + 25 * s) (h4 : 1500 ≤ 4 * E) (h5 : 7501 ≤ 74 * E + 0 * E2) (h6 : 3000 ≤ 29 * E + E2) (h7 : 4500 ≤ 44 * E + 2 * E2) (h8 : A + (E + E2) + E + s ≤ 513) : False := by omega
theorem fin_26 {Wd A s E E2 : Int} (hs : 0 ≤ s) (he : 0 ≤ E2) (h1 : 2 * 26 - 20 + Wd ≤ A) (h2 : 26 ≤ Wd) (h3 : 7501 ≤ Wd + 26 * s) (h4 : 1500 ≤ 5 * E) (h5 : 7501 ≤ 74 * E + 0 * E2) (h6 : 3000 ≤ 29 * E + E2) (h7 : 4500 ≤ 44 * E + 2 * E2) (h8 : A + (E + E2) + E + s ≤ 513) : False := by omega
theorem fin_27 {Wd A s E E2 : Int} (hs : 0 ≤ s) (he : 0 ≤ E2) (h1 : 2 * 27 - 20 + Wd ≤ A) (h2 : 27 ≤ Wd) (h3 : 7501 ≤ Wd + 27 * s) (h4 : 1500 ≤ 5 * E) (h5 : 7501 ≤ 74 * E + 0 * E2) (h6 : 3000 ≤ 29 * E + E2) (h7 : 4500 ≤ 44 * E + 2 * E2) (h8 : A + (E + E2) + E + s ≤ 513) : False := by omega
theorem fin_28 {Wd A s E E2 : Int} (hs : 0 ≤ s) (he : 0 ≤ E2) (h1 : 2 * 28 - 20 + Wd ≤ A) (h2 : 28 ≤ Wd) (h3 : 7501 ≤ Wd + 28 * s) (h4 : 1500 ≤ 5 * E) (h5 : 7501 ≤ 74 * E + 0 * E2) (h6 : 3000 ≤ 29 * E + E2) (h7 : 4500 ≤ 44 * E + 2 * E2) (h8 : A + (E + E2) + E + s ≤ 513) : False := by omega
theorem fin_29 {Wd A s E E2 : Int} (hs : 0 ≤ s) (he : 0 ≤ E2) (h1 : 2 * 29 - 20 + Wd ≤ A) (h2 : 29 ≤ Wd) (h3 : 7501 ≤ Wd + 29 * s) (h4 : 1500 ≤ 5 * E) (h5 : 7501 ≤ 74 * E + 0 * E2) (h6 : 3000 ≤ 29 * E + E2) (h7 : 4500 ≤ 44 * E + 2 * E2) (h8 : A + (E + E2) + E + s ≤ 513) : False := by omega
theorem fin_30 {Wd A s E E2 : Int} (hs : 0 ≤ s) (he : 0 ≤ E2) (h1 : 2 * 30 - 20 + Wd ≤ A) (h2 : 30 ≤ Wd) (h3 : 7501 ≤ Wd + 30 * s) (h4 : 1500 ≤ 5 * E) (h5 : 7501 ≤ 74 * E + 0 * E2) (h6 : 3000 ≤ 29 * E + E2) (h7 : 4500 ≤ 44 * E + 2 * E2) (h8 : A + (E + E2) + E + s ≤ 513) : False := by omega
theorem fin_31 {Wd A s E E2 : Int} (hs : 0 ≤ s) (he : 0 ≤ E2) (h1 : 2 * 31 - 20 + Wd ≤ A) (h2 : 31 ≤ Wd) (h3 : 7501 ≤ Wd + 31 * s) (h4 : 1500 ≤ 6 * E) (h5 : 7501 ≤ 74 * E + 0 * E2) (h6 : 3000 ≤ 29 * E + E2) (h7 : 4500 ≤ 44 * E + 2 * E2) (h8 : A + (E + E2) + E + s ≤ 513) : False := by omega
theorem fin_32 {Wd A s E E2 : Int} (hs : 0 ≤ s) (he : 0 ≤ E2) (h1 : 2 * 32 - 20 + Wd ≤ A) (h2 : 32 ≤ Wd) (h3 : 7501 ≤ Wd + 32 * s) (h4 : 1500 ≤ 6 * E) (h5 : 7501 ≤ 74 * E + 0 * E2) (h6 : 3000 ≤ 29 * E + E2) (h7 : 4500 ≤ 44 * E + 2 * E2) (h8 : A + (E + E2) + E + s ≤ 513) : False := by omega
theorem fin_33 {Wd A s E E2 : Int} (hs : 0 ≤ s) (he : 0 ≤ E2) (h1 : 2 * 33 - 20 + Wd ≤ A) (h2 : 33 ≤ Wd) (h3 : 7501 ≤ Wd + 33 * s) (h4 : 1500 ≤ 6 * E) (h5 : 7501 ≤ 74 * E + 0 * E2) (h6 : 3000 ≤ 29 * E + E2) (h7 : 4500 ≤ 44 * E + 2 * E2) (h8 : A + (E + E2) + E + s ≤ 513) : False := by omega
theorem fin_34 {Wd A s E E2 : Int} (hs : 0 ≤ s) (he : 0 ≤ E2) (h1 : 2 * 34 - 20 + Wd ≤ A) (h2 : 34 ≤ Wd) (h3 : 7501 ≤ Wd + 34 * s) (h4 : 1500 ≤ 6 * E) (h5 : 7501 ≤ 74 * E + 0 * E2) (h6 : 3000 ≤ 29 * E + E2) (h7 : 4500 ≤ 44 * E + 2 * E2) (h8 : A + (E + E2) + E + s ≤ 513) : False := by omega
theorem fin_35 {Wd A s E E2 : Int} (hs : 0 ≤ s) (he : 0 ≤ E2) (h1 : 2 * 35 - 20 + Wd ≤ A) (h2 : 35 ≤ Wd) (h3 : 7501 ≤ Wd + 35 * s) (h4 : 1500 ≤ 6 * E) (h5 : 7501 ≤ 74 * E + 0 * E2) (h6 : 3000 ≤ 29 * E + E2) (h7 : 4500 ≤ 44 * E + 2 * E2) (h8 : A + (E + E2) + E + s ≤ 513) : False := by omega
theorem fin_36 {Wd A s E E2 : Int} (hs : 0 ≤ s) (he : 0 ≤ E2) (h1 : 2 * 36 - 20 + Wd ≤ A) (h2 : 36 ≤ Wd) (h3 : 7501 ≤ Wd + 36 * s) (h4 : 1500 ≤ 7 * E) (h5 : 7501 ≤ 74 * E + 0 * E2) (h6 : 3000 ≤ 29 * E + E2) (h7 : 4500 ≤ 44 * E + 2 * E2) (h8 : A + (E + E2) + E + s ≤ 513) : False := by omega
theorem fin_37 {Wd A s E E2 : Int} (hs : 0 ≤ s) (he : 0 ≤ E2) (h1 : 2 * 37 - 20 + Wd ≤ A) (h2 : 37 ≤ Wd) (h3 : 7501 ≤ Wd + 37 * s) (h4 : 1500 ≤ 7 * E) (h5 : 7501 ≤ 74 * E + 0 * E2) (h6 : 3000 ≤ 29 * E + E2) (h7 : 4500 ≤ 44 * E + 2 * E2) (h8 : A + (E + E2) + E + s ≤ 513) : False := by omega
theorem fin_38 {Wd A s E E2 : Int} (hs : 0 ≤ s) (he : 0 ≤ E2) (h1 : 2 * 38 - 20 + Wd ≤ A) (h2 : 38 ≤ Wd) (h3 : 7501 ≤ Wd + 38 * s) (h4 : 1500 ≤ 7 * E) (h5 : 7501 ≤ 74 * E + 0 * E2) (h6 : 3000 ≤ 29 * E + E2) (h7 : 4500 ≤ 44 * E + 2 * E2) (h8 : A + (E + E2) + E + s ≤ 513) : False := by omega
theorem fin_39 {Wd A s E E2 : Int} (hs : 0 ≤ s) (he : 0 ≤ E2) (h1 : 2 * 39 - 20 + Wd ≤ A) (h2 : 39 ≤ Wd) (h3 : 7501 ≤ Wd + 39 * s) (h4 : 1500 ≤ 7 * E) (h5 : 7501 ≤ 74 * E + 0 * E2) (h6 : 3000 ≤ 29 * E + E2) (h7 : 4500 ≤ 44 * E + 2 * E2) (h8 : A + (E + E2) + E + s ≤ 513) : False := by omega
theorem fin_40 {Wd A s E E2 : Int} (hs : 0 ≤ s) (he : 0 ≤ E2) (h1 : 2 * 40 - 20 + Wd ≤ A) (h2 : 40 ≤ Wd) (h3 : 7501 ≤ Wd + 40 * s) (h4 : 1500 ≤ 7 * E) (h5 : 7501 ≤ 74 * E + 0 * E2) (h6 : 3000 ≤ 29 * E + E2) (h7 : 4500 ≤ 44 * E + 2 * E2) (h8 : A + (E + E2) + E + s ≤ 513) : False := by omega
theorem fin_41 {Wd A s E E2 : Int} (hs : 0 ≤ s) (he : 0 ≤ E2) (h1 : 2 * 41 - 20 + Wd ≤ A) (h2 : 41 ≤ Wd) (h3 : 7501 ≤ Wd + 41 * s) (h4 : 1500 ≤ 8 * E) (h5 : 7501 ≤ 74 * E + 0 * E2) (h6 : 3000 ≤ 29 * E + E2) (h7 : 4500 ≤ 44 * E + 2 * E2) (h8 : A + (E + E2) + E + s ≤ 513) : False := by omega
theorem fin_42 {Wd A s E E2 : Int} (hs : 0 ≤ s) (he : 0 ≤ E2) (h1 : 2 * 42 - 20 + Wd ≤ A) (h2 : 42 ≤ Wd) (h3 : 7501 ≤ Wd + 42 * s) (h4 : 1500 ≤ 8 * E) (h5 : 7501 ≤ 74 * E + 0 * E2) (h6 : 3000 ≤ 29 * E + E2) (h7 : 4500 ≤ 44 * E + 2 * E2) (h8 : A + (E + E2) + E + s ≤ 513) : False := by omega
theorem fin_43 {Wd A s E E2 : Int} (hs : 0 ≤ s) (he : 0 ≤ E2) (h1 : 2 * 43 - 20 + Wd ≤ A) (h2 : 43 ≤ Wd) (h3 : 7501 ≤ Wd + 43 * s) (h4 : 1500 ≤ 8 * E) (h5 : 7501 ≤ 74 * E + 0 * E2) (h6 : 3000 ≤ 29 * E + E2) (h7 : 4500 ≤ 44 * E + 2 * E2) (h8 : A + (E + E2) + E + s ≤ 513) : False := by omega
theorem fin_44 {Wd A s E E2 : Int} (hs : 0 ≤ s) (he : 0 ≤ E2) (h1 : 2 * 44 - 20 + Wd ≤ A) (h2 : 44 ≤ Wd) (h3 : 7501 ≤ Wd + 44 * s) (h4 : 1500 ≤ 8 * E) (h5 : 7501 ≤ 74 * E + 0 * E2) (h6 : 3000 ≤ 29 * E + E2) (h7 : 4500 ≤ 44 * E + 2 * E2) (h8 : A + (E + E2) + E + s ≤ 513) : False := by omega
theorem fin_45 {Wd A s E E2 : Int} (hs : 0 ≤ s) (he : 0 ≤ E2) (h1 : 2 * 45 - 20 + Wd ≤ A) (h2 : 45 ≤ Wd) (h3 : 7501 ≤ Wd + 45 * s) (h4 : 1500 ≤ 8 * E) (h5 : 7501 ≤ 74 * E + 0 * E2) (h6 : 3000 ≤ 29 * E + E2) (h7 : 4500 ≤ 44 * E + 2 * E2) (h8 : A + (E + E2) + E + s ≤ 513) : False := by omega
theorem fin_46 {Wd A s E E2 : Int} (hs : 0 ≤ s) (he : 0 ≤ E2) (h1 : 2 * 46 - 20 + Wd ≤ A) (h2 : 46 ≤ Wd) (h3 : 7501 ≤ Wd + 46 * s) (h4 : 1500 ≤ 9 * E) (h5 : 7501 ≤ 74 * E + 0 * E2) (h6 : 3000 ≤ 29 * E + E2) (h7 : 4500 ≤ 44 * E + 2 * E2) (h8 : A + (E + E2) + E + s ≤ 513) : False := by omega
theorem fin_47 {Wd A s E E2 : Int} (hs : 0 ≤ s) (he : 0 ≤ E2) (h1 : 2 * 47 - 20 + Wd ≤ A) (h2 : 47 ≤ Wd) (h3 : 7501 ≤ Wd + 47 * s) (h4 : 1500 ≤ 9 * E) (h5 : 7501 ≤ 74 * E + 0 * E2) (h6 : 3000 ≤ 29 * E + E2) (h7 : 4500 ≤ 44 * E + 2 * E2) (h8 : A + (E + E2) + E + s ≤ 513) : False := by omega
theorem fin_48 {Wd A s E E2 : Int} (hs : 0 ≤ s) (he : 0 ≤ E2) (h1 : 2 * 48 - 20 + Wd ≤ A) (h2 : 48 ≤ Wd) (h3 : 7501 ≤ Wd + 48 * s) (h4 : 1500 ≤ 9 * E) (h5 : 7501 ≤ 74 * E + 0 * E2) (h6 : 3000 ≤ 29 * E + E2) (h7 : 4500 ≤ 44 * E + 2 * E2) (h8 : A + (E + E2) + E + s ≤ 513) : False := by omega
theorem fin_49 {Wd A s E E2 : Int} (hs : 0 ≤ s) (he : 0 ≤ E2) (h1 : 2 * 49 - 20 + Wd ≤ A) (h2 : 49 ≤ Wd) (h3 : 7501 ≤ Wd + 49 * s) (h4 : 1500 ≤ 9 * E) (h5 : 7501 ≤ 74 * E + 0 * E2) (h6 : 3000 ≤ 29 * E + E2) (h7 : 4500 ≤ 44 * E + 2 * E2) (h8 : A + (E + E2) + E + s ≤ 513) : False := by omega
theorem fin_50 {Wd A s E E2 : Int} (hs : 0 ≤ s) (he : 0 ≤ E2) (h1 : 2 * 50 - 20 + Wd ≤ A) (h2 : 50 ≤ Wd) (h3 : 7501 ≤ Wd + 50 * s) (h4 : 1500 ≤ 9 * E) (h5 : 7501 ≤ 74 * E + 0 * E2) (h6 : 3000 ≤ 29 * E + E2) (h7 : 4500 ≤ 44 * E + 2 * E2) (h8 : A + (E + E2) + E + s ≤ 513) : False := by omega
theorem fin_51 {Wd A s E E2 : Int} (hs : 0 ≤ s) (he : 0 ≤ E2) (h1 : 2 * 51 - 20 + Wd ≤ A) (h2 : 51 ≤ Wd) (h3 : 7501 ≤ Wd + 51 * s) (h4 : 1500 ≤ 10 * E) (h5 : 7501 ≤ 74 * E + 0 * E2) (h6 : 3000 ≤ 29 * E + E2) (h7 : 4500 ≤ 44 * E + 2 * E2) (h8 : A + (E + E2) + E + s ≤ 513) : False := by omega
theorem fin_52 {Wd A s E E2 : Int} (hs : 0 ≤ s) (he : 0 ≤ E2) (h1 : 2 * 52 - 20 + Wd ≤ A) (h2 : 52 ≤ Wd) (h3 : 7501 ≤ Wd + 52 * s) (h4 : 1500 ≤ 10 * E) (h5 : 7501 ≤ 74 * E + 0 * E2) (h6 : 3000 ≤ 29 * E + E2) (h7 : 4500 ≤ 44 * E + 2 * E2) (h8 : A + (E + E2) + E + s ≤ 513) : False := by omega
theorem fin_53 {Wd A s E E2 : Int} (hs : 0 ≤ s) (he : 0 ≤ E2) (h1 : 2 * 53 - 20 + Wd ≤ A) (h2 : 53 ≤ Wd) (h3 : 7501 ≤ Wd + 53 * s) (h4 : 1500 ≤ 10 * E) (h5 : 7501 ≤ 74 * E + 0 * E2) (h6 : 3000 ≤ 29 * E + E2) (h7 : 4500 ≤ 44 * E + 2 * E2) (h8 : A + (E + E2) + E + s ≤ 513) : False := by omega
theorem fin_54 {Wd A s E E2 : Int} (hs : 0 ≤ s) (he : 0 ≤ E2) (h1 : 2 * 54 - 20 + Wd ≤ A) (h2 : 54 ≤ Wd) (h3 : 7501 ≤ Wd + 54 * s) (h4 : 1500 ≤ 10 * E) (h5 : 7501 ≤ 74 * E + 0 * E2) (h6 : 3000 ≤ 29 * E + E2) (h7 : 4500 ≤ 44 * E + 2 * E2) (h8 : A + (E + E2) + E + s ≤ 513) : False := by omega
theorem fin_55 {Wd A s E E2 : Int} (hs : 0 ≤ s) (he : 0 ≤ E2) (h1 : 2 * 55 - 20 + Wd ≤ A) (h2 : 55 ≤ Wd) (h3 : 7501 ≤ Wd + 55 * s) (h4 : 1500 ≤ 10 * E) (h5 : 7501 ≤ 74 * E + 0 * E2) (h6 : 3000 ≤ 29 * E + E2) (h7 : 4500 ≤ 44 * E + 2 * E2) (h8 : A + (E + E2) + E + s ≤ 513) : False := by omega
theorem fin_56 {Wd A s E E2 : Int} (hs : 0 ≤ s) (he : 0 ≤ E2) (h1 : 2 * 56 - 20 + Wd ≤ A) (h2 : 56 ≤ Wd) (h3 : 7501 ≤ Wd + 56 * s) (h4 : 1500 ≤ 11 * E) (h5 : 7501 ≤ 74 * E + 0 * E2) (h6 : 3000 ≤ 29 * E + E2) (h7 : 4500 ≤ 44 * E + 2 * E2) (h8 : A + (E + E2) + E + s ≤ 513) : False := by omega
theorem fin_57 {Wd A s E E2 : Int} (hs : 0 ≤ s) (he : 0 ≤ E2) (h1 : 2 * 57 - 20 + Wd ≤ A) (h2 : 57 ≤ Wd) (h3 : 7501 ≤ Wd + 57 * s) (h4 : 1500 ≤ 11 * E) (h5 : 7501 ≤ 74 * E + 0 * E2) (h6 : 3000 ≤ 29 * E + E2) (h7 : 4500 ≤ 44 * E + 2 * E2) (h8 : A + (E + E2) + E + s ≤ 513) : False := by omega
theorem fin_58 {Wd A s E E2 : Int} (hs : 0 ≤ s) (he : 0 ≤ E2) (h1 : 2 * 58 - 20 + Wd ≤ A) (h2 : 58 ≤ Wd) (h3 : 7501 ≤ Wd + 58 * s) (h4 : 1500 ≤ 11 * E) (h5 : 7501 ≤ 74 * E + 0 * E2) (h6 : 3000 ≤ 29 * E + E2) (h7 : 4500 ≤ 44 * E + 2 * E2) (h8 : A + (E + E2) + E + s ≤ 513) : False := by omega
theorem fin_59 {Wd A s E E2 : Int} (hs : 0 ≤ s) (he : 0 ≤ E2) (h1 : 2 * 59 - 20 + Wd ≤ A) (h2 : 59 ≤ Wd) (h3 : 7501 ≤ Wd + 59 * s) (h4 : 1500 ≤ 11 * E) (h5 : 7501 ≤ 74 * E + 0 * E2) (h6 : 3000 ≤ 29 * E + E2) (h7 : 4500 ≤ 44 * E + 2 * E2) (h8 : A + (E + E2) + E + s ≤ 513) : False := by omega
theorem fin_60 {Wd A s E E2 : Int} (hs : 0 ≤ s) (he : 0 ≤ E2) (h1 : 2 * 60 - 20 + Wd ≤ A) (h2 : 60 ≤ Wd) (h3 : 7501 ≤ Wd + 60 * s) (h4 : 1500 ≤ 11 * E) (h5 : 7501 ≤ 74 * E + 0 * E2) (h6 : 3000 ≤ 29 * E + E2) (h7 : 4500 ≤ 44 * E + 2 * E2) (h8 : A + (E + E2) + E + s ≤ 513) : False := by omega
theorem fin_61 {Wd A s E E2 : Int} (hs : 0 ≤ s) (he : 0 ≤ E2) (h1 : 2 * 61 - 20 + Wd ≤ A) (h2 : 61 ≤ Wd) (h3 : 7501 ≤ Wd + 61 * s) (h4 : 1500 ≤ 12 * E) (h5 : 7501 ≤ 74 * E + 0 * E2) (h6 : 3000 ≤ 29 * E + E2) (h7 : 4500 ≤ 44 * E + 2 * E2) (h8 : A + (E + E2) + E + s ≤ 513) : False := by omega
theorem fin_62 {Wd A s E E2 : Int} (hs : 0 ≤ s) (he : 0 ≤ E2) (h1 : 2 * 62 - 20 + Wd ≤ A) (h2 : 62 ≤ Wd) (h3 : 7501 ≤ Wd + 62 * s) (h4 : 1500 ≤ 12 * E) (h5 : 7501 ≤ 74 * E + 0 * E2) (h6 : 3000 ≤ 29 * E + E2) (h7 : 4500 ≤ 44 * E + 2 * E2) (h8 : A + (E + E2) + E + s ≤ 513) : False := by omega
theorem fin_63 {Wd A s E E2 : Int} (hs : 0 ≤ s) (he : 0 ≤ E2) (h1 : 2 * 63 - 20 + Wd ≤ A) (h2 : 63 ≤ Wd) (h3 : 7501 ≤ Wd + 63 * s) (h4 : 1500 ≤ 12 * E) (h5 : 7501 ≤ 74 * E + 0 * E2) (h6 : 3000 ≤ 29 * E + E2) (h7 : 4500 ≤ 44 * E + 2 * E2) (h8 : A + (E + E2) + E + s ≤ 513) : False := by omega
theorem fin_64 {Wd A s E E2 : Int} (hs : 0 ≤ s) (he : 0 ≤ E2) (h1 : 2 * 64 - 20 + Wd ≤ A) (h2 : 64 ≤ Wd) (h3 : 7501 ≤ Wd + 64 * s) (h4 : 1500 ≤ 12 * E) (h5 : 7501 ≤ 74 * E + 0 * E2) (h6 : 3000 ≤ 29 * E + E2) (h7 : 4500 ≤ 44 * E + 2 * E2) (h8 : A + (E + E2) + E + s ≤ 513) : False := by omega
theorem fin_65 {Wd A s E E2 : Int} (hs : 0 ≤ s) (he : 0 ≤ E2) (h1 : 2 * 65 - 20 + Wd ≤ A) (h2 : 65 ≤ Wd) (h3 : 7501 ≤ Wd + 65 * s) (h4 : 1500 ≤ 12 * E) (h5 : 7501 ≤ 74 * E + 0 * E2) (h6 : 3000 ≤ 29 * E + E2) (h7 : 4500 ≤ 44 * E + 2 * E2) (h8 : A + (E + E2) + E + s ≤ 513) : False := by omega
theorem fin_66 {Wd A s E E2 : Int} (hs : 0 ≤ s) (he : 0 ≤ E2) (h1 : 2 * 66 - 20 + Wd ≤ A) (h2 : 66 ≤ Wd) (h3 : 7501 ≤ Wd + 66 * s) (h4 : 1500 ≤ 13 * E) (h5 : 7501 ≤ 74 * E + 0 * E2) (h6 : 3000 ≤ 29 * E + E2) (h7 : 4500 ≤ 44 * E + 2 * E2) (h8 : A + (E + E2) + E + s ≤ 513) : False := by omega
theorem fin_67 {Wd A s E E2 : Int} (hs : 0 ≤ s) (he : 0 ≤ E2) (h1 : 2 * 67 - 20 + Wd ≤ A) (h2 : 67 ≤ Wd) (h3 : 7501 ≤ Wd + 67 * s) (h4 : 1500 ≤ 13 * E) (h5 : 7501 ≤ 74 * E + 0 * E2) (h6 : 3000 ≤ 29 * E + E2) (h7 : 4500 ≤ 44 * E + 2 * E2) (h8 : A + (E + E2) + E + s ≤ 513) : False := by omega
theorem fin_68 {Wd A s E E2 : Int} (hs : 0 ≤ s) (he : 0 ≤ E2) (h1 : 2 * 68 - 20 + Wd ≤ A) (h2 : 68 ≤ Wd) (h3 : 7501 ≤ Wd + 68 * s) (h4 : 1500 ≤ 13 * E) (h5 : 7501 ≤ 74 * E + 0 * E2) (h6 : 3000 ≤ 29 * E + E2) (h7 : 4500 ≤ 44 * E + 2 * E2) (h8 : A + (E + E2) + E + s ≤ 513) : False := by omega
theorem fin_69 {Wd A s E E2 : Int} (hs : 0 ≤ s) (he : 0 ≤ E2) (h1 : 2 * 69 - 20 + Wd ≤ A) (h2 : 69 ≤ Wd) (h3 : 7501 ≤ Wd + 69 * s) (h4 : 1500 ≤ 13 * E) (h5 : 7501 ≤ 74 * E + 0 * E2) (h6 : 3000 ≤ 29 * E + E2) (h7 : 4500 ≤ 44 * E + 2 * E2) (h8 : A + (E + E2) + E + s ≤ 513) : False := by omega
theorem fin_70 {Wd A s E E2 : Int} (hs : 0 ≤ s) (he : 0 ≤ E2) (h1 : 2 * 70 - 20 + Wd ≤ A) (h2 : 70 ≤ Wd) (h3 : 7501 ≤ Wd + 70 * s) (h4 : 1500 ≤ 13 * E) (h5 : 7501 ≤ 74 * E + 0 * E2) (h6 : 3000 ≤ 29 * E + E2) (h7 : 4500 ≤ 44 * E + 2 * E2) (h8 : A + (E + E2) + E + s ≤ 513) : False := by omega
theorem fin_71 {Wd A s E E2 : Int} (hs : 0 ≤ s) (he : 0 ≤ E2) (h1 : 2 * 71 - 20 + Wd ≤ A) (h2 : 71 ≤ Wd) (h3 : 7501 ≤ Wd + 71 * s) (h4 : 1500 ≤ 14 * E) (h5 : 7501 ≤ 74 * E + 0 * E2) (h6 : 3000 ≤ 29 * E + E2) (h7 : 4500 ≤ 44 * E + 2 * E2) (h8 : A + (E + E2) + E + s ≤ 513) : False := by omega
theorem fin_72 {Wd A s E E2 : Int} (hs : 0 ≤ s) (he : 0 ≤ E2) (h1 : 2 * 72 - 20 + Wd ≤ A) (h2 : 72 ≤ Wd) (h3 : 7501 ≤ Wd + 72 * s) (h4 : 1500 ≤ 14 * E) (h5 : 7501 ≤ 74 * E + 0 * E2) (h6 : 3000 ≤ 29 * E + E2) (h7 : 4500 ≤ 44 * E + 2 * E2) (h8 : A + (E + E2) + E + s ≤ 513) : False := by omega
theorem fin_73 {Wd A s E E2 : Int} (hs : 0 ≤ s) (he : 0 ≤ E2) (h1 : 2 * 73 - 20 + Wd ≤ A) (h2 : 73 ≤ Wd) (h3 : 7501 ≤ Wd + 73 * s) (h4 : 1500 ≤ 14 * E) (h5 : 7501 ≤ 74 * E + 0 * E2) (h6 : 3000 ≤ 29 * E + E2) (h7 : 4500 ≤ 44 * E + 2 * E2) (h8 : A + (E + E2) + E + s ≤ 513) : False := by omega
theorem fin_74 {Wd A s E E2 : Int} (hs : 0 ≤ s) (he : 0 ≤ E2) (h1 : 2 * 74 - 20 + Wd ≤ A) (h2 : 74 ≤ Wd) (h3 : 7501 ≤ Wd + 74 * s) (h4 : 1500 ≤ 14 * E) (h5 : 7501 ≤ 74 * E + 0 * E2) (h6 : 3000 ≤ 29 * E + E2) (h7 : 4500 ≤ 44 * E + 2 * E2) (h8 : A + (E + E2) + E + s ≤ 513) : False := by omega
theorem fin_75 {Wd A s E E2 : Int} (hs : 0 ≤ s) (he : 0 ≤ E2) (h1 : 2 * 75 - 20 + Wd ≤ A) (h2 : 75 ≤ Wd) (h3 : 7501 ≤ Wd + 75 * s) (h4 : 1500 ≤ 14 * E) (h5 : 7501 ≤ 74 * E + 1 * E2) (h6 : 3000 ≤ 29 * E + E2) (h7 : 4500 ≤ 44 * E + 2 * E2) (h8 : A + (E + E2) + E + s ≤ 513) : False := by omega
theorem fin_76 {Wd A s E E2 : Int} (hs : 0 ≤ s) (he : 0 ≤ E2) (h1 : 2 * 76 - 20 + Wd ≤ A) (h2 : 76 ≤ Wd) (h3 : 7501 ≤ Wd + 76 * s) (h4 : 1500 ≤ 15 * E) (h5 : 7501 ≤ 74 * E + 2 * E2) (h6 : 3000 ≤ 29 * E + E2) (h7 : 4500 ≤ 44 * E + 2 * E2) (h8 : A + (E + E2) + E + s ≤ 513) : False := by omega
theorem fin_77 {Wd A s E E2 : Int} (hs : 0 ≤ s) (he : 0 ≤ E2) (h1 : 2 * 77 - 20 + Wd ≤ A) (h2 : 77 ≤ Wd) (h3 : 7501 ≤ Wd + 77 * s) (h4 : 1500 ≤ 15 * E) (h5 : 7501 ≤ 74 * E + 3 * E2) (h7 : 4500 ≤ 44 * E + 2 * E2) (h8 : A + (E + E2) + E + s ≤ 513) : False := by omega
theorem fin_78 {Wd A s E E2 : Int} (hs : 0 ≤ s) (he : 0 ≤ E2) (h1 : 2 * 78 - 20 + Wd ≤ A) (h2 : 78 ≤ Wd) (h3 : 7501 ≤ Wd + 78 * s) (h4 : 1500 ≤ 15 * E) (h5 : 7501 ≤ 74 * E + 4 * E2) (h8 : A + (E + E2) + E + s ≤ 513) : False := by omega
theorem fin_79 {Wd A s E E2 : Int} (hs : 0 ≤ s) (he : 0 ≤ E2) (h1 : 2 * 79 - 20 + Wd ≤ A) (h2 : 79 ≤ Wd) (h3 : 7501 ≤ Wd + 79 * s) (h4 : 1500 ≤ 15 * E) (h5 : 7501 ≤ 74 * E + 5 * E2) (h8 : A + (E + E2) + E + s ≤ 513) : False := by omega
theorem fin_80 {Wd A s E E2 : Int} (hs : 0 ≤ s) (he : 0 ≤ E2) (h1 : 2 * 80 - 20 + Wd ≤ A) (h2 : 80 ≤ Wd) (h3 : 7501 ≤ Wd + 80 * s) (h4 : 1500 ≤ 15 * E) (h5 : 7501 ≤ 74 * E + 6 * E2) (h8 : A + (E + E2) + E + s ≤ 513) : False := by omega
theorem fin_81 {Wd A s E E2 : Int} (hs : 0 ≤ s) (he : 0 ≤ E2) (h1 : 2 * 81 - 20 + Wd ≤ A) (h2 : 81 ≤ Wd) (h3 : 7501 ≤ Wd + 81 * s) (h4 : 1500 ≤ 16 * E) (h5 : 7501 ≤ 74 * E + 7 * E2) (h8 : A + (E + E2) + E + s ≤ 513) : False := by omega
theorem fin_82 {Wd A s E E2 : Int} (hs : 0 ≤ s) (he : 0 ≤ E2) (h1 : 2 * 82 - 20 + Wd ≤ A) (h2 : 82 ≤ Wd) (h3 : 7501 ≤ Wd + 82 * s) (h4 : 1500 ≤ 16 * E) (h5 : 7501 ≤ 74 * E + 8 * E2) (h8 : A + (E + E2) + E + s ≤ 513) : False := by omega
theorem fin_83 {Wd A s E E2 : Int} (hs : 0 ≤ s) (he : 0 ≤ E2) (h1 : 2 * 83 - 20 + Wd ≤ A) (h2 : 83 ≤ Wd) (h3 : 7501 ≤ Wd + 83 * s) (h4 : 1500 ≤ 16 * E) (h5 : 7501 ≤ 74 * E + 9 * E2) (h8 : A + (E + E2) + E + s ≤ 513) : False := by omega
theorem fin_84 {Wd A s E E2 : Int} (hs : 0 ≤ s) (he : 0 ≤ E2) (h1 : 2 * 84 - 20 + Wd ≤ A) (h2 : 84 ≤ Wd) (h3 : 7501 ≤ Wd + 84 * s) (h4 : 1500 ≤ 16 * E) (h5 : 7501 ≤ 74 * E + 10 * E2) (h8 : A + (E + E2) + E + s ≤ 513) : False := by omega
theorem fin_85 {Wd A s E E2 : Int} (hs : 0 ≤ s) (he : 0 ≤ E2) (h1 : 2 * 85 - 20 + Wd ≤ A) (h2 : 85 ≤ Wd) (h3 : 7501 ≤ Wd + 85 * s) (h4 : 1500 ≤ 16 * E) (h5 : 7501 ≤ 74 * E + 11 * E2) (h8 : A + (E + E2) + E + s ≤ 513) : False := by omega
theorem fin_86 {Wd A s E E2 : Int} (hs : 0 ≤ s) (he : 0 ≤ E2) (h1 : 2 * 86 - 20 + Wd ≤ A) (h2 : 86 ≤ Wd) (h3 : 7501 ≤ Wd + 86 * s) (h4 : 1500 ≤ 17 * E) (h5 : 7501 ≤ 74 * E + 12 * E2) (h8 : A + (E + E2) + E + s ≤ 513) : False := by omega
theorem fin_87 {Wd A s E E2 : Int} (hs : 0 ≤ s) (he : 0 ≤ E2) (h1 : 2 * 87 - 20 + Wd ≤ A) (h2 : 87 ≤ Wd) (h3 : 7501 ≤ Wd + 87 * s) (h4 : 1500 ≤ 17 * E) (h5 : 7501 ≤ 74 * E + 13 * E2) (h8 : A + (E + E2) + E + s ≤ 513) : False := by omega
theorem fin_88 {Wd A s E E2 : Int} (hs : 0 ≤ s) (he : 0 ≤ E2) (h1 : 2 * 88 - 20 + Wd ≤ A) (h2 : 88 ≤ Wd) (h3 : 7501 ≤ Wd + 88 * s) (h4 : 1500 ≤ 17 * E) (h5 : 7501 ≤ 74 * E + 14 * E2) (h8 : A + (E + E2) + E + s ≤ 513) : False := by omega
theorem fin_89 {Wd A s E E2 : Int} (hs : 0 ≤ s) (he : 0 ≤ E2) (h1 : 2 * 89 - 20 + Wd ≤ A) (h2 : 89 ≤ Wd) (h3 : 7501 ≤ Wd + 89 * s) (h4 : 1500 ≤ 17 * E) (h5 : 7501 ≤ 74 * E + 15 * E2) (h8 : A + (E + E2) + E + s ≤ 513) : False := by omega
theorem fin_90 {Wd A s E E2 : Int} (hs : 0 ≤ s) (he : 0 ≤ E2) (h1 : 2 * 90 - 20 + Wd ≤ A) (h2 : 90 ≤ Wd) (h3 : 7501 ≤ Wd + 90 * s) (h4 : 1500 ≤ 17 * E) (h5 : 7501 ≤ 74 * E + 16 * E2) (h8 : A + (E + E2) + E + s ≤ 513) : False := by omega
theorem fin_91 {Wd A s E E2 : Int} (hs : 0 ≤ s) (he : 0 ≤ E2) (h1 : 2 * 91 - 20 + Wd ≤ A) (h2 : 91 ≤ Wd) (h3 : 7501 ≤ Wd + 91 * s) (h4 : 1500 ≤ 18 * E) (h5 : 7501 ≤ 74 * E + 17 * E2) (h8 : A + (E + E2) + E + s ≤ 513) : False := by omega
theorem fin_92 {Wd A s E E2 : Int} (hs : 0 ≤ s) (he : 0 ≤ E2) (h1 : 2 * 92 - 20 + Wd ≤ A) (h2 : 92 ≤ Wd) (h3 : 7501 ≤ Wd + 92 * s) (h4 : 1500 ≤ 18 * E) (h5 : 7501 ≤ 74 * E + 18 * E2) (h8 : A + (E + E2) + E + s ≤ 513) : False := by omega
theorem fin_93 {Wd A s E E2 : Int} (hs : 0 ≤ s) (he : 0 ≤ E2) (h1 : 2 * 93 - 20 + Wd ≤ A) (h2 : 93 ≤ Wd) (h3 : 7501 ≤ Wd + 93 * s) (h4 : 1500 ≤ 18 * E) (h5 : 7501 ≤ 74 * E + 19 * E2) (h8 : A + (E + E2) + E + s ≤ 513) : False := by omega
theorem fin_94 {Wd A s E E2 : Int} (hs : 0 ≤ s) (he : 0 ≤ E2) (h1 : 2 * 94 - 20 + Wd ≤ A) (h2 : 94 ≤ Wd) (h3 : 7501 ≤ Wd + 94 * s) (h4 : 1500 ≤ 18 * E) (h5 : 7501 ≤ 74 * E + 20 * E2) (h8 : A + (E + E2) + E + s ≤ 513) : False := by omega
theorem fin_95 {Wd A s E E2 : Int} (hs : 0 ≤ s) (he : 0 ≤ E2) (h1 : 2 * 95 - 20 + Wd ≤ A) (h2 : 95 ≤ Wd) (h3 : 7501 ≤ Wd + 95 * s) (h4 : 1500 ≤ 18 * E) (h5 : 7501 ≤ 74 * E + 21 * E2) (h8 : A + (E + E2) + E + s ≤ 513) : False := by omega
theorem fin_96 {Wd A s E E2 : Int} (hs : 0 ≤ s) (he : 0 ≤ E2) (h1 : 2 * 96 - 20 + Wd ≤ A) (h2 : 96 ≤ Wd) (h3 : 7501 ≤ Wd + 96 * s) (h4 : 1500 ≤ 19 * E) (h5 : 7501 ≤ 74 * E + 22 * E2) (h8 : A + (E + E2) + E + s ≤ 513) : False := by omega
theorem fin_97 {Wd A s E E2 : Int} (hs : 0 ≤ s) (he : 0 ≤ E2) (h1 : 2 * 97 - 20 + Wd ≤ A) (h2 : 97 ≤ Wd) (h3 : 7501 ≤ Wd + 97 * s) (h4 : 1500 ≤ 19 * E) (h5 : 7501 ≤ 74 * E + 23 * E2) (h8 : A + (E + E2) + E + s ≤ 513) : False := by omega
theorem fin_98 {Wd A s E E2 : Int} (hs : 0 ≤ s) (he : 0 ≤ E2) (h1 : 2 * 98 - 20 + Wd ≤ A) (h2 : 98 ≤ Wd) (h3 : 7501 ≤ Wd + 98 * s) (h4 : 1500 ≤ 19 * E) (h5 : 7501 ≤ 74 * E + 24 * E2) (h8 : A + (E + E2) + E + s ≤ 513) : False := by omega
theorem fin_99 {Wd A s E E2 : Int} (hs : 0 ≤ s) (he : 0 ≤ E2) (h1 : 2 * 99 - 20 + Wd ≤ A) (h2 : 99 ≤ Wd) (h3 : 7501 ≤ Wd + 99 * s) (h4 : 1500 ≤ 19 * E) (h5 : 7501 ≤ 74 * E + 25 * E2) (h8 : A + (E + E2) + E + s ≤ 513) : False := by omega
theorem fin_100 {Wd A s E E2 : Int} (hs : 0 ≤ s) (he : 0 ≤ E2) (h1 : 2 * 100 - 20 + Wd ≤ A) (h2 : 100 ≤ Wd) (h3 : 7501 ≤ Wd + 100 * s) (h4 : 1500 ≤ 19 * E) (h5 : 7501 ≤ 74 * E + 26 * E2) (h8 : A + (E + E2) + E + s ≤ 513) : False := by omega
theorem fin_101 {Wd A s E E2 : Int} (hs : 0 ≤ s) (he : 0 ≤ E2) (h1 : 2 * 101 - 20 + Wd ≤ A) (h2 : 101 ≤ Wd) (h3 : 7501 ≤ Wd + 101 * s) (h4 : 1500 ≤ 20 * E) (h5 : 7501 ≤ 74 * E + 27 * E2) (h8 : A + (E + E2) + E + s ≤ 513) : False := by omega
theorem fin_102 {Wd A s E E2 : Int} (hs : 0 ≤ s) (he : 0 ≤ E2) (h1 : 2 * 102 - 20 + Wd ≤ A) (h2 : 102 ≤ Wd) (h3 : 7501 ≤ Wd + 102 * s) (h4 : 1500 ≤ 20 * E) (h5 : 7501 ≤ 74 * E + 28 * E2) (h8 : A + (E + E2) + E + s ≤ 513) : False := by omega
theorem fin_103 {Wd A s E E2 : Int} (hs : 0 ≤ s) (he : 0 ≤ E2) (h1 : 2 * 103 - 20 + Wd ≤ A) (h2 : 103 ≤ Wd) (h3 : 7501 ≤ Wd + 103 * s) (h4 : 1500 ≤ 20 * E) (h5 : 7501 ≤ 74 * E + 29 * E2) (h8 : A + (E + E2) + E + s ≤ 513) : False := by omega
theorem fin_104 {Wd A s E E2 : Int} (hs : 0 ≤ s) (he : 0 ≤ E2) (h1 : 2 * 104 - 20 + Wd ≤ A) (h2 : 104 ≤ Wd) (h3 : 7501 ≤ Wd + 104 * s) (h4 : 1500 ≤ 20 * E) (h5 : 7501 ≤ 74 * E + 30 * E2) (h8 : A + (E + E2) + E + s ≤ 513) : False := by omega
theorem fin_105 {Wd A s E E2 : Int} (hs : 0 ≤ s) (he : 0 ≤ E2) (h1 : 2 * 105 - 20 + Wd ≤ A) (h2 : 105 ≤ Wd) (h3 : 7501 ≤ Wd + 105 * s) (h4 : 1500 ≤ 20 * E) (h5 : 7501 ≤ 74 * E + 31 * E2) (h8 : A + (E + E2) + E + s ≤ 513) : False := by omega
theorem fin_106 {Wd A s E E2 : Int} (hs : 0 ≤ s) (he : 0 ≤ E2) (h1 : 2 * 106 - 20 + Wd ≤ A) (h2 : 106 ≤ Wd) (h3 : 7501 ≤ Wd + 106 * s) (h4 : 1500 ≤ 21 * E) (h5 : 7501 ≤ 74 * E + 32 * E2) (h8 : A + (E + E2) + E + s ≤ 513) : False := by omega
theorem fin_107 {Wd A s E E2 : Int} (hs : 0 ≤ s) (he : 0 ≤ E2) (h1 : 2 * 107 - 20 + Wd ≤ A) (h2 : 107 ≤ Wd) (h3 : 7501 ≤ Wd + 107 * s) (h4 : 1500 ≤ 21 * E) (h5 : 7501 ≤ 74 * E + 33 * E2) (h8 : A + (E + E2) + E + s ≤ 513) : False := by omega
theorem fin_108 {Wd A s E E2 : Int} (hs : 0 ≤ s) (he : 0 ≤ E2) (h1 : 2 * 108 - 20 + Wd ≤ A) (h2 : 108 ≤ Wd) (h3 : 7501 ≤ Wd + 108 * s) (h4 : 1500 ≤ 21 * E) (h5 : 7501 ≤ 74 * E + 34 * E2) (h8 : A + (E + E2) + E + s ≤ 513) : False := by omega
theorem fin_109 {Wd A s E E2 : Int} (hs : 0 ≤ s) (he : 0 ≤ E2) (h1 : 2 * 109 - 20 + Wd ≤ A) (h2 : 109 ≤ Wd) (h3 : 7501 ≤ Wd + 109 * s) (h4 : 1500 ≤ 21 * E) (h5 : 7501 ≤ 74 * E + 35 * E2) (h8 : A + (E + E2) + E + s ≤ 513) : False := by omega
theorem fin_110 {Wd A s E E2 : Int} (hs : 0 ≤ s) (he : 0 ≤ E2) (h1 : 2 * 110 - 20 + Wd ≤ A) (h2 : 110 ≤ Wd) (h3 : 7501 ≤ Wd + 110 * s) (h4 : 1500 ≤ 21 * E) (h5 : 7501 ≤ 74 * E + 36 * E2) (h8 : A + (E + E2) + E + s ≤ 513) : False := by omega
theorem fin_111 {Wd A s E E2 : Int} (hs : 0 ≤ s) (he : 0 ≤ E2) (h1 : 2 * 111 - 20 + Wd ≤ A) (h2 : 111 ≤ Wd) (h3 : 7501 ≤ Wd + 111 * s) (h4 : 1500 ≤ 22 * E) (h5 : 7501 ≤ 74 * E + 37 * E2) (h8 : A + (E + E2) + E + s ≤ 513) : False := by omega
theorem fin_112 {Wd A s E E2 : Int} (hs : 0 ≤ s) (he : 0 ≤ E2) (h1 : 2 * 112 - 20 + Wd ≤ A) (h2 : 112 ≤ Wd) (h3 : 7501 ≤ Wd + 112 * s) (h4 : 1500 ≤ 22 * E) (h5 : 7501 ≤ 74 * E + 38 * E2) (h8 : A + (E + E2) + E + s ≤ 513) : False := by omega
theorem fin_113 {Wd A s E E2 : Int} (hs : 0 ≤ s) (he : 0 ≤ E2) (h1 : 2 * 113 - 20 + Wd ≤ A) (h2 : 113 ≤ Wd) (h3 : 7501 ≤ Wd + 113 * s) (h4 : 1500 ≤ 22 * E) (h5 : 7501 ≤ 74 * E + 39 * E2) (h8 : A + (E + E2) + E + s ≤ 513) : False := by omega
theorem fin_114 {Wd A s E E2 : Int} (hs : 0 ≤ s) (he : 0 ≤ E2) (h1 : 2 * 114 - 20 + Wd ≤ A) (h2 : 114 ≤ Wd) (h3 : 7501 ≤ Wd + 114 * s) (h4 : 1500 ≤ 22 * E) (h5 : 7501 ≤ 74 * E + 40 * E2) (h8 : A + (E + E2) + E + s ≤ 513) : False := by omega
theorem fin_115 {Wd A s E E2 : Int} (hs : 0 ≤ s) (he : 0 ≤ E2) (h1 : 2 * 115 - 20 + Wd ≤ A) (h2 : 115 ≤ Wd) (h3 : 7501 ≤ Wd + 115 * s) (h4 : 1500 ≤ 22 * E) (h5 : 7501 ≤ 74 * E + 41 * E2) (h8 : A + (E + E2) + E + s ≤ 513) : False := by omega
theorem fin_116 {Wd A s E E2 : Int} (hs : 0 ≤ s) (he : 0 ≤ E2) (h1 : 2 * 116 - 20 + Wd ≤ A) (h2 : 116 ≤ Wd) (h3 : 7501 ≤ Wd + 116 * s) (h4 : 1500 ≤ 23 * E) (h5 : 7501 ≤ 74 * E + 42 * E2) (h8 : A + (E + E2) + E + s ≤ 513) : False := by omega
theorem fin_117 {Wd A s E E2 : Int} (hs : 0 ≤ s) (he : 0 ≤ E2) (h1 : 2 * 117 - 20 + Wd ≤ A) (h2 : 117 ≤ Wd) (h3 : 7501 ≤ Wd + 117 * s) (h4 : 1500 ≤ 23 * E) (h5 : 7501 ≤ 74 * E + 43 * E2) (h8 : A + (E + E2) + E + s ≤ 513) : False := by omega
theorem fin_118 {Wd A s E E2 : Int} (hs : 0 ≤ s) (he : 0 ≤ E2) (h1 : 2 * 118 - 20 + Wd ≤ A) (h2 : 118 ≤ Wd) (h3 : 7501 ≤ Wd + 118 * s) (h4 : 1500 ≤ 23 * E) (h5 : 7501 ≤ 74 * E + 44 * E2) (h8 : A + (E + E2) + E + s ≤ 513) : False := by omega
theorem fin_119 {Wd A s E E2 : Int} (hs : 0 ≤ s) (he : 0 ≤ E2) (h1 : 2 * 119 - 20 + Wd ≤ A) (h2 : 119 ≤ Wd) (h3 : 7501 ≤ Wd + 119 * s) (h4 : 1500 ≤ 23 * E) (h5 : 7501 ≤ 74 * E + 45 * E2) (h8 : A + (E + E2) + E + s ≤ 513) : False := by omega
theorem fin_120 {Wd A s E E2 : Int} (hs : 0 ≤ s) (he : 0 ≤ E2) (h1 : 2 * 120 - 20 + Wd ≤ A) (h2 : 120 ≤ Wd) (h3 : 7501 ≤ Wd + 120 * s) (h4 : 1500 ≤ 23 * E) (h5 : 7501 ≤ 74 * E + 46 * E2) (h8 : A + (E + E2) + E + s ≤ 513) : False := by omega
theorem fin_121 {Wd A s E E2 : Int} (hs : 0 ≤ s) (he : 0 ≤ E2) (h1 : 2 * 121 - 20 + Wd ≤ A) (h2 : 121 ≤ Wd) (h3 : 7501 ≤ Wd + 121 * s) (h4 : 1500 ≤ 24 * E) (h5 : 7501 ≤ 74 * E + 47 * E2) (h8 : A + (E + E2) + E + s ≤ 513) : False := by omega
theorem fin_122 {Wd A s E E2 : Int} (hs : 0 ≤ s) (he : 0 ≤ E2) (h1 : 2 * 122 - 20 + Wd ≤ A) (h2 : 122 ≤ Wd) (h3 : 7501 ≤ Wd + 122 * s) (h4 : 1500 ≤ 24 * E) (h5 : 7501 ≤ 74 * E + 48 * E2) (h8 : A + (E + E2) + E + s ≤ 513) : False := by omega
theorem fin_123 {Wd A s E E2 : Int} (hs : 0 ≤ s) (he : 0 ≤ E2) (h1 : 2 * 123 - 20 + Wd ≤ A) (h2 : 123 ≤ Wd) (h3 : 7501 ≤ Wd + 123 * s) (h4 : 1500 ≤ 24 * E) (h5 : 7501 ≤ 74 * E + 49 * E2) (h8 : A + (E + E2) + E + s ≤ 513) : False := by omega
theorem fin_124 {Wd A s E E2 : Int} (hs : 0 ≤ s) (he : 0 ≤ E2) (h1 : 2 * 124 - 20 + Wd ≤ A) (h2 : 124 ≤ Wd) (h3 : 7501 ≤ Wd + 124 * s) (h4 : 1500 ≤ 24 * E) (h5 : 7501 ≤ 74 * E + 50 * E2) (h8 : A + (E + E2) + E + s ≤ 513) : False := by omega
theorem fin_125 {Wd A s E E2 : Int} (hs : 0 ≤ s) (he : 0 ≤ E2) (h1 : 2 * 125 - 20 + Wd ≤ A) (h2 : 125 ≤ Wd) (h3 : 7501 ≤ Wd + 125 * s) (h4 : 1500 ≤ 24 * E) (h5 : 7501 ≤ 74 * E + 51 * E2) (h8 : A + (E + E2) + E + s ≤ 513) : False := by omega
theorem fin_126 {Wd A s E E2 : Int} (hs : 0 ≤ s) (he : 0 ≤ E2) (h1 : 2 * 126 - 20 + Wd ≤ A) (h2 : 126 ≤ Wd) (h3 : 7501 ≤ Wd + 126 * s) (h4 : 1500 ≤ 25 * E) (h5 : 7501 ≤ 74 * E + 52 * E2) (h8 : A + (E + E2) + E + s ≤ 513) : False := by omega
theorem fin_127 {Wd A s E E2 : Int} (hs : 0 ≤ s) (he : 0 ≤ E2) (h1 : 2 * 127 - 20 + Wd ≤ A) (h2 : 127 ≤ Wd) (h3 : 7501 ≤ Wd + 127 * s) (h4 : 1500 ≤ 25 * E) (h5 : 7501 ≤ 74 * E + 53 * E2) (h8 : A + (E + E2) + E + s ≤ 513) : False := by omega
theorem fin_128 {Wd A s E E2 : Int} (hs : 0 ≤ s) (he : 0 ≤ E2) (h1 : 2 * 128 - 20 + Wd ≤ A) (h2 : 128 ≤ Wd) (h3 : 7501 ≤ Wd + 128 * s) (h4 : 1500 ≤ 25 * E) (h5 : 7501 ≤ 74 * E + 54 * E2) (h8 : A + (E + E2) + E + s ≤ 513) : False := by omega
theorem fin_129 {Wd A s E E2 : Int} (hs : 0 ≤ s) (he : 0 ≤ E2) (h1 : 2 * 129 - 20 + Wd ≤ A) (h2 : 129 ≤ Wd) (h3 : 7501 ≤ Wd + 129 * s) (h4 : 1500 ≤ 25 * E) (h5 : 7501 ≤ 74 * E + 55 * E2) (h8 : A + (E + E2) + E + s ≤ 513) : False := by omega
theorem fin_130 {Wd A s E E2 : Int} (hs : 0 ≤ s) (he : 0 ≤ E2) (h1 : 2 * 130 - 20 + Wd ≤ A) (h2 : 130 ≤ Wd) (h3 : 7501 ≤ Wd + 130 * s) (h4 : 1500 ≤ 25 * E) (h5 : 7501 ≤ 74 * E + 56 * E2) (h8 : A + (E + E2) + E + s ≤ 513) : False := by omega
theorem fin_131 {Wd A s E E2 : Int} (hs : 0 ≤ s) (he : 0 ≤ E2) (h1 : 2 * 131 - 20 + Wd ≤ A) (h2 : 131 ≤ Wd) (h3 : 7501 ≤ Wd + 131 * s) (h4 : 1500 ≤ 26 * E) (h5 : 7501 ≤ 74 * E + 57 * E2) (h8 : A + (E + E2) + E + s ≤ 513) : False := by omega
theorem fin_132 {Wd A s E E2 : Int} (hs : 0 ≤ s) (he : 0 ≤ E2) (h1 : 2 * 132 - 20 + Wd ≤ A) (h2 : 132 ≤ Wd) (h3 : 7501 ≤ Wd + 132 * s) (h4 : 1500 ≤ 26 * E) (h5 : 7501 ≤ 74 * E + 58 * E2) (h8 : A + (E + E2) + E + s ≤ 513) : False := by omega
theorem fin_133 {Wd A s E E2 : Int} (hs : 0 ≤ s) (he : 0 ≤ E2) (h1 : 2 * 133 - 20 + Wd ≤ A) (h2 : 133 ≤ Wd) (h3 : 7501 ≤ Wd + 133 * s) (h4 : 1500 ≤ 26 * E) (h5 : 7501 ≤ 74 * E + 59 * E2) (h8 : A + (E + E2) + E + s ≤ 513) : False := by omega
theorem fin_134 {Wd A s E E2 : Int} (hs : 0 ≤ s) (he : 0 ≤ E2) (h1 : 2 * 134 - 20 + Wd ≤ A) (h2 : 134 ≤ Wd) (h3 : 7501 ≤ Wd + 134 * s) (h4 : 1500 ≤ 26 * E) (h5 : 7501 ≤ 74 * E + 60 * E2) (h8 : A + (E + E2) + E + s ≤ 513) : False := by omega
theorem fin_135 {Wd A s E E2 : Int} (hs : 0 ≤ s) (he : 0 ≤ E2) (h1 : 2 * 135 - 20 + Wd ≤ A) (h2 : 135 ≤ Wd) (h3 : 7501 ≤ Wd + 135 * s) (h4 : 1500 ≤ 26 * E) (h5 : 7501 ≤ 74 * E + 61 * E2) (h8 : A + (E + E2) + E + s ≤ 513) : False := by omega
theorem fin_136 {Wd A s E E2 : Int} (hs : 0 ≤ s) (he : 0 ≤ E2) (h1 : 2 * 136 - 20 + Wd ≤ A) (h2 : 136 ≤ Wd) (h3 : 7501 ≤ Wd + 136 * s) (h4 : 1500 ≤ 27 * E) (h5 : 7501 ≤ 74 * E + 62 * E2) (h8 : A + (E + E2) + E + s ≤ 513) : False := by omega
theorem fin_137 {Wd A s E E2 : Int} (hs : 0 ≤ s) (he : 0 ≤ E2) (h1 : 2 * 137 - 20 + Wd ≤ A) (h2 : 137 ≤ Wd) (h3 : 7501 ≤ Wd + 137 * s) (h4 : 1500 ≤ 27 * E) (h5 : 7501 ≤ 74 * E + 63 * E2) (h8 : A + (E + E2) + E + s ≤ 513) : False := by omega
theorem fin_138 {Wd A s E E2 : Int} (hs : 0 ≤ s) (he : 0 ≤ E2) (h1 : 2 * 138 - 20 + Wd ≤ A) (h2 : 138 ≤ Wd) (h3 : 7501 ≤ Wd + 138 * s) (h4 : 1500 ≤ 27 * E) (h5 : 7501 ≤ 74 * E + 64 * E2) (h8 : A + (E + E2) + E + s ≤ 513) : False := by omega
theorem fin_139 {Wd A s E E2 : Int} (hs : 0 ≤ s) (he : 0 ≤ E2) (h1 : 2 * 139 - 20 + Wd ≤ A) (h2 : 139 ≤ Wd) (h3 : 7501 ≤ Wd + 139 * s) (h4 : 1500 ≤ 27 * E) (h5 : 7501 ≤ 74 * E + 65 * E2) (h8 : A + (E + E2) + E + s ≤ 513) : False := by omega
theorem fin_140 {Wd A s E E2 : Int} (hs : 0 ≤ s) (he : 0 ≤ E2) (h1 : 2 * 140 - 20 + Wd ≤ A) (h2 : 140 ≤ Wd) (h3 : 7501 ≤ Wd + 140 * s) (h4 : 1500 ≤ 27 * E) (h5 : 7501 ≤ 74 * E + 66 * E2) (h8 : A + (E + E2) + E + s ≤ 513) : False := by omega
theorem fin_141 {Wd A s E E2 : Int} (hs : 0 ≤ s) (he : 0 ≤ E2) (h1 : 2 * 141 - 20 + Wd ≤ A) (h2 : 141 ≤ Wd) (h3 : 7501 ≤ Wd + 141 * s) (h4 : 1500 ≤ 28 * E) (h5 : 7501 ≤ 74 * E + 67 * E2) (h8 : A + (E + E2) + E + s ≤ 513) : False := by omega
theorem fin_142 {Wd A s E E2 : Int} (hs : 0 ≤ s) (he : 0 ≤ E2) (h1 : 2 * 142 - 20 + Wd ≤ A) (h2 : 142 ≤ Wd) (h3 : 7501 ≤ Wd + 142 * s) (h4 : 1500 ≤ 28 * E) (h5 : 7501 ≤ 74 * E + 68 * E2) (h8 : A + (E + E2) + E + s ≤ 513) : False := by omega
theorem fin_143 {Wd A s E E2 : Int} (hs : 0 ≤ s) (he : 0 ≤ E2) (h1 : 2 * 143 - 20 + Wd ≤ A) (h2 : 143 ≤ Wd) (h3 : 7501 ≤ Wd + 143 * s) (h4 : 1500 ≤ 28 * E) (h5 : 7501 ≤ 74 * E + 69 * E2) (h8 : A + (E + E2) + E + s ≤ 513) : False := by omega
theorem fin_144 {Wd A s E E2 : Int} (hs : 0 ≤ s) (he : 0 ≤ E2) (h1 : 2 * 144 - 20 + Wd ≤ A) (h2 : 144 ≤ Wd) (h3 : 7501 ≤ Wd + 144 * s) (h4 : 1500 ≤ 28 * E) (h5 : 7501 ≤ 74 * E + 70 * E2) (h8 : A + (E + E2) + E + s ≤ 513) : False := by omega
theorem fin_145 {Wd A s E E2 : Int} (hs : 0 ≤ s) (he : 0 ≤ E2) (h1 : 2 * 145 - 20 + Wd ≤ A) (h2 : 145 ≤ Wd) (h3 : 7501 ≤ Wd + 145 * s) (h4 : 1500 ≤ 28 * E) (h5 : 7501 ≤ 74 * E + 71 * E2) (h8 : A + (E + E2) + E + s ≤ 513) : False := by omega
theorem fin_146 {Wd A s E E2 : Int} (hs : 0 ≤ s) (he : 0 ≤ E2) (h1 : 2 * 146 - 20 + Wd ≤ A) (h2 : 146 ≤ Wd) (h3 : 7501 ≤ Wd + 146 * s) (h4 : 1500 ≤ 29 * E) (h5 : 7501 ≤ 74 * E + 72 * E2) (h8 : A + (E + E2) + E + s ≤ 513) : False := by omega
theorem fin_147 {Wd A s E E2 : Int} (hs : 0 ≤ s) (he : 0 ≤ E2) (h1 : 2 * 147 - 20 + Wd ≤ A) (h2 : 147 ≤ Wd) (h3 : 7501 ≤ Wd + 147 * s) (h4 : 1500 ≤ 29 * E) (h5 : 7501 ≤ 74 * E + 73 * E2) (h8 : A + (E + E2) + E + s ≤ 513) : False := by omega
theorem fin_148 {Wd A s E E2 : Int} (hs : 0 ≤ s) (he : 0 ≤ E2) (h1 : 2 * 148 - 20 + Wd ≤ A) (h2 : 148 ≤ Wd) (h3 : 7501 ≤ Wd + 148 * s) (h4 : 1500 ≤ 29 * E) (h5 : 7501 ≤ 74 * E + 74 * E2) (h8 : A + (E + E2) + E + s ≤ 513) : False := by omega
theorem fin_149 {Wd A s E E2 : Int} (hs : 0 ≤ s) (he : 0 ≤ E2) (h1 : 2 * 149 - 20 + Wd ≤ A) (h2 : 149 ≤ Wd) (h3 : 7501 ≤ Wd + 149 * s) (h4 : 1500 ≤ 29 * E) (h5 : 7501 ≤ 74 * E + 75 * E2) (h8 : A + (E + E2) + E + s ≤ 513) : False := by omega
theorem fin_150 {Wd A s E E2 : Int} (hs : 0 ≤ s) (he : 0 ≤ E2) (h1 : 2 * 150 - 20 + Wd ≤ A) (h2 : 150 ≤ Wd) (h3 : 7501 ≤ Wd + 150 * s) (h4 : 1500 ≤ 29 * E) (h5 : 7501 ≤ 74 * E + 76 * E2) (h8 : A + (E + E2) + E + s ≤ 513) : False := by omega
theorem fin_151 {Wd A s E E2 : Int} (hs : 0 ≤ s) (he : 0 ≤ E2) (h1 : 2 * 151 - 20 + Wd ≤ A) (h2 : 151 ≤ Wd) (h3 : 7501 ≤ Wd + 151 * s) (h4 : 1500 ≤ 30 * E) (h5 : 7501 ≤ 74 * E + 77 * E2) (h8 : A + (E + E2) + E + s ≤ 513) : False := by omega
theorem fin_152 {Wd A s E E2 : Int} (hs : 0 ≤ s) (he : 0 ≤ E2) (h1 : 2 * 152 - 20 + Wd ≤ A) (h2 : 152 ≤ Wd) (h3 : 7501 ≤ Wd + 152 * s) (h4 : 1500 ≤ 30 * E) (h5 : 7501 ≤ 74 * E + 78 * E2) (h8 : A + (E + E2) + E + s ≤ 513) : False := by omega
theorem fin_153 {Wd A s E E2 : Int} (hs : 0 ≤ s) (he : 0 ≤ E2) (h1 : 2 * 153 - 20 + Wd ≤ A) (h2 : 153 ≤ Wd) (h3 : 7501 ≤ Wd + 153 * s) (h4 : 1500 ≤ 30 * E) (h5 : 7501 ≤ 74 * E + 79 * E2) (h8 : A + (E + E2) + E + s ≤ 513) : False := by omega
theorem fin_154 {Wd A s E E2 : Int} (hs : 0 ≤ s) (he : 0 ≤ E2) (h1 : 2 * 154 - 20 + Wd ≤ A) (h2 : 154 ≤ Wd) (h3 : 7501 ≤ Wd + 154 * s) (h4 : 1500 ≤ 30 * E) (h5 : 7501 ≤ 74 * E + 80 * E2) (h8 : A + (E + E2) + E + s ≤ 513) : False := by omega
theorem fin_155 {Wd A s E E2 : Int} (hs : 0 ≤ s) (he : 0 ≤ E2) (h1 : 2 * 155 - 20 + Wd ≤ A) (h2 : 155 ≤ Wd) (h3 : 7501 ≤ Wd + 155 * s) (h4 : 1500 ≤ 30 * E) (h5 : 7501 ≤ 74 * E + 81 * E2) (h8 : A + (E + E2) + E + s ≤ 513) : False := by omega
theorem fin_156 {Wd A s E E2 : Int} (hs : 0 ≤ s) (he : 0 ≤ E2) (h1 : 2 * 156 - 20 + Wd ≤ A) (h2 : 156 ≤ Wd) (h3 : 7501 ≤ Wd + 156 * s) (h4 : 1500 ≤ 31 * E) (h5 : 7501 ≤ 74 * E + 82 * E2) (h8 : A + (E + E2) + E + s ≤ 513) : False := by omega
theorem fin_157 {Wd A s E E2 : Int} (hs : 0 ≤ s) (he : 0 ≤ E2) (h1 : 2 * 157 - 20 + Wd ≤ A) (h2 : 157 ≤ Wd) (h3 : 7501 ≤ Wd + 157 * s) (h4 : 1500 ≤ 31 * E) (h5 : 7501 ≤ 74 * E + 83 * E2) (h8 : A + (E + E2) + E + s ≤ 513) : False := by omega
theorem fin_158 {Wd A s E E2 : Int} (hs : 0 ≤ s) (he : 0 ≤ E2) (h1 : 2 * 158 - 20 + Wd ≤ A) (h2 : 158 ≤ Wd) (h3 : 7501 ≤ Wd + 158 * s) (h4 : 1500 ≤ 31 * E) (h5 : 7501 ≤ 74 * E + 84 * E2) (h8 : A + (E + E2) + E + s ≤ 513) : False := by omega
theorem fin_159 {Wd A s E E2 : Int} (hs : 0 ≤ s) (he : 0 ≤ E2) (h1 : 2 * 159 - 20 + Wd ≤ A) (h2 : 159 ≤ Wd) (h3 : 7501 ≤ Wd + 159 * s) (h4 : 1500 ≤ 31 * E) (h5 : 7501 ≤ 74 * E + 85 * E2) (h8 : A + (E + E2) + E + s ≤ 513) : False := by omega
theorem fin_160 {Wd A s E E2 : Int} (hs : 0 ≤ s) (he : 0 ≤ E2) (h1 : 2 * 160 - 20 + Wd ≤ A) (h2 : 160 ≤ Wd) (h3 : 7501 ≤ Wd + 160 * s) (h4 : 1500 ≤ 31 * E) (h5 : 7501 ≤ 74 * E + 86 * E2) (h8 : A + (E + E2) + E + s ≤ 513) : False := by omega
theorem fin_161 {Wd A s E E2 : Int} (hs : 0 ≤ s) (he : 0 ≤ E2) (h1 : 2 * 161 - 20 + Wd ≤ A) (h2 : 161 ≤ Wd) (h3 : 7501 ≤ Wd + 161 * s) (h4 : 1500 ≤ 32 * E) (h5 : 7501 ≤ 74 * E + 87 * E2) (h8 : A + (E + E2) + E + s ≤ 513) : False := by omega
theorem fin_162 {Wd A s E E2 : Int} (hs : 0 ≤ s) (he : 0 ≤ E2) (h1 : 2 * 162 - 20 + Wd ≤ A) (h2 : 162 ≤ Wd) (h3 : 7501 ≤ Wd + 162 * s) (h4 : 1500 ≤ 32 * E) (h5 : 7501 ≤ 74 * E + 88 * E2) (h8 : A + (E + E2) + E + s ≤ 513) : False := by omega
theorem fin_163 {Wd A s E E2 : Int} (hs : 0 ≤ s) (he : 0 ≤ E2) (h1 : 2 * 163 - 20 + Wd ≤ A) (h2 : 163 ≤ Wd) (h3 : 7501 ≤ Wd + 163 * s) (h4 : 1500 ≤ 32 * E) (h5 : 7501 ≤ 74 * E + 89 * E2) (h8 : A + (E + E2) + E + s ≤ 513) : False := by omega
theorem fin_164 {Wd A s E E2 : Int} (hs : 0 ≤ s) (he : 0 ≤ E2) (h1 : 2 * 164 - 20 + Wd ≤ A) (h2 : 164 ≤ Wd) (h3 : 7501 ≤ Wd + 164 * s) (h4 : 1500 ≤ 32 * E) (h5 : 7501 ≤ 74 * E + 90 * E2) (h8 : A + (E + E2) + E + s ≤ 513) : False := by omega
theorem fin_165 {Wd A s E E2 : Int} (hs : 0 ≤ s) (he : 0 ≤ E2) (h1 : 2 * 165 - 20 + Wd ≤ A) (h2 : 165 ≤ Wd) (h3 : 7501 ≤ Wd + 165 * s) (h4 : 1500 ≤ 32 * E) (h5 : 7501 ≤ 74 * E + 91 * E2) (h8 : A + (E + E2) + E + s ≤ 513) : False := by omega
theorem fin_166 {Wd A s E E2 : Int} (hs : 0 ≤ s) (he : 0 ≤ E2) (h1 : 2 * 166 - 20 + Wd ≤ A) (h2 : 166 ≤ Wd) (h3 : 7501 ≤ Wd + 166 * s) (h4 : 1500 ≤ 33 * E) (h5 : 7501 ≤ 74 * E + 92 * E2) (h8 : A + (E + E2) + E + s ≤ 513) : False := by omega
theorem fin_167 {Wd A s E E2 : Int} (hs : 0 ≤ s) (he : 0 ≤ E2) (h1 : 2 * 167 - 20 + Wd ≤ A) (h2 : 167 ≤ Wd) (h3 : 7501 ≤ Wd + 167 * s) (h4 : 1500 ≤ 33 * E) (h5 : 7501 ≤ 74 * E + 93 * E2) (h8 : A + (E + E2) + E + s ≤ 513) : False := by omega
theorem fin_168 {Wd A s E E2 : Int} (hs : 0 ≤ s) (he : 0 ≤ E2) (h1 : 2 * 168 - 20 + Wd ≤ A) (h2 : 168 ≤ Wd) (h3 : 7501 ≤ Wd + 168 * s) (h4 : 1500 ≤ 33 * E) (h5 : 7501 ≤ 74 * E + 94 * E2) (h8 : A + (E + E2) + E + s ≤ 513) : False := by omega
theorem fin_169 {Wd A s E E2 : Int} (hs : 0 ≤ s) (he : 0 ≤ E2) (h1 : 2 * 169 - 20 + Wd ≤ A) (h2 : 169 ≤ Wd) (h3 : 7501 ≤ Wd + 169 * s) (h4 : 1500 ≤ 33 * E) (h5 : 7501 ≤ 74 * E + 95 * E2) (h8 : A + (E + E2) + E + s ≤ 513) : False := by omega
theorem fin_170 {Wd A s E E2 : Int} (hs : 0 ≤ s) (he : 0 ≤ E2) (h1 : 2 * 170 - 20 + Wd ≤ A) (h2 : 170 ≤ Wd) (h3 : 7501 ≤ Wd + 170 * s) (h4 : 1500 ≤ 33 * E) (h5 : 7501 ≤ 74 * E + 96 * E2) (h8 : A + (E + E2) + E + s ≤ 513) : False := by omega
theorem fin_171 {Wd A s E E2 : Int} (hs : 0 ≤ s) (he : 0 ≤ E2) (h1 : 2 * 171 - 20 + Wd ≤ A) (h2 : 171 ≤ Wd) (h3 : 7501 ≤ Wd + 171 * s) (h4 : 1500 ≤ 34 * E) (h5 : 7501 ≤ 74 * E + 97 * E2) (h8 : A + (E + E2) + E + s ≤ 513) : False := by omega
theorem fin_172 {Wd A s E E2 : Int} (hs : 0 ≤ s) (he : 0 ≤ E2) (h1 : 2 * 172 - 20 + Wd ≤ A) (h2 : 172 ≤ Wd) (h3 : 7501 ≤ Wd + 172 * s) (h4 : 1500 ≤ 34 * E) (h5 : 7501 ≤ 74 * E + 98 * E2) (h8 : A + (E + E2) + E + s ≤ 513) : False := by omega
theorem fin_173 {Wd A s E E2 : Int} (hs : 0 ≤ s) (he : 0 ≤ E2) (h1 : 2 * 173 - 20 + Wd ≤ A) (h2 : 173 ≤ Wd) (h3 : 7501 ≤ Wd + 173 * s) (h4 : 1500 ≤ 34 * E) (h5 : 7501 ≤ 74 * E + 99 * E2) (h8 : A + (E + E2) + E + s ≤ 513) : False := by omega
theorem fin_174 {Wd A s E E2 : Int} (hs : 0 ≤ s) (he : 0 ≤ E2) (h1 : 2 * 174 - 20 + Wd ≤ A) (h2 : 174 ≤ Wd) (h3 : 7501 ≤ Wd + 174 * s) (h4 : 1500 ≤ 34 * E) (h5 : 7501 ≤ 74 * E + 100 * E2) (h8 : A + (E + E2) + E + s ≤ 513) : False := by omega
theorem fin_175 {Wd A s E E2 : Int} (hs : 0 ≤ s) (he : 0 ≤ E2) (h1 : 2 * 175 - 20 + Wd ≤ A) (h2 : 175 ≤ Wd) (h3 : 7501 ≤ Wd + 175 * s) (h4 : 1500 ≤ 34 * E) (h5 : 7501 ≤ 74 * E + 101 * E2) (h8 : A + (E + E2) + E + s ≤ 513) : False := by omega
theorem fin_176 {Wd A s E E2 : Int} (hs : 0 ≤ s) (he : 0 ≤ E2) (h1 : 2 * 176 - 20 + Wd ≤ A) (h2 : 176 ≤ Wd) (h3 : 7501 ≤ Wd + 176 * s) (h4 : 1500 ≤ 35 * E) (h5 : 7501 ≤ 74 * E + 102 * E2) (h8 : A + (E + E2) + E + s ≤ 513) : False := by omega
theorem fin_177 {Wd A s E E2 : Int} (hs : 0 ≤ s) (he : 0 ≤ E2) (h1 : 2 * 177 - 20 + Wd ≤ A) (h2 : 177 ≤ Wd) (h3 : 7501 ≤ Wd + 177 * s) (h4 : 1500 ≤ 35 * E) (h5 : 7501 ≤ 74 * E + 103 * E2) (h8 : A + (E + E2) + E + s ≤ 513) : False := by omega
/-- the last number: no pack beyond 1500 -/
theorem fin_all {n : Nat} {Wd A s E E2 U G0 : Int} (hn : n ≤ 177) (hs : 0 ≤ s) (he : 0 ≤ E2) (h1 : 2 * (n : Int) - 20 + Wd ≤ A) (h2 : (n : Int) ≤ Wd) (h3 : 7501 ≤ Wd + (n : Int) * s)
    (h4 : ∀ q : Int, 0 ≤ q → (n : Int) ≤ 5 * q + 5 → 1500 ≤ q * E) (h5 : ∀ q : Int, 74 ≤ q → (n : Int) ≤ q → 7501 ≤ 74 * E + (q - 74) * E2) (h6 : (n : Int) ≤ 76 → 3000 ≤ 29 * E + E2) (h7 : (n : Int) ≤ 77 → 4500 ≤ 44 * E + 2 * E2) (h8 : A + (E + E2) + E + s ≤ 513) : False := by
  by_cases g0_177 : n ≤ 88
  · skip
    by_cases g0_88 : n ≤ 44
    · skip
      by_cases g0_44 : n ≤ 22
      · skip
        by_cases g0_22 : n ≤ 11
        · skip
          by_cases g0_11 : n ≤ 5
          · skip
            by_cases g0_5 : n ≤ 2
            · skip
              by_cases g0_2 : n ≤ 1
              · skip
                by_cases g0_1 : n ≤ 0
                · skip
                  have e : n = 0 := by omega
                  subst e
                  exact fin_0 hs he h1 h2 h3 (h4 0 (by decide) (by decide)) (h5 74 (by decide) (by decide)) (h6 (by decide)) (h7 (by decide)) h8
                · skip
                  have e : n = 1 := by omega
                  subst e
                  exact fin_1 hs he h1 h2 h3 (h4 0 (by decide) (by decide)) (h5 74 (by decide) (by decide)) (h6 (by decide)) (h7 (by decide)) h8
              · skip
                have e : n = 2 := by omega
                subst e
                exact fin_2 hs he h1 h2 h3 (h4 0 (by decide) (by decide)) (h5 74 (by decide) (by decide)) (h6 (by decide)) (h7 (by decide)) h8
            · skip
              by_cases g3_5 : n ≤ 4
              · skip
                by_cases g3_4 : n ≤ 3
                · skip
                  have e : n = 3 := by omega
                  subst e
                  exact fin_3 hs he h1 h2 h3 (h4 0 (by decide) (by decide)) (h5 74 (by decide) (by decide)) (h6 (by decide)) (h7 (by decide)) h8
                · skip
                  have e : n = 4 := by omega
                  subst e
                  exact fin_4 hs he h1 h2 h3 (h4 0 (by decide) (by decide)) (h5 74 (by decide) (by decide)) (h6 (by decide)) (h7 (by decide)) h8
              · skip
                have e : n = 5 := by omega
                subst e
                exact fin_5 hs he h1 h2 h3 (h4 0 (by decide) (by decide)) (h5 74 (by decide) (by decide)) (h6 (by decide)) (h7 (by decide)) h8
          · skip
            by_cases g6_11 : n ≤ 8
            · skip
              by_cases g6_8 : n ≤ 7
              · skip
                by_cases g6_7 : n ≤ 6
                · skip
                  have e : n = 6 := by omega
                  subst e
                  exact fin_6 hs he h1 h2 h3 (h4 1 (by decide) (by decide)) (h5 74 (by decide) (by decide)) (h6 (by decide)) (h7 (by decide)) h8
                · skip
                  have e : n = 7 := by omega
                  subst e
                  exact fin_7 hs he h1 h2 h3 (h4 1 (by decide) (by decide)) (h5 74 (by decide) (by decide)) (h6 (by decide)) (h7 (by decide)) h8
              · skip
                have e : n = 8 := by omega
                subst e
                exact fin_8 hs he h1 h2 h3 (h4 1 (by decide) (by decide)) (h5 74 (by decide) (by decide)) (h6 (by decide)) (h7 (by decide)) h8
            · skip
              by_cases g9_11 : n ≤ 10
              · skip
                by_cases g9_10 : n ≤ 9
                · skip
                  have e : n = 9 := by omega
                  subst e
                  exact fin_9 hs he h1 h2 h3 (h4 1 (by decide) (by decide)) (h5 74 (by decide) (by decide)) (h6 (by decide)) (h7 (by decide)) h8
                · skip
                  have e : n = 10 := by omega
                  subst e
                  exact fin_10 hs he h1 h2 h3 (h4 1 (by decide) (by decide)) (h5 74 (by decide) (by decide)) (h6 (by decide)) (h7 (by decide)) h8
              · skip
                have e : n = 11 := by omega
                subst e
                exact fin_11 hs he h1 h2 h3 (h4 2 (by decide) (by decide)) (h5 74 (by decide) (by decide)) (h6 (by decide)) (h7 (by decide)) h8
        · skip
          by_cases g12_22 : n ≤ 17
          · skip
            by_cases g12_17 : n ≤ 14
            · skip
              by_cases g12_14 : n ≤ 13
              · skip
                by_cases g12_13 : n ≤ 12
                · skip
                  have e : n = 12 := by omega
                  subst e
                  exact fin_12 hs he h1 h2 h3 (h4 2 (by decide) (by decide)) (h5 74 (by decide) (by decide)) (h6 (by decide)) (h7 (by decide)) h8
                · skip
                  have e : n = 13 := by omega
                  subst e
                  exact fin_13 hs he h1 h2 h3 (h4 2 (by decide) (by decide)) (h5 74 (by decide) (by decide)) (h6 (by decide)) (h7 (by decide)) h8
              · skip
                have e : n = 14 := by omega
                subst e
                exact fin_14 hs he h1 h2 h3 (h4 2 (by decide) (by decide)) (h5 74 (by decide) (by decide)) (h6 (by decide)) (h7 (by decide)) h8
            · skip
              by_cases g15_17 : n ≤ 16
              · skip
                by_cases g15_16 : n ≤ 15
                · skip
                  have e : n = 15 := by omega
                  subst e
                  exact fin_15 hs he h1 h2 h3 (h4 2 (by decide) (by decide)) (h5 74 (by decide) (by decide)) (h6 (by decide)) (h7 (by decide)) h8
                · skip
                  have e : n = 16 := by omega
                  subst e
                  exact fin_16 hs he h1 h2 h3 (h4 3 (by decide) (by decide)) (h5 74 (by decide) (by decide)) (h6 (by decide)) (h7 (by decide)) h8
              · skip
                have e : n = 17 := by omega
                subst e
                exact fin_17 hs he h1 h2 h3 (h4 3 (by decide) (by decide)) (h5 74 (by decide) (by decide)) (h6 (by decide)) (h7 (by decide)) h8
          · skip
            by_cases g18_22 : n ≤ 20
            · skip
              by_cases g18_20 : n ≤ 19
              · skip
                by_cases g18_19 : n ≤ 18
                · skip
                  have e : n = 18 := by omega
                  subst e
                  exact fin_18 hs he h1 h2 h3 (h4 3 (by decide) (by decide)) (h5 74 (by decide) (by decide)) (h6 (by decide)) (h7 (by decide)) h8
                · skip
                  have e : n = 19 := by omega
                  subst e
                  exact fin_19 hs he h1 h2 h3 (h4 3 (by decide) (by decide)) (h5 74 (by decide) (by decide)) (h6 (by decide)) (h7 (by decide)) h8
              · skip
                have e : n = 20 := by omega
                subst e
                exact fin_20 hs he h1 h2 h3 (h4 3 (by decide) (by decide)) (h5 74 (by decide) (by decide)) (h6 (by decide)) (h7 (by decide)) h8
            · skip
              by_cases g21_22 : n ≤ 21
              · skip
                have e : n = 21 := by omega
                subst e
                exact fin_21 hs he h1 h2 h3 (h4 4 (by decide) (by decide)) (h5 74 (by decide) (by decide)) (h6 (by decide)) (h7 (by decide)) h8
              · skip
                have e : n = 22 := by omega
                subst e
                exact fin_22 hs he h1 h2 h3 (h4 4 (by decide) (by decide)) (h5 74 (by decide) (by decide)) (h6 (by decide)) (h7 (by decide)) h8
      · skip
        by_cases g23_44 : n ≤ 33
        · skip
          by_cases g23_33 : n ≤ 28
          · skip
            by_cases g23_28 : n ≤ 25
            · skip
              by_cases g23_25 : n ≤ 24
              · skip
                by_cases g23_24 : n ≤ 23
                · skip
                  have e : n = 23 := by omega
                  subst e
                  exact fin_23 hs he h1 h2 h3 (h4 4 (by decide) (by decide)) (h5 74 (by decide) (by decide)) (h6 (by decide)) (h7 (by decide)) h8
                · skip
                  have e : n = 24 := by omega
                  subst e
                  exact fin_24 hs he h1 h2 h3 (h4 4 (by decide) (by decide)) (h5 74 (by decide) (by decide)) (h6 (by decide)) (h7 (by decide)) h8
              · skip
                have e : n = 25 := by omega
                subst e
                exact fin_25 hs he h1 h2 h3 (h4 4 (by decide) (by decide)) (h5 74 (by decide) (by decide)) (h6 (by decide)) (h7 (by decide)) h8
            · skip
              by_cases g26_28 : n ≤ 27
              · skip
                by_cases g26_27 : n ≤ 26
                · skip
                  have e : n = 26 := by omega
                  subst e
                  exact fin_26 hs he h1 h2 h3 (h4 5 (by decide) (by decide)) (h5 74 (by decide) (by decide)) (h6 (by decide)) (h7 (by decide)) h8
                · skip
                  have e : n = 27 := by omega
                  subst e
                  exact fin_27 hs he h1 h2 h3 (h4 5 (by decide) (by decide)) (h5 74 (by decide) (by decide)) (h6 (by decide)) (h7 (by decide)) h8
              · skip
                have e : n = 28 := by omega
                subst e
                exact fin_28 hs he h1 h2 h3 (h4 5 (by decide) (by decide)) (h5 74 (by decide) (by decide)) (h6 (by decide)) (h7 (by decide)) h8
          · skip
            by_cases g29_33 : n ≤ 31
            · skip
              by_cases g29_31 : n ≤ 30
              · skip
                by_cases g29_30 : n ≤ 29
                · skip
                  have e : n = 29 := by omega
                  subst e
                  exact fin_29 hs he h1 h2 h3 (h4 5 (by decide) (by decide)) (h5 74 (by decide) (by decide)) (h6 (by decide)) (h7 (by decide)) h8
                · skip
                  have e : n = 30 := by omega
                  subst e
                  exact fin_30 hs he h1 h2 h3 (h4 5 (by decide) (by decide)) (h5 74 (by decide) (by decide)) (h6 (by decide)) (h7 (by decide)) h8
              · skip
                have e : n = 31 := by omega
                subst e
                exact fin_31 hs he h1 h2 h3 (h4 6 (by decide) (by decide)) (h5 74 (by decide) (by decide)) (h6 (by decide)) (h7 (by decide)) h8
            · skip
              by_cases g32_33 : n ≤ 32
              · skip
                have e : n = 32 := by omega
                subst e
                exact fin_32 hs he h1 h2 h3 (h4 6 (by decide) (by decide)) (h5 74 (by decide) (by decide)) (h6 (by decide)) (h7 (by decide)) h8
              · skip
                have e : n = 33 := by omega
                subst e
                exact fin_33 hs he h1 h2 h3 (h4 6 (by decide) (by decide)) (h5 74 (by decide) (by decide)) (h6 (by decide)) (h7 (by decide)) h8
        · skip
          by_cases g34_44 : n ≤ 39
          · skip
            by_cases g34_39 : n ≤ 36
            · skip
              by_cases g34_36 : n ≤ 35
              · skip
                by_cases g34_35 : n ≤ 34
                · skip
                  have e : n = 34 := by omega
                  subst e
                  exact fin_34 hs he h1 h2 h3 (h4 6 (by decide) (by decide)) (h5 74 (by decide) (by decide)) (h6 (by decide)) (h7 (by decide)) h8
                · skip
                  have e : n = 35 := by omega
                  subst e
                  exact fin_35 hs he h1 h2 h3 (h4 6 (by decide) (by decide)) (h5 74 (by decide) (by decide)) (h6 (by decide)) (h7 (by decide)) h8
              · skip
                have e : n = 36 := by omega
                subst e
                exact fin_36 hs he h1 h2 h3 (h4 7 (by decide) (by decide)) (h5 74 (by decide) (by decide)) (h6 (by decide)) (h7 (by decide)) h8
            · skip
              by_cases g37_39 : n ≤ 38
              · skip
                by_cases g37_38 : n ≤ 37
                · skip
                  have e : n = 37 := by omega
                  subst e
                  exact fin_37 hs he h1 h2 h3 (h4 7 (by decide) (by decide)) (h5 74 (by decide) (by decide)) (h6 (by decide)) (h7 (by decide)) h8
                · skip
                  have e : n = 38 := by omega
                  subst e
                  exact fin_38 hs he h1 h2 h3 (h4 7 (by decide) (by decide)) (h5 74 (by decide) (by decide)) (h6 (by decide)) (h7 (by decide)) h8
              · skip
                have e : n = 39 := by omega
                subst e
                exact fin_39 hs he h1 h2 h3 (h4 7 (by decide) (by decide)) (h5 74 (by decide) (by decide)) (h6 (by decide)) (h7 (by decide)) h8
          · skip
            by_cases g40_44 : n ≤ 42
            · skip
              by_cases g40_42 : n ≤ 41
              · skip
                by_cases g40_41 : n ≤ 40
                · skip
                  have e : n = 40 := by omega
                  subst e
                  exact fin_40 hs he h1 h2 h3 (h4 7 (by decide) (by decide)) (h5 74 (by decide) (by decide)) (h6 (by decide)) (h7 (by decide)) h8
                · skip
                  have e : n = 41 := by omega
                  subst e
                  exact fin_41 hs he h1 h2 h3 (h4 8 (by decide) (by decide)) (h5 74 (by decide) (by decide)) (h6 (by decide)) (h7 (by decide)) h8
              · skip
                have e : n = 42 := by omega
                subst e
                exact fin_42 hs he h1 h2 h3 (h4 8 (by decide) (by decide)) (h5 74 (by decide) (by decide)) (h6 (by decide)) (h7 (by decide)) h8
            · skip
              by_cases g43_44 : n ≤ 43
              · skip
                have e : n = 43 := by omega
                subst e
                exact fin_43 hs he h1 h2 h3 (h4 8 (by decide) (by decide)) (h5 74 (by decide) (by decide)) (h6 (by decide)) (h7 (by decide)) h8
              · skip
                have e : n = 44 := by omega
                subst e
                exact fin_44 hs he h1 h2 h3 (h4 8 (by decide) (by decide)) (h5 74 (by decide) (by decide)) (h6 (by decide)) (h7 (by decide)) h8
    · skip
      by_cases g45_88 : n ≤ 66
      · skip
        by_cases g45_66 : n ≤ 55
        · skip
          by_cases g45_55 : n ≤ 50
          · skip
            by_cases g45_50 : n ≤ 47
            · skip
              by_cases g45_47 : n ≤ 46
              · skip
                by_cases g45_46 : n ≤ 45
                · skip
                  have e : n = 45 := by omega
                  subst e
                  exact fin_45 hs he h1 h2 h3 (h4 8 (by decide) (by decide)) (h5 74 (by decide) (by decide)) (h6 (by decide)) (h7 (by decide)) h8
                · skip
                  have e : n = 46 := by omega
                  subst e
                  exact fin_46 hs he h1 h2 h3 (h4 9 (by decide) (by decide)) (h5 74 (by decide) (by decide)) (h6 (by decide)) (h7 (by decide)) h8
              · skip
                have e : n = 47 := by omega
                subst e
                exact fin_47 hs he h1 h2 h3 (h4 9 (by decide) (by decide)) (h5 74 (by decide) (by decide)) (h6 (by decide)) (h7 (by decide)) h8
            · skip
              by_cases g48_50 : n ≤ 49
              · skip
                by_cases g48_49 : n ≤ 48
                · skip
                  have e : n = 48 := by omega
                  subst e
                  exact fin_48 hs he h1 h2 h3 (h4 9 (by decide) (by decide)) (h5 74 (by decide) (by decide)) (h6 (by decide)) (h7 (by decide)) h8
                · skip
                  have e : n = 49 := by omega
                  subst e
                  exact fin_49 hs he h1 h2 h3 (h4 9 (by decide) (by decide)) (h5 74 (by decide) (by decide)) (h6 (by decide)) (h7 (by decide)) h8
              · skip
                have e : n = 50 := by omega
                subst e
                exact fin_50 hs he h1 h2 h3 (h4 9 (by decide) (by decide)) (h5 74 (by decide) (by decide)) (h6 (by decide)) (h7 (by decide)) h8
          · skip
            by_cases g51_55 : n ≤ 53
            · skip
              by_cases g51_53 : n ≤ 52
              · skip
                by_cases g51_52 : n ≤ 51
                · skip
                  have e : n = 51 := by omega
                  subst e
                  exact fin_51 hs he h1 h2 h3 (h4 10 (by decide) (by decide)) (h5 74 (by decide) (by decide)) (h6 (by decide)) (h7 (by decide)) h8
                · skip
                  have e : n = 52 := by omega
                  subst e
                  exact fin_52 hs he h1 h2 h3 (h4 10 (by decide) (by decide)) (h5 74 (by decide) (by decide)) (h6 (by decide)) (h7 (by decide)) h8
              · skip
                have e : n = 53 := by omega
                subst e
                exact fin_53 hs he h1 h2 h3 (h4 10 (by decide) (by decide)) (h5 74 (by decide) (by decide)) (h6 (by decide)) (h7 (by decide)) h8
            · skip
              by_cases g54_55 : n ≤ 54
              · skip
                have e : n = 54 := by omega
                subst e
                exact fin_54 hs he h1 h2 h3 (h4 10 (by decide) (by decide)) (h5 74 (by decide) (by decide)) (h6 (by decide)) (h7 (by decide)) h8
              · skip
                have e : n = 55 := by omega
                subst e
                exact fin_55 hs he h1 h2 h3 (h4 10 (by decide) (by decide)) (h5 74 (by decide) (by decide)) (h6 (by decide)) (h7 (by decide)) h8
        · skip
          by_cases g56_66 : n ≤ 61
          · skip
            by_cases g56_61 : n ≤ 58
            · skip
              by_cases g56_58 : n ≤ 57
              · skip
                by_cases g56_57 : n ≤ 56
                · skip
                  have e : n = 56 := by omega
                  subst e
                  exact fin_56 hs he h1 h2 h3 (h4 11 (by decide) (by decide)) (h5 74 (by decide) (by decide)) (h6 (by decide)) (h7 (by decide)) h8
                · skip
                  have e : n = 57 := by omega
                  subst e
                  exact fin_57 hs he h1 h2 h3 (h4 11 (by decide) (by decide)) (h5 74 (by decide) (by decide)) (h6 (by decide)) (h7 (by decide)) h8
              · skip
                have e : n = 58 := by omega
                subst e
                exact fin_58 hs he h1 h2 h3 (h4 11 (by decide) (by decide)) (h5 74 (by decide) (by decide)) (h6 (by decide)) (h7 (by decide)) h8
            · skip
              by_cases g59_61 : n ≤ 60
              · skip
                by_cases g59_60 : n ≤ 59
                · skip
                  have e : n = 59 := by omega
                  subst e
                  exact fin_59 hs he h1 h2 h3 (h4 11 (by decide) (by decide)) (h5 74 (by decide) (by decide)) (h6 (by decide)) (h7 (by decide)) h8
                · skip
                  have e : n = 60 := by omega
                  subst e
                  exact fin_60 hs he h1 h2 h3 (h4 11 (by decide) (by decide)) (h5 74 (by decide) (by decide)) (h6 (by decide)) (h7 (by decide)) h8
              · skip
                have e : n = 61 := by omega
                subst e
                exact fin_61 hs he h1 h2 h3 (h4 12 (by decide) (by decide)) (h5 74 (by decide) (by decide)) (h6 (by decide)) (h7 (by decide)) h8
          · skip
            by_cases g62_66 : n ≤ 64
            · skip
              by_cases g62_64 : n ≤ 63
              · skip
                by_cases g62_63 : n ≤ 62
                · skip
                  have e : n = 62 := by omega
                  subst e
                  exact fin_62 hs he h1 h2 h3 (h4 12 (by decide) (by decide)) (h5 74 (by decide) (by decide)) (h6 (by decide)) (h7 (by decide)) h8
                · skip
                  have e : n = 63 := by omega
                  subst e
                  exact fin_63 hs he h1 h2 h3 (h4 12 (by decide) (by decide)) (h5 74 (by decide) (by decide)) (h6 (by decide)) (h7 (by decide)) h8
              · skip
                have e : n = 64 := by omega
                subst e
                exact fin_64 hs he h1 h2 h3 (h4 12 (by decide) (by decide)) (h5 74 (by decide) (by decide)) (h6 (by decide)) (h7 (by decide)) h8
            · skip
              by_cases g65_66 : n ≤ 65
              · skip
                have e : n = 65 := by omega
                subst e
                exact fin_65 hs he h1 h2 h3 (h4 12 (by decide) (by decide)) (h5 74 (by decide) (by decide)) (h6 (by decide)) (h7 (by decide)) h8
              · skip
                have e : n = 66 := by omega
                subst e
                exact fin_66 hs he h1 h2 h3 (h4 13 (by decide) (by decide)) (h5 74 (by decide) (by decide)) (h6 (by decide)) (h7 (by decide)) h8
      · skip
        by_cases g67_88 : n ≤ 77
        · skip
          by_cases g67_77 : n ≤ 72
          · skip
            by_cases g67_72 : n ≤ 69
            · skip
              by_cases g67_69 : n ≤ 68
              · skip
                by_cases g67_68 : n ≤ 67
                · skip
                  have e : n = 67 := by omega
                  subst e
                  exact fin_67 hs he h1 h2 h3 (h4 13 (by decide) (by decide)) (h5 74 (by decide) (by decide)) (h6 (by decide)) (h7 (by decide)) h8
                · skip
                  have e : n = 68 := by omega
                  subst e
                  exact fin_68 hs he h1 h2 h3 (h4 13 (by decide) (by decide)) (h5 74 (by decide) (by decide)) (h6 (by decide)) (h7 (by decide)) h8
              · skip
                have e : n = 69 := by omega
                subst e
                exact fin_69 hs he h1 h2 h3 (h4 13 (by decide) (by decide)) (h5 74 (by decide) (by decide)) (h6 (by decide)) (h7 (by decide)) h8
            · skip
              by_cases g70_72 : n ≤ 71
              · skip
                by_cases g70_71 : n ≤ 70
                · skip
                  have e : n = 70 := by omega
                  subst e
                  exact fin_70 hs he h1 h2 h3 (h4 13 (by decide) (by decide)) (h5 74 (by decide) (by decide)) (h6 (by decide)) (h7 (by decide)) h8
                · skip
                  have e : n = 71 := by omega
                  subst e
                  exact fin_71 hs he h1 h2 h3 (h4 14 (by decide) (by decide)) (h5 74 (by decide) (by decide)) (h6 (by decide)) (h7 (by decide)) h8
              · skip
                have e : n = 72 := by omega
                subst e
                exact fin_72 hs he h1 h2 h3 (h4 14 (by decide) (by decide)) (h5 74 (by decide) (by decide)) (h6 (by decide)) (h7 (by decide)) h8
          · skip
            by_cases g73_77 : n ≤ 75
            · skip
              by_cases g73_75 : n ≤ 74
              · skip
                by_cases g73_74 : n ≤ 73
                · skip
                  have e : n = 73 := by omega
                  subst e
                  exact fin_73 hs he h1 h2 h3 (h4 14 (by decide) (by decide)) (h5 74 (by decide) (by decide)) (h6 (by decide)) (h7 (by decide)) h8
                · skip
                  have e : n = 74 := by omega
                  subst e
                  exact fin_74 hs he h1 h2 h3 (h4 14 (by decide) (by decide)) (h5 74 (by decide) (by decide)) (h6 (by decide)) (h7 (by decide)) h8
              · skip
                have e : n = 75 := by omega
                subst e
                exact fin_75 hs he h1 h2 h3 (h4 14 (by decide) (by decide)) (h5 75 (by decide) (by decide)) (h6 (by decide)) (h7 (by decide)) h8
            · skip
              by_cases g76_77 : n ≤ 76
              · skip
                have e : n = 76 := by omega
                subst e
                exact fin_76 hs he h1 h2 h3 (h4 15 (by decide) (by decide)) (h5 76 (by decide) (by decide)) (h6 (by decide)) (h7 (by decide)) h8
              · skip
                have e : n = 77 := by omega
                subst e
                exact fin_77 hs he h1 h2 h3 (h4 15 (by decide) (by decide)) (h5 77 (by decide) (by decide)) (h7 (by decide)) h8
        · skip
          by_cases g78_88 : n ≤ 83
          · skip
            by_cases g78_83 : n ≤ 80
            · skip
              by_cases g78_80 : n ≤ 79
              · skip
                by_cases g78_79 : n ≤ 78
                · skip
                  have e : n = 78 := by omega
                  subst e
                  exact fin_78 hs he h1 h2 h3 (h4 15 (by decide) (by decide)) (h5 78 (by decide) (by decide)) h8
                · skip
                  have e : n = 79 := by omega
                  subst e
                  exact fin_79 hs he h1 h2 h3 (h4 15 (by decide) (by decide)) (h5 79 (by decide) (by decide)) h8
              · skip
                have e : n = 80 := by omega
                subst e
                exact fin_80 hs he h1 h2 h3 (h4 15 (by decide) (by decide)) (h5 80 (by decide) (by decide)) h8
            · skip
              by_cases g81_83 : n ≤ 82
              · skip
                by_cases g81_82 : n ≤ 81
                · skip
                  have e : n = 81 := by omega
                  subst e
                  exact fin_81 hs he h1 h2 h3 (h4 16 (by decide) (by decide)) (h5 81 (by decide) (by decide)) h8
                · skip
                  have e : n = 82 := by omega
                  subst e
                  exact fin_82 hs he h1 h2 h3 (h4 16 (by decide) (by decide)) (h5 82 (by decide) (by decide)) h8
              · skip
                have e : n = 83 := by omega
                subst e
                exact fin_83 hs he h1 h2 h3 (h4 16 (by decide) (by decide)) (h5 83 (by decide) (by decide)) h8
          · skip
            by_cases g84_88 : n ≤ 86
            · skip
              by_cases g84_86 : n ≤ 85
              · skip
                by_cases g84_85 : n ≤ 84
                · skip
                  have e : n = 84 := by omega
                  subst e
                  exact fin_84 hs he h1 h2 h3 (h4 16 (by decide) (by decide)) (h5 84 (by decide) (by decide)) h8
                · skip
                  have e : n = 85 := by omega
                  subst e
                  exact fin_85 hs he h1 h2 h3 (h4 16 (by decide) (by decide)) (h5 85 (by decide) (by decide)) h8
              · skip
                have e : n = 86 := by omega
                subst e
                exact fin_86 hs he h1 h2 h3 (h4 17 (by decide) (by decide)) (h5 86 (by decide) (by decide)) h8
            · skip
              by_cases g87_88 : n ≤ 87
              · skip
                have e : n = 87 := by omega
                subst e
                exact fin_87 hs he h1 h2 h3 (h4 17 (by decide) (by decide)) (h5 87 (by decide) (by decide)) h8
              · skip
                have e : n = 88 := by omega
                subst e
                exact fin_88 hs he h1 h2 h3 (h4 17 (by decide) (by decide)) (h5 88 (by decide) (by decide)) h8
  · skip
    by_cases g89_177 : n ≤ 133
    · skip
      by_cases g89_133 : n ≤ 111
      · skip
        by_cases g89_111 : n ≤ 100
        · skip
          by_cases g89_100 : n ≤ 94
          · skip
            by_cases g89_94 : n ≤ 91
            · skip
              by_cases g89_91 : n ≤ 90
              · skip
                by_cases g89_90 : n ≤ 89
                · skip
                  have e : n = 89 := by omega
                  subst e
                  exact fin_89 hs he h1 h2 h3 (h4 17 (by decide) (by decide)) (h5 89 (by decide) (by decide)) h8
                · skip
                  have e : n = 90 := by omega
                  subst e
                  exact fin_90 hs he h1 h2 h3 (h4 17 (by decide) (by decide)) (h5 90 (by decide) (by decide)) h8
              · skip
                have e : n = 91 := by omega
                subst e
                exact fin_91 hs he h1 h2 h3 (h4 18 (by decide) (by decide)) (h5 91 (by decide) (by decide)) h8
            · skip
              by_cases g92_94 : n ≤ 93
              · skip
                by_cases g92_93 : n ≤ 92
                · skip
                  have e : n = 92 := by omega
                  subst e
                  exact fin_92 hs he h1 h2 h3 (h4 18 (by decide) (by decide)) (h5 92 (by decide) (by decide)) h8
                · skip
                  have e : n = 93 := by omega
                  subst e
                  exact fin_93 hs he h1 h2 h3 (h4 18 (by decide) (by decide)) (h5 93 (by decide) (by decide)) h8
              · skip
                have e : n = 94 := by omega
                subst e
                exact fin_94 hs he h1 h2 h3 (h4 18 (by decide) (by decide)) (h5 94 (by decide) (by decide)) h8
          · skip
            by_cases g95_100 : n ≤ 97
            · skip
              by_cases g95_97 : n ≤ 96
              · skip
                by_cases g95_96 : n ≤ 95
                · skip
                  have e : n = 95 := by omega
                  subst e
                  exact fin_95 hs he h1 h2 h3 (h4 18 (by decide) (by decide)) (h5 95 (by decide) (by decide)) h8
                · skip
                  have e : n = 96 := by omega
                  subst e
                  exact fin_96 hs he h1 h2 h3 (h4 19 (by decide) (by decide)) (h5 96 (by decide) (by decide)) h8
              · skip
                have e : n = 97 := by omega
                subst e
                exact fin_97 hs he h1 h2 h3 (h4 19 (by decide) (by decide)) (h5 97 (by decide) (by decide)) h8
            · skip
              by_cases g98_100 : n ≤ 99
              · skip
                by_cases g98_99 : n ≤ 98
                · skip
                  have e : n = 98 := by omega
                  subst e
                  exact fin_98 hs he h1 h2 h3 (h4 19 (by decide) (by decide)) (h5 98 (by decide) (by decide)) h8
                · skip
                  have e : n = 99 := by omega
                  subst e
                  exact fin_99 hs he h1 h2 h3 (h4 19 (by decide) (by decide)) (h5 99 (by decide) (by decide)) h8
              · skip
                have e : n = 100 := by omega
                subst e
                exact fin_100 hs he h1 h2 h3 (h4 19 (by decide) (by decide)) (h5 100 (by decide) (by decide)) h8
        · skip
          by_cases g101_111 : n ≤ 106
          · skip
            by_cases g101_106 : n ≤ 103
            · skip
              by_cases g101_103 : n ≤ 102
              · skip
                by_cases g101_102 : n ≤ 101
                · skip
                  have e : n = 101 := by omega
                  subst e
                  exact fin_101 hs he h1 h2 h3 (h4 20 (by decide) (by decide)) (h5 101 (by decide) (by decide)) h8
                · skip
                  have e : n = 102 := by omega
                  subst e
                  exact fin_102 hs he h1 h2 h3 (h4 20 (by decide) (by decide)) (h5 102 (by decide) (by decide)) h8
              · skip
                have e : n = 103 := by omega
                subst e
                exact fin_103 hs he h1 h2 h3 (h4 20 (by decide) (by decide)) (h5 103 (by decide) (by decide)) h8
            · skip
              by_cases g104_106 : n ≤ 105
              · skip
                by_cases g104_105 : n ≤ 104
                · skip
                  have e : n = 104 := by omega
                  subst e
                  exact fin_104 hs he h1 h2 h3 (h4 20 (by decide) (by decide)) (h5 104 (by decide) (by decide)) h8
                · skip
                  have e : n = 105 := by omega
                  subst e
                  exact fin_105 hs he h1 h2 h3 (h4 20 (by decide) (by decide)) (h5 105 (by decide) (by decide)) h8
              · skip
                have e : n = 106 := by omega
                subst e
                exact fin_106 hs he h1 h2 h3 (h4 21 (by decide) (by decide)) (h5 106 (by decide) (by decide)) h8
          · skip
            by_cases g107_111 : n ≤ 109
            · skip
              by_cases g107_109 : n ≤ 108
              · skip
                by_cases g107_108 : n ≤ 107
                · skip
                  have e : n = 107 := by omega
                  subst e
                  exact fin_107 hs he h1 h2 h3 (h4 21 (by decide) (by decide)) (h5 107 (by decide) (by decide)) h8
                · skip
                  have e : n = 108 := by omega
                  subst e
                  exact fin_108 hs he h1 h2 h3 (h4 21 (by decide) (by decide)) (h5 108 (by decide) (by decide)) h8
              · skip
                have e : n = 109 := by omega
                subst e
                exact fin_109 hs he h1 h2 h3 (h4 21 (by decide) (by decide)) (h5 109 (by decide) (by decide)) h8
            · skip
              by_cases g110_111 : n ≤ 110
              · skip
                have e : n = 110 := by omega
                subst e
                exact fin_110 hs he h1 h2 h3 (h4 21 (by decide) (by decide)) (h5 110 (by decide) (by decide)) h8
              · skip
                have e : n = 111 := by omega
                subst e
                exact fin_111 hs he h1 h2 h3 (h4 22 (by decide) (by decide)) (h5 111 (by decide) (by decide)) h8
      · skip
        by_cases g112_133 : n ≤ 122
        · skip
          by_cases g112_122 : n ≤ 117
          · skip
            by_cases g112_117 : n ≤ 114
            · skip
              by_cases g112_114 : n ≤ 113
              · skip
                by_cases g112_113 : n ≤ 112
                · skip
                  have e : n = 112 := by omega
                  subst e
                  exact fin_112 hs he h1 h2 h3 (h4 22 (by decide) (by decide)) (h5 112 (by decide) (by decide)) h8
                · skip
                  have e : n = 113 := by omega
                  subst e
                  exact fin_113 hs he h1 h2 h3 (h4 22 (by decide) (by decide)) (h5 113 (by decide) (by decide)) h8
              · skip
                have e : n = 114 := by omega
                subst e
                exact fin_114 hs he h1 h2 h3 (h4 22 (by decide) (by decide)) (h5 114 (by decide) (by decide)) h8
            · skip
              by_cases g115_117 : n ≤ 116
              · skip
                by_cases g115_116 : n ≤ 115
                · skip
                  have e : n = 115 := by omega
                  subst e
                  exact fin_115 hs he h1 h2 h3 (h4 22 (by decide) (by decide)) (h5 115 (by decide) (by decide)) h8
                · skip
                  have e : n = 116 := by omega
                  subst e
                  exact fin_116 hs he h1 h2 h3 (h4 23 (by decide) (by decide)) (h5 116 (by decide) (by decide)) h8
              · skip
                have e : n = 117 := by omega
                subst e
                exact fin_117 hs he h1 h2 h3 (h4 23 (by decide) (by decide)) (h5 117 (by decide) (by decide)) h8
          · skip
            by_cases g118_122 : n ≤ 120
            · skip
              by_cases g118_120 : n ≤ 119
              · skip
                by_cases g118_119 : n ≤ 118
                · skip
                  have e : n = 118 := by omega
                  subst e
                  exact fin_118 hs he h1 h2 h3 (h4 23 (by decide) (by decide)) (h5 118 (by decide) (by decide)) h8
                · skip
                  have e : n = 119 := by omega
                  subst e
                  exact fin_119 hs he h1 h2 h3 (h4 23 (by decide) (by decide)) (h5 119 (by decide) (by decide)) h8
              · skip
                have e : n = 120 := by omega
                subst e
                exact fin_120 hs he h1 h2 h3 (h4 23 (by decide) (by decide)) (h5 120 (by decide) (by decide)) h8
            · skip
              by_cases g121_122 : n ≤ 121
              · skip
                have e : n = 121 := by omega
                subst e
                exact fin_121 hs he h1 h2 h3 (h4 24 (by decide) (by decide)) (h5 121 (by decide) (by decide)) h8
              · skip
                have e : n = 122 := by omega
                subst e
                exact fin_122 hs he h1 h2 h3 (h4 24 (by decide) (by decide)) (h5 122 (by decide) (by decide)) h8
        · skip
          by_cases g123_133 : n ≤ 128
          · skip
            by_cases g123_128 : n ≤ 125
            · skip
              by_cases g123_125 : n ≤ 124
              · skip
                by_cases g123_124 : n ≤ 123
                · skip
                  have e : n = 123 := by omega
                  subst e
                  exact fin_123 hs he h1 h2 h3 (h4 24 (by decide) (by decide)) (h5 123 (by decide) (by decide)) h8
                · skip
                  have e : n = 124 := by omega
                  subst e
                  exact fin_124 hs he h1 h2 h3 (h4 24 (by decide) (by decide)) (h5 124 (by decide) (by decide)) h8
              · skip
                have e : n = 125 := by omega
                subst e
                exact fin_125 hs he h1 h2 h3 (h4 24 (by decide) (by decide)) (h5 125 (by decide) (by decide)) h8
            · skip
              by_cases g126_128 : n ≤ 127
              · skip
                by_cases g126_127 : n ≤ 126
                · skip
                  have e : n = 126 := by omega
                  subst e
                  exact fin_126 hs he h1 h2 h3 (h4 25 (by decide) (by decide)) (h5 126 (by decide) (by decide)) h8
                · skip
                  have e : n = 127 := by omega
                  subst e
                  exact fin_127 hs he h1 h2 h3 (h4 25 (by decide) (by decide)) (h5 127 (by decide) (by decide)) h8
              · skip
                have e : n = 128 := by omega
                subst e
                exact fin_128 hs he h1 h2 h3 (h4 25 (by decide) (by decide)) (h5 128 (by decide) (by decide)) h8
          · skip
            by_cases g129_133 : n ≤ 131
            · skip
              by_cases g129_131 : n ≤ 130
              · skip
                by_cases g129_130 : n ≤ 129
                · skip
                  have e : n = 129 := by omega
                  subst e
                  exact fin_129 hs he h1 h2 h3 (h4 25 (by decide) (by decide)) (h5 129 (by decide) (by decide)) h8
                · skip
                  have e : n = 130 := by omega
                  subst e
                  exact fin_130 hs he h1 h2 h3 (h4 25 (by decide) (by decide)) (h5 130 (by decide) (by decide)) h8
              · skip
                have e : n = 131 := by omega
                subst e
                exact fin_131 hs he h1 h2 h3 (h4 26 (by decide) (by decide)) (h5 131 (by decide) (by decide)) h8
            · skip
              by_cases g132_133 : n ≤ 132
              · skip
                have e : n = 132 := by omega
                subst e
                exact fin_132 hs he h1 h2 h3 (h4 26 (by decide) (by decide)) (h5 132 (by decide) (by decide)) h8
              · skip
                have e : n = 133 := by omega
                subst e
                exact fin_133 hs he h1 h2 h3 (h4 26 (by decide) (by decide)) (h5 133 (by decide) (by decide)) h8
    · skip
      by_cases g134_177 : n ≤ 155
      · skip
        by_cases g134_155 : n ≤ 144
        · skip
          by_cases g134_144 : n ≤ 139
          · skip
            by_cases g134_139 : n ≤ 136
            · skip
              by_cases g134_136 : n ≤ 135
              · skip
                by_cases g134_135 : n ≤ 134
                · skip
                  have e : n = 134 := by omega
                  subst e
                  exact fin_134 hs he h1 h2 h3 (h4 26 (by decide) (by decide)) (h5 134 (by decide) (by decide)) h8
                · skip
                  have e : n = 135 := by omega
                  subst e
                  exact fin_135 hs he h1 h2 h3 (h4 26 (by decide) (by decide)) (h5 135 (by decide) (by decide)) h8
              · skip
                have e : n = 136 := by omega
                subst e
                exact fin_136 hs he h1 h2 h3 (h4 27 (by decide) (by decide)) (h5 136 (by decide) (by decide)) h8
            · skip
              by_cases g137_139 : n ≤ 138
              · skip
                by_cases g137_138 : n ≤ 137
                · skip
                  have e : n = 137 := by omega
                  subst e
                  exact fin_137 hs he h1 h2 h3 (h4 27 (by decide) (by decide)) (h5 137 (by decide) (by decide)) h8
                · skip
                  have e : n = 138 := by omega
                  subst e
                  exact fin_138 hs he h1 h2 h3 (h4 27 (by decide) (by decide)) (h5 138 (by decide) (by decide)) h8
              · skip
                have e : n = 139 := by omega
                subst e
                exact fin_139 hs he h1 h2 h3 (h4 27 (by decide) (by decide)) (h5 139 (by decide) (by decide)) h8
          · skip
            by_cases g140_144 : n ≤ 142
            · skip
              by_cases g140_142 : n ≤ 141
              · skip
                by_cases g140_141 : n ≤ 140
                · skip
                  have e : n = 140 := by omega
                  subst e
                  exact fin_140 hs he h1 h2 h3 (h4 27 (by decide) (by decide)) (h5 140 (by decide) (by decide)) h8
                · skip
                  have e : n = 141 := by omega
                  subst e
                  exact fin_141 hs he h1 h2 h3 (h4 28 (by decide) (by decide)) (h5 141 (by decide) (by decide)) h8
              · skip
                have e : n = 142 := by omega
                subst e
                exact fin_142 hs he h1 h2 h3 (h4 28 (by decide) (by decide)) (h5 142 (by decide) (by decide)) h8
            · skip
              by_cases g143_144 : n ≤ 143
              · skip
                have e : n = 143 := by omega
                subst e
                exact fin_143 hs he h1 h2 h3 (h4 28 (by decide) (by decide)) (h5 143 (by decide) (by decide)) h8
              · skip
                have e : n = 144 := by omega
                subst e
                exact fin_144 hs he h1 h2 h3 (h4 28 (by decide) (by decide)) (h5 144 (by decide) (by decide)) h8
        · skip
          by_cases g145_155 : n ≤ 150
          · skip
            by_cases g145_150 : n ≤ 147
            · skip
              by_cases g145_147 : n ≤ 146
              · skip
                by_cases g145_146 : n ≤ 145
                · skip
                  have e : n = 145 := by omega
                  subst e
                  exact fin_145 hs he h1 h2 h3 (h4 28 (by decide) (by decide)) (h5 145 (by decide) (by decide)) h8
                · skip
                  have e : n = 146 := by omega
                  subst e
                  exact fin_146 hs he h1 h2 h3 (h4 29 (by decide) (by decide)) (h5 146 (by decide) (by decide)) h8
              · skip
                have e : n = 147 := by omega
                subst e
                exact fin_147 hs he h1 h2 h3 (h4 29 (by decide) (by decide)) (h5 147 (by decide) (by decide)) h8
            · skip
              by_cases g148_150 : n ≤ 149
              · skip
                by_cases g148_149 : n ≤ 148
                · skip
                  have e : n = 148 := by omega
                  subst e
                  exact fin_148 hs he h1 h2 h3 (h4 29 (by decide) (by decide)) (h5 148 (by decide) (by decide)) h8
                · skip
                  have e : n = 149 := by omega
                  subst e
                  exact fin_149 hs he h1 h2 h3 (h4 29 (by decide) (by decide)) (h5 149 (by decide) (by decide)) h8
              · skip
                have e : n = 150 := by omega
                subst e
                exact fin_150 hs he h1 h2 h3 (h4 29 (by decide) (by decide)) (h5 150 (by decide) (by decide)) h8
          · skip
            by_cases g151_155 : n ≤ 153
            · skip
              by_cases g151_153 : n ≤ 152
              · skip
                by_cases g151_152 : n ≤ 151
                · skip
                  have e : n = 151 := by omega
                  subst e
                  exact fin_151 hs he h1 h2 h3 (h4 30 (by decide) (by decide)) (h5 151 (by decide) (by decide)) h8
                · skip
                  have e : n = 152 := by omega
                  subst e
                  exact fin_152 hs he h1 h2 h3 (h4 30 (by decide) (by decide)) (h5 152 (by decide) (by decide)) h8
              · skip
                have e : n = 153 := by omega
                subst e
                exact fin_153 hs he h1 h2 h3 (h4 30 (by decide) (by decide)) (h5 153 (by decide) (by decide)) h8
            · skip
              by_cases g154_155 : n ≤ 154
              · skip
                have e : n = 154 := by omega
                subst e
                exact fin_154 hs he h1 h2 h3 (h4 30 (by decide) (by decide)) (h5 154 (by decide) (by decide)) h8
              · skip
                have e : n = 155 := by omega
                subst e
                exact fin_155 hs he h1 h2 h3 (h4 30 (by decide) (by decide)) (h5 155 (by decide) (by decide)) h8
      · skip
        by_cases g156_177 : n ≤ 166
        · skip
          by_cases g156_166 : n ≤ 161
          · skip
            by_cases g156_161 : n ≤ 158
            · skip
              by_cases g156_158 : n ≤ 157
              · skip
                by_cases g156_157 : n ≤ 156
                · skip
                  have e : n = 156 := by omega
                  subst e
                  exact fin_156 hs he h1 h2 h3 (h4 31 (by decide) (by decide)) (h5 156 (by decide) (by decide)) h8
                · skip
                  have e : n = 157 := by omega
                  subst e
                  exact fin_157 hs he h1 h2 h3 (h4 31 (by decide) (by decide)) (h5 157 (by decide) (by decide)) h8
              · skip
                have e : n = 158 := by omega
                subst e
                exact fin_158 hs he h1 h2 h3 (h4 31 (by decide) (by decide)) (h5 158 (by decide) (by decide)) h8
            · skip
              by_cases g159_161 : n ≤ 160
              · skip
                by_cases g159_160 : n ≤ 159
                · skip
                  have e : n = 159 := by omega
                  subst e
                  exact fin_159 hs he h1 h2 h3 (h4 31 (by decide) (by decide)) (h5 159 (by decide) (by decide)) h8
                · skip
                  have e : n = 160 := by omega
                  subst e
                  exact fin_160 hs he h1 h2 h3 (h4 31 (by decide) (by decide)) (h5 160 (by decide) (by decide)) h8
              · skip
                have e : n = 161 := by omega
                subst e
                exact fin_161 hs he h1 h2 h3 (h4 32 (by decide) (by decide)) (h5 161 (by decide) (by decide)) h8
          · skip
            by_cases g162_166 : n ≤ 164
            · skip
              by_cases g162_164 : n ≤ 163
              · skip
                by_cases g162_163 : n ≤ 162
                · skip
                  have e : n = 162 := by omega
                  subst e
                  exact fin_162 hs he h1 h2 h3 (h4 32 (by decide) (by decide)) (h5 162 (by decide) (by decide)) h8
                · skip
                  have e : n = 163 := by omega
                  subst e
                  exact fin_163 hs he h1 h2 h3 (h4 32 (by decide) (by decide)) (h5 163 (by decide) (by decide)) h8
              · skip
                have e : n = 164 := by omega
                subst e
                exact fin_164 hs he h1 h2 h3 (h4 32 (by decide) (by decide)) (h5 164 (by decide) (by decide)) h8
            · skip
              by_cases g165_166 : n ≤ 165
              · skip
                have e : n = 165 := by omega
                subst e
                exact fin_165 hs he h1 h2 h3 (h4 32 (by decide) (by decide)) (h5 165 (by decide) (by decide)) h8
              · skip
                have e : n = 166 := by omega
                subst e
                exact fin_166 hs he h1 h2 h3 (h4 33 (by decide) (by decide)) (h5 166 (by decide) (by decide)) h8
        · skip
          by_cases g167_177 : n ≤ 172
          · skip
            by_cases g167_172 : n ≤ 169
            · skip
              by_cases g167_169 : n ≤ 168
              · skip
                by_cases g167_168 : n ≤ 167
                · skip
                  have e : n = 167 := by omega
                  subst e
                  exact fin_167 hs he h1 h2 h3 (h4 33 (by decide) (by decide)) (h5 167 (by decide) (by decide)) h8
                · skip
                  have e : n = 168 := by omega
                  subst e
                  exact fin_168 hs he h1 h2 h3 (h4 33 (by decide) (by decide)) (h5 168 (by decide) (by decide)) h8
              · skip
                have e : n = 169 := by omega
                subst e
                exact fin_169 hs he h1 h2 h3 (h4 33 (by decide) (by decide)) (h5 169 (by decide) (by decide)) h8
            · skip
              by_cases g170_172 : n ≤ 171
              · skip
                by_cases g170_171 : n ≤ 170
                · skip
                  have e : n = 170 := by omega
                  subst e
                  exact fin_170 hs he h1 h2 h3 (h4 33 (by decide) (by decide)) (h5 170 (by decide) (by decide)) h8
                · skip
                  have e : n = 171 := by omega
                  subst e
                  exact fin_171 hs he h1 h2 h3 (h4 34 (by decide) (by decide)) (h5 171 (by decide) (by decide)) h8
              · skip
                have e : n = 172 := by omega
                subst e
                exact fin_172 hs he h1 h2 h3 (h4 34 (by decide) (by decide)) (h5 172 (by decide) (by decide)) h8
          · skip
            by_cases g173_177 : n ≤ 175
            · skip
              by_cases g173_175 : n ≤ 174
              · skip
                by_cases g173_174 : n ≤ 173
                · skip
                  have e : n = 173 := by omega
                  subst e
                  exact fin_173 hs he h1 h2 h3 (h4 34 (by decide) (by decide)) (h5 173 (by decide) (by decide)) h8
                · skip
                  have e : n = 174 := by omega
                  subst e
                  exact fin_174 hs he h1 h2 h3 (h4 34 (by decide) (by decide)) (h5 174 (by decide) (by decide)) h8
              · skip
                have e : n = 175 := by omega
                subst e
                exact fin_175 hs he h1 h2 h3 (h4 34 (by decide) (by decide)) (h5 175 (by decide) (by decide)) h8
            · skip
              by_cases g176_177 : n ≤ 176
              · skip
                have e : n = 176 := by omega
                subst e
                exact fin_176 hs he h1 h2 h3 (h4 35 (by decide) (by decide)) (h5 176 (by decide) (by decide)) h8
              · skip
                have e : n = 177 := by omega
                subst e
                exact fin_177 hs he h1 h2 h3 (h4 35 (by decide) (by decide)) (h5 177 (by decide) (by decide)) h8
