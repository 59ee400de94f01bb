/-! the bound on packs: one piece comes -/
def stB (M : q_S) : Int → Bool := fun x => decide (¬ M 31 x = 0)
def stW (M : q_S) : Int := wB (stB M)
theorem sz_nB (M : q_S) : szF M = nB (stB M) := sumF_congr _ (fun x a b => by
  unfold stB
  by_cases e : M 31 x = 0
  · rw [if_pos e, if_neg (by simp [e])]
  · rw [if_neg e, if_pos (by simp [e])])
theorem st_20 (M : q_S) : 2 * szF M - 20 ≤ stW M ∧ stW M ≤ 2 * szF M := by rw [sz_nB]; exact nB_w _
theorem st_o {A B : q_S} (h : ∀ x, A 31 x = B 31 x) : stW A = stW B := sumF_congr _ (fun x a b => by unfold stB; rw [h])
def del (Z : Int → Bool) (x : Int) : Int → Bool := fun y => Z y && !decide (y = x)
theorem del_t {Z : Int → Bool} {x y : Int} : del Z x y = true ↔ (Z y = true ∧ y ≠ x) := by unfold del; simp
theorem nB_del {Z : Int → Bool} {x : Int} (hx : 0 ≤ x ∧ x < 20000) (hz : Z x = true) : nB (del Z x) = nB Z - 1 := by
  unfold nB
  rw [sumF_pt (f := fun y => if del Z x y then (1 : Int) else 0) (g := fun y => if Z y then (1 : Int) else 0) hx.1 (fun k hk => by
    by_cases e : Z k = true
    · rw [if_pos e, if_pos (del_t.mpr ⟨e, hk⟩)]
    · rw [if_neg e, if_neg (fun g => e (del_t.mp g).1)]) 20000, if_pos (show x < ((20000 : Nat) : Int) from hx.2), if_pos hz, if_neg (fun g => (del_t.mp g).2 rfl)]
  omega
theorem nB_1 {Z : Int → Bool} {x : Int} (hx : 0 ≤ x ∧ x < 20000) (hz : Z x = true) : 1 ≤ nB Z := by
  have := nB_del hx hz
  have := nB_rg (del Z x)
  omega
/-- the store with one more -/
theorem st_ins {M : q_S} {x : Int} (h34 : 0 ≤ M 50 34) (hx : 0 ≤ x ∧ x < 20000) (h0 : M 31 x = 0) : (∀ y, 0 ≤ y → y < 20000 → stB (comesF M x) y = ins (stB M) x y) ∧ szF (comesF M x) = szF M + 1 ∧ stW (comesF M x) = stW M + wX x := by
  have g := pkF_ge M
  have hpk : ¬ pkF M = 0 := by unfold pkF; split <;> omega
  have e : ∀ y, stB (comesF M x) y = ins (stB M) x y := fun y => by
    have e31 : comesF M x 31 y = if y = x then pkF M else M 31 y := by rw [comesF_ap]; simp only [Int.reduceEq, false_and, true_and, if_false]
    unfold ins stB
    rw [e31]
    by_cases ey : y = x
    · rw [if_pos ey]; simp [ey, hpk]
    · rw [if_neg ey]; simp [ey]
  have e2 : stB (comesF M x) = ins (stB M) x := funext e
  have hx0 : ¬ stB M x = true := by unfold stB; simp [h0]
  refine ⟨fun y _ _ => e y, ?_, ?_⟩
  · rw [sz_nB, sz_nB, e2, nB_ins hx, if_neg hx0]
  · unfold stW; rw [e2, wB_ins hx, if_neg hx0]
/-- what holds within a call; the numbers stand for the whole call -/
def UN (X : Int → Bool) (A Wd s th u e G0 E0 E20 U0 c0 k : Int) (S : q_S) : Prop := covX X S ∧ ∃ Z, zcov Z S ∧ NUM (nB X) (wB X) (nB Z) (szF S) (gP S) (cP S) (S 50 39) (mlen (S 50 0)) A Wd s th u e G0 E0 E20 U0 c0 k
section UNS
variable {X : Int → Bool} {A Wd s th u e G0 E0 E20 U0 c0 k : Int}
theorem un_sz {S : q_S} (h : covX X S) : szF S ≤ nB X := by
  rw [sz_nB]
  exact nB_mono (fun x a b g => h.2.2 x a b (by unfold stB at g; simpa using g))
theorem cp_come {S : q_S} (hW : WR S) (hP : PMI S) (x : Int) : ((gP (comesF S x) = gP S ∧ cP (comesF S x) = cP S + 1) ∨ (gP (comesF S x) = gP S + 1 ∧ cP (comesF S x) = 1 ∧ cP S = 5)) ∧ (1 ≤ cP (comesF S x) ∧ cP (comesF S x) ≤ 5) ∧ gP (comesF S x) = pkF S - 1 := by
  have g34 := rs_34 hW
  have gp := pkF_ge S
  have fr := hP.fresh hW
  have g35 : 0 ≤ S 35 (S 50 34 - 1) ∧ S 35 (S 50 34 - 1) ≤ 5 := hW 35 _
  have e34 : comesF S x 50 34 = pkF S := by rw [comesF_ap]; simp only [Int.reduceEq, false_and, and_false, and_self, if_false, if_true]
  have e35 : comesF S x 35 (pkF S - 1) = S 35 (pkF S - 1) + 1 := by rw [comesF_ap]; simp only [Int.reduceEq, false_and, and_self, if_false, if_true]
  have hpk : ¬ pkF S = 0 := by unfold pkF; split <;> omega
  have eg : gP (comesF S x) = pkF S - 1 := by unfold gP; rw [e34, if_neg hpk]
  have ec : cP (comesF S x) = S 35 (pkF S - 1) + 1 := by unfold cP; rw [e34, if_neg hpk, e35]
  rw [eg, ec]
  unfold gP cP
  by_cases e0 : S 50 34 = 0
  · have ep : pkF S = 1 := by unfold pkF; rw [if_pos (Or.inl e0)]; omega
    rw [e0] at fr
    rw [if_pos e0, if_pos e0, ep, show (1 : Int) - 1 = 0 by decide, fr]
    exact ⟨Or.inl ⟨rfl, rfl⟩, by decide, rfl⟩
  · rw [if_neg e0, if_neg e0]
    by_cases e5 : 5 ≤ S 35 (S 50 34 - 1)
    · have ep : pkF S = S 50 34 + 1 := by unfold pkF; rw [if_pos (Or.inr e5)]
      rw [ep, show S 50 34 + 1 - 1 = S 50 34 by omega, fr]
      exact ⟨Or.inr ⟨by omega, by omega, by omega⟩, by decide, rfl⟩
    · have ep : pkF S = S 50 34 := by unfold pkF; rw [if_neg (by omega)]
      rw [ep]
      exact ⟨Or.inl ⟨rfl, rfl⟩, by omega, rfl⟩
theorem come_ok {S : q_S} {x p i : Int} (h : UN X A Wd s th u e G0 E0 E20 U0 c0 k S) (hW : WR S) (hP : PMI S) (hk : k ≤ 512) (h0 : S 31 x = 0) (hp : 0 ≤ p ∧ p < 48) (h8 : 0 < S 8 p) (h2 : S 2 p = 2) (hi : 0 ≤ i ∧ i < ncut (S 3 p)) (hx : x = pce (S 3 p) i)
    (h39 : S 50 39 ≤ 999999) (h74 : S 50 39 + 1 ≤ U0 + 74 * e) : pkF S ≤ 1500 ∧ UN X A Wd s th u e G0 E0 E20 U0 c0 k (comesF S x) ∧ WR (comesF S x) ∧ PMI (comesF S x) := by
  obtain ⟨a, Z, b, d⟩ := h
  have r := pce_rg (S 3 p) i
  have hx1 : 0 ≤ x ∧ x < 20000 := by rw [hx]; omega
  have g34 := rs_34 hW
  have gp := pkF_ge S
  have hpk : ¬ pkF S = 0 := by unfold pkF; split <;> omega
  have zx : Z x = true := by rw [hx]; rw [hx] at h0; exact b p hp.1 hp.2 h8 h2 i hi.1 hi.2 h0
  have xx : X x = true := by rw [hx]; exact a.1 p hp.1 hp.2 i hi.1 hi.2
  have st := st_ins g34.1 hx1 h0
  have fo : ∀ t j : Int, ¬ (t = 31 ∨ t = 32 ∨ t = 35 ∨ t = 50 ∧ (j = 34 ∨ j = 39)) → comesF S x t j = S t j := fun t j g => by
    rw [comesF_ap, if_neg (by omega), if_neg (by omega), if_neg (by omega), if_neg (by omega), if_neg (by omega)]
  have e31 : ∀ y, comesF S x 31 y = if y = x then pkF S else S 31 y := fun y => by rw [comesF_ap]; simp only [Int.reduceEq, false_and, true_and, if_false]
  have e39 : comesF S x 50 39 = S 50 39 + 1 := by rw [comesF_ap]; simp only [and_self, if_true]
  have cp := cp_come hW hP x
  have ca : covX X (comesF S x) := ⟨fun q y z => by rw [fo 3 q (by omega)]; exact a.1 q y z, fun v y z => by rw [fo 21 v (by omega)]; rw [fo 50 16 (by omega)] at z; exact a.2.1 v y z, fun y g1 g2 g3 => by
    rw [e31] at g3
    by_cases ey : y = x
    · rw [ey]; exact xx
    · rw [if_neg ey] at g3; exact a.2.2 y g1 g2 g3⟩
  have zb : zcov (del Z x) (comesF S x) := fun q y z => by
    rw [fo 3 q (by omega), fo 8 q (by omega), fo 2 q (by omega)]
    intro g1 g2 j g3 g4 g5
    rw [e31] at g5
    by_cases ey : pce (S 3 q) j = x
    · rw [if_pos ey] at g5; exact absurd g5 hpk
    · rw [if_neg ey] at g5; exact del_t.mpr ⟨b q y z g1 g2 j g3 g4 g5, ey⟩
  have n1 := un_sz ca
  rw [st.2.1] at n1
  have n := num_come d cp.1 (nB_1 hx1 zx) n1
  have f := num_fin n (by omega) cp.2.1 hk
  have p1 : pkF S ≤ 1500 := by have := cp.2.2; omega
  refine ⟨p1, ⟨ca, del Z x, zb, ?_⟩, hW.comes hP hx1 p1 h39, hP.comes hW hx1 h0⟩
  rw [nB_del hx1 zx, st.2.1, e39, fo 50 0 (by omega)]
  exact n
end UNS
