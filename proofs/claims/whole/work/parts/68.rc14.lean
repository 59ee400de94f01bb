/-! the store changes -/
theorem mi_o {M M' : q_S} (h : MI M) (hM : ∀ t j : Int, ((t = 2 ∨ t = 3 ∨ t = 5 ∨ t = 8) ∨ (t = 15 ∨ t = 17 ∨ t = 18) ∨ (t = 21 ∨ t = 22) ∨ (t = 50 ∧ (j = 0 ∨ j = 1 ∨ j = 10 ∨ j = 13 ∨ j = 16))) → M' t j = M t j) : MI M' := by
  have fl : ∀ f, latestOf M' f = latestOf M f := lat_eq (fun j => hM 17 j (by omega)) (fun j => hM 22 j (by omega)) (hM 50 16 (by decide))
  refine ⟨by rw [hM 50 0 (by decide)]; exact h.1, fun p a b => ?_, fun v a b => ?_, fun k a b => ?_⟩
  · rw [hM 3 p (by omega), hM 2 p (by omega), hM 5 p (by omega), hM 50 16 (by decide), hM 17 _ (by omega), hM 8 p (by omega), hM 50 10 (by decide)]
    exact h.2.1 p a b
  · rw [hM 50 16 (by decide)] at b
    rw [hM 21 v (by omega), hM 18 v (by omega), hM 50 1 (by decide), fl, hM 17 v (by omega)]
    exact h.2.2.1 v a b
  · rw [hM 50 13 (by decide)] at b
    rw [hM 15 k (by omega), hM 50 1 (by decide)]
    exact h.2.2.2 k a b
theorem rt_flag {M C M' C' : q_S} (h : RT M C) (a : ∀ j, M' 31 j = M 31 j) (b : C' 105 0 = C 105 0) (b6 : ∀ j, C' 126 j = C 126 j) (b7 : ∀ j, C' 127 j = C 127 j)
    (g : ∀ i, 0 ≤ i → i < C 105 0 → M' 32 (C 126 i) = C' 128 i ∧ M' 33 (C 126 i) = C' 129 i) (z : ∀ x, 0 ≤ x → x < 20000 → M 31 x = 0 → M' 32 x = 0 ∧ M' 33 x = 0) : RT M' C' := by
  refine ⟨by rw [b]; exact h.1, fun i x y => ?_, fun i j x y w => ?_, fun x y w e => ?_, fun x y w e => ?_⟩
  · rw [b] at y
    have k := rt_i h ⟨x, y⟩
    have k2 := g i x y
    rw [b6, b7, a]
    exact ⟨k.1, k.2.1, k.2.2.1, k2.1, k2.2⟩
  · rw [b] at w; rw [b6, b6]; exact h.2.2.1 i j x y w
  · rw [a] at e
    obtain ⟨i, hi, hp⟩ := h.2.2.2.1 x y w e
    exact ⟨i, ⟨hi.1, by rw [b]; exact hi.2⟩, by rw [b6]; exact hp⟩
  · rw [a] at e; exact z x y w e
theorem rt_add {M C M' C' : q_S} {x pk : Int} (h : RT M C) (hx : 0 ≤ x ∧ x < 20000) (h0 : M 31 x = 0) (hn : C 105 0 < 512) (hp : 1 ≤ pk)
    (a1 : ∀ j, M' 31 j = if j = x then pk else M 31 j) (a2 : ∀ j, M' 32 j = M 32 j) (a3 : ∀ j, M' 33 j = M 33 j)
    (b : C' 105 0 = C 105 0 + 1) (b6 : ∀ j, C' 126 j = if j = C 105 0 then x else C 126 j) (b7 : ∀ j, C' 127 j = if j = C 105 0 then pk - 1 else C 127 j) (b8 : ∀ j, C' 128 j = if j = C 105 0 then 0 else C 128 j) (b9 : ∀ j, C' 129 j = if j = C 105 0 then 0 else C 129 j) : RT M' C' := by
  have h1 := rt_n h
  have ne : ∀ i, 0 ≤ i → i < C 105 0 → C 126 i ≠ x := fun i u v e => by
    have := rt_i h ⟨u, v⟩
    rw [e, h0] at this; omega
  refine ⟨by rw [b]; omega, fun i u v => ?_, fun i j u v w => ?_, fun y u v e => ?_, fun y u v e => ?_⟩
  · rw [b] at v
    by_cases e : i = C 105 0
    · have z := h.2.2.2.2 x hx.1 hx.2 h0
      rw [b6, if_pos e, b7, if_pos e, b8, if_pos e, b9, if_pos e, a1, if_pos rfl, a2, a3, z.1, z.2]
      exact ⟨hx, by omega, by omega, rfl, rfl⟩
    · have k := rt_i h (i := i) ⟨u, by omega⟩
      rw [b6, if_neg e, b7, if_neg e, b8, if_neg e, b9, if_neg e, a1, if_neg (ne i u (by omega)), a2, a3]
      exact k
  · rw [b] at w
    rw [b6, b6, if_neg (show ¬ i = C 105 0 by omega)]
    by_cases e : j = C 105 0
    · rw [if_pos e]; exact ne i u (by omega)
    · rw [if_neg e]; exact h.2.2.1 i j u v (by omega)
  · rw [a1] at e
    by_cases e9 : y = x
    · exact ⟨C 105 0, ⟨h1.1, by rw [b]; omega⟩, by rw [b6, if_pos rfl, e9]⟩
    · rw [if_neg e9] at e
      obtain ⟨i, hi, hp9⟩ := h.2.2.2.1 y u v e
      exact ⟨i, ⟨hi.1, by rw [b]; have := hi.2; omega⟩, by rw [b6, if_neg (by have := hi.2; omega)]; exact hp9⟩
  · rw [a1] at e
    by_cases e9 : y = x
    · rw [if_pos e9] at e; omega
    · rw [if_neg e9] at e; rw [a2, a3]; exact h.2.2.2.2 y u v e
/-- the class adds a piece -/
def asC (C : q_S) (n x pk : Int) : q_S := q_us (q_us (q_us (q_us (q_us (q_us C 105 1 pk) 126 n x) 127 n (pk - 1)) 128 n 0) 129 n 0) 105 0 (n + 1)
theorem asC_ap (C : q_S) (n x pk t j : Int) : asC C n x pk t j = if t = 105 ∧ j = 0 then n + 1 else if t = 129 ∧ j = n then 0 else if t = 128 ∧ j = n then 0 else if t = 127 ∧ j = n then pk - 1 else if t = 126 ∧ j = n then x else if t = 105 ∧ j = 1 then pk else C t j := rfl
theorem rc_add {M C : q_S} {x u : Int} (h : RC M C) (hW : WR M) (hx : 0 ≤ x ∧ x < 20000) (h0 : M 31 x = 0) (hn : C 105 0 < 512) (hu : u = M 50 39) : RC (q_us (comesF M x) 50 39 u) (asC C (C 105 0) x (pkF M)) := by
  have h16 := rs_16 hW
  have h34 := rs_34 hW
  have hpk : 1 ≤ pkF M := by unfold pkF; split <;> omega
  have z := (rc_T h).2.2.2.2 x hx.1 hx.2 h0
  refine rc_fr_T h h16.1 (fun t j g => ?_) (fun t j g => ?_) ?_ (rt_add (rc_T h) hx h0 hn hpk (fun j => ?_) (fun j => ?_) (fun j => ?_) ?_ (fun j => ?_) (fun j => ?_) (fun j => ?_) (fun j => ?_))
  · simp only [q_us_ap, comesF_ap]
    rw [if_neg (by omega), if_neg (by omega), if_neg (by omega), if_neg (by omega), if_neg (by omega), if_neg (by omega)]
  · rw [asC_ap, if_neg (by omega), if_neg (by omega), if_neg (by omega), if_neg (by omega), if_neg (by omega), if_neg (by omega)]
  · have g := h.1
    unfold RS at g ⊢
    simp only [asC_ap, q_us_ap, comesF_ap, Int.reduceEq, false_and, true_and, and_false, and_true, and_self, if_false, if_true]
    omega
  · simp only [q_us_ap, comesF_ap, Int.reduceEq, false_and, true_and, if_false]
  · simp only [q_us_ap, comesF_ap, Int.reduceEq, false_and, true_and, if_false]
    by_cases e : j = x
    · rw [if_pos e, e, z.1]
    · rw [if_neg e]
  · simp only [q_us_ap, comesF_ap, Int.reduceEq, false_and, if_false]
  · simp only [asC_ap, and_self, if_true]
  · simp only [asC_ap, Int.reduceEq, false_and, true_and, if_false]
  · simp only [asC_ap, Int.reduceEq, false_and, true_and, if_false]
  · simp only [asC_ap, Int.reduceEq, false_and, true_and, if_false]
  · simp only [asC_ap, Int.reduceEq, false_and, true_and, if_false]
/-- changes point by point -/
def pwC (C : q_S) (t0 z : Int) (g : Int → Int) (k : Nat) : q_S := fun t i => if t = t0 ∧ (0 ≤ i ∧ i < k) ∧ ¬ g i = 0 then z else C t i
theorem pw_0 {C : q_S} {t0 z : Int} {g : Int → Int} : pwC C t0 z g 0 = C := funext fun t => funext fun i => if_neg (fun h => by have := h.2.1; omega)
theorem pw_o {C : q_S} {t0 z : Int} {g : Int → Int} {k : Nat} {t i : Int} (h : t ≠ t0 ∨ (k : Int) ≤ i) : pwC C t0 z g k t i = C t i := if_neg (fun e => by have := e.1; have := e.2.1.2; omega)
theorem pw_s1 {C : q_S} {t0 z : Int} {g : Int → Int} {k : Nat} (h : ¬ g k = 0) : q_us (pwC C t0 z g k) t0 k z = pwC C t0 z g (k + 1) := funext fun t => funext fun i => by
  show (if t = t0 ∧ i = k then z else if t = t0 ∧ (0 ≤ i ∧ i < k) ∧ ¬ g i = 0 then z else C t i) = if t = t0 ∧ (0 ≤ i ∧ i < ((k + 1 : Nat) : Int)) ∧ ¬ g i = 0 then z else C t i
  by_cases e : t = t0 ∧ i = k
  · rw [if_pos e, if_pos ⟨e.1, by omega, by rw [e.2]; exact h⟩]
  · rw [if_neg e]
    by_cases e2 : t = t0 ∧ (0 ≤ i ∧ i < k) ∧ ¬ g i = 0
    · rw [if_pos e2, if_pos ⟨e2.1, by omega, e2.2.2⟩]
    · rw [if_neg e2, if_neg (fun q => e2 ⟨q.1, by have := q.2.1; omega, q.2.2⟩)]
theorem pw_s0 {C : q_S} {t0 z : Int} {g : Int → Int} {k : Nat} (h : g k = 0) : pwC C t0 z g k = pwC C t0 z g (k + 1) := funext fun t => funext fun i => by
  show (if t = t0 ∧ (0 ≤ i ∧ i < k) ∧ ¬ g i = 0 then z else C t i) = if t = t0 ∧ (0 ≤ i ∧ i < ((k + 1 : Nat) : Int)) ∧ ¬ g i = 0 then z else C t i
  by_cases e2 : t = t0 ∧ (0 ≤ i ∧ i < k) ∧ ¬ g i = 0
  · rw [if_pos e2, if_pos ⟨e2.1, by omega, e2.2.2⟩]
  · rw [if_neg e2, if_neg (fun q => e2 ⟨q.1, by have := q.2.1; have h9 : i ≠ k := fun y => q.2.2 (by rw [y]; exact h); omega, q.2.2⟩)]
def dg (M : q_S) (q : Int) : Int → Int := fun x => if M 31 x = q ∧ M 32 x = 0 then 1 else 0
def dg' (C : q_S) (w : Int) : Int → Int := fun i => if C 127 i = w ∧ C 128 i = 0 then 1 else 0
def mdg (M : q_S) : Int → Int := fun x => if M 32 x = 1 ∧ M 33 x = 1 then 1 else 0
def mdg' (C : q_S) : Int → Int := fun i => if ¬ C 128 i = 0 ∧ ¬ C 129 i = 0 then 1 else 0
theorem daF_sp (M : q_S) (p : Int) : ∀ k : Nat, daF M p k = (sumF (dg M (p + 1)) k, pwC M 32 1 (dg M (p + 1)) k) := by
  intro k
  induction k with
  | zero => exact Prod.ext rfl pw_0.symm
  | succ k ih =>
    simp only [daF, sumF]
    rw [ih]
    simp only []
    rw [pw_o (Or.inl (by decide)), pw_o (Or.inr (Int.le_refl _))]
    by_cases e : M 31 k = p + 1 ∧ M 32 k = 0
    · have e1 : dg M (p + 1) k = 1 := if_pos e
      rw [if_pos e, pw_s1 (by rw [e1]; decide), e1]
    · have e1 : dg M (p + 1) k = 0 := if_neg e
      rw [if_neg e, pw_s0 e1, e1, Int.add_zero]
theorem srF_sp (M : q_S) : ∀ k : Nat, srF M k = (sumF (mdg M) k, pwC M 32 0 (mdg M) k) := by
  intro k
  induction k with
  | zero => exact Prod.ext rfl pw_0.symm
  | succ k ih =>
    simp only [srF, sumF]
    rw [ih]
    simp only []
    rw [pw_o (Or.inr (Int.le_refl _)), pw_o (Or.inl (by decide))]
    by_cases e : M 32 k = 1 ∧ M 33 k = 1
    · have e1 : mdg M k = 1 := if_pos e
      rw [if_pos e, pw_s1 (by rw [e1]; decide), e1]
    · have e1 : mdg M k = 0 := if_neg e
      rw [if_neg e, pw_s0 e1, e1, Int.add_zero]
theorem rc_flag {M C : q_S} {gM gC : Int → Int} {z : Int} (h : RC M C) (hW : WR M) (e : ∀ i, 0 ≤ i → i < C 105 0 → (gM (C 126 i) = 0 ↔ gC i = 0)) (e0 : ∀ x, 0 ≤ x → x < 20000 → M 31 x = 0 → gM x = 0) :
    RC (pwC M 32 z gM 20000) (pwC C 128 z gC (C 105 0).toNat) := by
  have hT := rc_T h
  have hn := rt_n hT
  refine rc_fr_T h (rs_16 hW).1 (fun t j g => pw_o (Or.inl (by omega))) (fun t j g => pw_o (Or.inl (by omega))) ?_ (rt_flag hT (fun j => pw_o (Or.inl (by decide))) (pw_o (Or.inl (by decide))) (fun j => pw_o (Or.inl (by decide))) (fun j => pw_o (Or.inl (by decide))) (fun i a b => ?_) (fun x a b w => ?_))
  · exact h.1
  · have k := rt_i hT ⟨a, b⟩
    refine ⟨?_, by rw [pw_o (Or.inl (by decide)), pw_o (Or.inl (by decide))]; exact k.2.2.2.2⟩
    show (if (32 : Int) = 32 ∧ (0 ≤ C 126 i ∧ C 126 i < ((20000 : Nat) : Int)) ∧ ¬ gM (C 126 i) = 0 then z else M 32 (C 126 i)) = if (128 : Int) = 128 ∧ (0 ≤ i ∧ i < ((C 105 0).toNat : Int)) ∧ ¬ gC i = 0 then z else C 128 i
    by_cases e9 : gC i = 0
    · rw [if_neg (fun q => q.2.2 ((e i a b).mpr e9)), if_neg (fun q => q.2.2 e9)]; exact k.2.2.2.1
    · rw [if_pos ⟨rfl, ⟨k.1.1, by have := k.1.2; omega⟩, fun q => e9 ((e i a b).mp q)⟩, if_pos ⟨rfl, by omega, e9⟩]
  · have k := hT.2.2.2.2 x a b w
    rw [show pwC M 32 z gM 20000 32 x = M 32 x from if_neg (fun q => q.2.2 (e0 x a b w)), pw_o (Or.inl (by decide))]
    exact k
theorem rc_damage {M C : q_S} (h : RC M C) (hW : WR M) {w : Int} (hw : 0 ≤ w) : RC (daF M w 20000).2 (pwC C 128 1 (dg' C w) (C 105 0).toNat) ∧ (daF M w 20000).1 = sumF (dg' C w) (C 105 0).toNat := by
  have hT := rc_T h
  have e1 : ∀ i, 0 ≤ i → i < C 105 0 → dg M (w + 1) (C 126 i) = dg' C w i := fun i a b => by
    have k := rt_i hT ⟨a, b⟩
    unfold dg dg'
    rw [k.2.1, k.2.2.2.1]
    by_cases x : C 127 i = w ∧ C 128 i = 0
    · rw [if_pos x, if_pos ⟨by omega, x.2⟩]
    · rw [if_neg x, if_neg (fun g => x ⟨by have := g.1; omega, g.2⟩)]
  have e0 : ∀ x, 0 ≤ x → x < 20000 → M 31 x = 0 → dg M (w + 1) x = 0 := fun x a b e => if_neg (fun g => by have := g.1; omega)
  rw [daF_sp]
  refine ⟨rc_flag h hW (fun i a b => by rw [e1 i a b]) e0, ?_⟩
  have e2 := rt_sum hT (dg M (w + 1)) e0
  have hn := rt_n hT
  rw [← sumF_congr (C 105 0).toNat (fun k a b => e1 k a (by omega))]
  exact e2.symm
theorem rc_mend {M C : q_S} (h : RC M C) (hW : WR M) : RC (srF M 20000).2 (pwC C 128 0 (mdg' C) (C 105 0).toNat) ∧ (srF M 20000).1 = sumF (mdg' C) (C 105 0).toNat := by
  have hT := rc_T h
  have e1 : ∀ i, 0 ≤ i → i < C 105 0 → mdg M (C 126 i) = mdg' C i := fun i a b => by
    have k := rt_i hT ⟨a, b⟩
    have w2 : 0 ≤ M 32 (C 126 i) ∧ M 32 (C 126 i) ≤ 1 := hW 32 _
    have w3 : 0 ≤ M 33 (C 126 i) ∧ M 33 (C 126 i) ≤ 1 := hW 33 _
    unfold mdg mdg'
    rw [← k.2.2.2.1, ← k.2.2.2.2]
    by_cases x : M 32 (C 126 i) = 1 ∧ M 33 (C 126 i) = 1
    · rw [if_pos x, if_pos ⟨by omega, by omega⟩]
    · rw [if_neg x, if_neg (fun g => x ⟨by have := g.1; omega, by have := g.2; omega⟩)]
  have e0 : ∀ x, 0 ≤ x → x < 20000 → M 31 x = 0 → mdg M x = 0 := fun x a b e => if_neg (fun g => by have := g.1; have := (hT.2.2.2.2 x a b e).1; omega)
  rw [srF_sp]
  refine ⟨rc_flag h hW (fun i a b => by rw [e1 i a b]) e0, ?_⟩
  have e2 := rt_sum hT (mdg M) e0
  have hn := rt_n hT
  rw [← sumF_congr (C 105 0).toNat (fun k a b => e1 k a (by omega))]
  exact e2.symm
/-- a piece comes to the second house -/
theorem rc_second {M C : q_S} (h : RC M C) (hW : WR M) {x : Int} (hx : 0 ≤ x ∧ x < 20000) (h1 : ¬ fi C x = -1) : RC (q_us M 33 x 1) (q_us C 129 (fi C x) 1) := by
  have hT := rc_T h
  have v := fi_v hT h1
  have f0 : ∀ t j : Int, t ≠ 33 → q_us M 33 x 1 t j = M t j := fun t j g => if_neg (fun e => g e.1)
  have f1 : ∀ t j : Int, t ≠ 129 → q_us C 129 (fi C x) 1 t j = C t j := fun t j g => if_neg (fun e => g e.1)
  refine rc_fr_T h (rs_16 hW).1 (fun t j g => f0 t j (by omega)) (fun t j g => f1 t j (by omega)) h.1 (rt_flag hT (fun j => f0 _ _ (by decide)) (f1 _ _ (by decide)) (fun j => f1 _ _ (by decide)) (fun j => f1 _ _ (by decide)) (fun i a b => ?_) (fun y a b w => ?_))
  · have k := rt_i hT ⟨a, b⟩
    rw [f0 _ _ (by decide), f1 _ _ (by decide)]
    refine ⟨k.2.2.2.1, ?_⟩
    simp only [q_us_ap, true_and]
    by_cases e : i = fi C x
    · rw [if_pos e, if_pos (by rw [e]; exact v.2.1)]
    · rw [if_neg e]
      rw [if_neg (fun g => ?_)]
      · exact k.2.2.2.2
      · have e8 : C 126 i = C 126 (fi C x) := g.trans v.2.1.symm
        rcases Int.lt_trichotomy i (fi C x) with q | q | q
        · exact hT.2.2.1 i (fi C x) a q v.1.2 e8
        · exact e q
        · exact hT.2.2.1 (fi C x) i v.1.1 q b e8.symm
  · have k := hT.2.2.2.2 y a b w
    rw [f0 _ _ (by decide)]
    refine ⟨k.1, ?_⟩
    simp only [q_us_ap, true_and]
    rw [if_neg (fun g => by rw [g, v.2.2.1] at w; have := v.2.2.2.1; omega)]
    exact k.2
theorem us_same (S : q_S) (t j : Int) : q_us S t j (S t j) = S := funext fun a => funext fun b => by
  show (if a = t ∧ b = j then S t j else S a b) = S a b
  by_cases e : a = t ∧ b = j
  · rw [if_pos e, e.1, e.2]
  · rw [if_neg e]
