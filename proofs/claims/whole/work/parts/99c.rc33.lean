/-! the bound on packs: the ghost state -/
theorem num_fin {P W z sz G c U dl A Wd s th u e G0 E0 E20 U0 c0 k : Int} (h : NUM P W z sz G c U dl A Wd s th u e G0 E0 E20 U0 c0 k) (h74 : U ≤ U0 + 74 * e) (hc : 1 ≤ c ∧ c ≤ 5) (hk : k ≤ 512) : G ≤ 1499 := by
  by_cases hG : G ≤ 1499
  · exact hG
  · exfalso
    have t := num_thin (c2 := c) (sz2 := sz) h h74 ⟨by omega, by omega, by omega⟩ ⟨by obtain ⟨h1, ⟨h2, h6, h7⟩, h3, h4⟩ := h; omega, by omega⟩
    obtain ⟨⟨h1, h5⟩, ⟨h2, h6, h7⟩, ⟨a1, a2, a3, a4⟩, h4⟩ := t
    generalize E0 + (if 1 ≤ e then 1 else 0) = E at *
    generalize E20 + (if 2 ≤ e then 1 else 0) = E2 at *
    have hP : ((P.toNat : Nat) : Int) = P := Int.toNat_of_nonneg h5.2.2.2
    have q2 : 0 ≤ p2 c := by unfold p2; split <;> decide
    have q3 : 0 ≤ p3 c := by unfold p3; split; decide; split <;> decide
    refine fin_all (n := P.toNat) (Wd := Wd) (A := A) (s := s) (E := E) (E2 := E2) (U := U) (G0 := G) (by omega) h5.1 h4.1 (by omega) (by omega) ?_ (fun q a b => ?_) (fun q a b => ?_) (fun a => ?_) (fun a => ?_) (by omega)
    · rw [hP]
      generalize P * s = T at *
      omega
    · have := a1 q a (by omega)
      generalize q * E = T at *
      omega
    · have := a2 q a (by omega)
      generalize (q - 74) * E2 = T at *
      omega
    · have := a3 (by omega)
      omega
    · have := a4 (by omega)
      omega
def nB (X : Int → Bool) : Int := sumF (fun x => if X x then 1 else 0) 20000
def wB (X : Int → Bool) : Int := sumF (fun x => if X x then wX x else 0) 20000
theorem nB_rg (X : Int → Bool) : 0 ≤ nB X := (sumF_01 (fun i => by split <;> omega) 20000).1
theorem nB_mono {X Y : Int → Bool} (h : ∀ x, 0 ≤ x → x < 20000 → X x = true → Y x = true) : nB X ≤ nB Y := sumF_le _ (fun k a b => by
  by_cases e : X k = true
  · rw [if_pos e, if_pos (h k a b e)]; exact Int.le_refl _
  · rw [if_neg e]; split <;> decide)
theorem nB_w (X : Int → Bool) : 2 * nB X - 20 ≤ wB X ∧ wB X ≤ 2 * nB X := by
  have h : nB X + nB X = wB X + sumF (fun x => if X x then 2 - wX x else 0) 20000 := by
    unfold nB wB
    rw [← sumF_add, ← sumF_add]
    exact sumF_congr _ (fun k a b => by split <;> omega)
  have h2 : sumF (fun x => if X x then 2 - wX x else 0) 20000 ≤ 20 := by
    have := sumF_le (f := fun x => if X x then 2 - wX x else 0) (g := fun x => 2 - wX x) 20000 (fun k a b => by have := wX_rg k; split <;> omega)
    rw [wX_tot] at this; exact this
  have h3 : 0 ≤ sumF (fun x => if X x then 2 - wX x else 0) 20000 := sumF_nn _ (fun k a b => by have := wX_rg k; split <;> omega)
  omega
/-- one more -/
def ins (X : Int → Bool) (x : Int) : Int → Bool := fun y => X y || decide (y = x)
theorem ins_t {X : Int → Bool} {x y : Int} : ins X x y = true ↔ (X y = true ∨ y = x) := by unfold ins; simp
theorem nB_ins {X : Int → Bool} {x : Int} (hx : 0 ≤ x ∧ x < 20000) : nB (ins X x) = nB X + (if X x then 0 else 1) := by
  unfold nB
  rw [sumF_pt (f := fun y => if ins X x y then (1 : Int) else 0) (g := fun y => if X y then (1 : Int) else 0) hx.1 (fun k hk => by
    by_cases e : X k = true
    · rw [if_pos e, if_pos (ins_t.mpr (Or.inl e))]
    · rw [if_neg e, if_neg (fun g => e ((ins_t.mp g).resolve_right hk))]) 20000, if_pos (show x < ((20000 : Nat) : Int) from hx.2), if_pos (ins_t.mpr (Or.inr rfl))]
  split <;> omega
theorem wB_ins {X : Int → Bool} {x : Int} (hx : 0 ≤ x ∧ x < 20000) : wB (ins X x) = wB X + (if X x then 0 else wX x) := by
  unfold wB
  rw [sumF_pt (f := fun y => if ins X x y then wX y else 0) (g := fun y => if X y then wX y else 0) hx.1 (fun k hk => by
    by_cases e : X k = true
    · rw [if_pos e, if_pos (ins_t.mpr (Or.inl e))]
    · rw [if_neg e, if_neg (fun g => e ((ins_t.mp g).resolve_right hk))]) 20000, if_pos (show x < ((20000 : Nat) : Int) from hx.2), if_pos (ins_t.mpr (Or.inr rfl))]
  split <;> omega
def addC (X : Int → Bool) (c : Int) : Nat → Int → Bool
  | 0 => X
  | n + 1 => ins (addC X c n) (pce c n)
theorem addC_ok (X : Int → Bool) (c : Int) : ∀ n : Nat, (nB X ≤ nB (addC X c n) ∧ nB (addC X c n) ≤ nB X + n) ∧ wB (addC X c n) ≤ wB X + sumF (fun i => wX (pce c i)) n ∧ (∀ x, X x = true → addC X c n x = true) ∧ ∀ i : Int, 0 ≤ i → i < n → addC X c n (pce c i) = true := by
  intro n
  induction n with
  | zero => exact ⟨⟨Int.le_refl _, by show nB X ≤ nB X + ((0 : Nat) : Int); omega⟩, by show wB X ≤ wB X + 0; omega, fun x h => h, fun i a b => by omega⟩
  | succ n ih =>
    have r := pce_rg c n
    have e1 := nB_ins (X := addC X c n) (x := pce c n) ⟨r.1, by omega⟩
    have e2 := wB_ins (X := addC X c n) (x := pce c n) ⟨r.1, by omega⟩
    have w := wX_rg (pce c n)
    have es : sumF (fun i => wX (pce c i)) (n + 1) = sumF (fun i => wX (pce c i)) n + wX (pce c n) := rfl
    have ea : addC X c (n + 1) = ins (addC X c n) (pce c n) := rfl
    rw [ea, es, e1, e2]
    refine ⟨by split <;> omega, by split <;> omega, fun x h => ins_t.mpr (Or.inl (ih.2.2.1 x h)), fun i a b => ?_⟩
    by_cases e : i = n
    · rw [e]; exact ins_t.mpr (Or.inr rfl)
    · exact ins_t.mpr (Or.inl (ih.2.2.2 i a (by omega)))
/-- what is covered -/
def inC (X : Int → Bool) (c : Int) : Prop := ∀ i, 0 ≤ i → i < ncut c → X (pce c i) = true
theorem inC_0 (X : Int → Bool) : inC X 0 := fun i a b => by
  have h := ncut_rg 0
  rw [mlen_0] at h
  omega
def covX (X : Int → Bool) (M : q_S) : Prop := (∀ p, 0 ≤ p → p < 48 → inC X (M 3 p)) ∧ (∀ v, 0 ≤ v → v < M 50 16 → inC X (M 21 v)) ∧ ∀ x, 0 ≤ x → x < 20000 → ¬ M 31 x = 0 → X x = true
def zcov (Z : Int → Bool) (M : q_S) : Prop := ∀ p, 0 ≤ p → p < 48 → 0 < M 8 p → M 2 p = 2 → ∀ i, 0 ≤ i → i < ncut (M 3 p) → M 31 (pce (M 3 p) i) = 0 → Z (pce (M 3 p) i) = true
def gP (M : q_S) : Int := if M 50 34 = 0 then 0 else M 50 34 - 1
def cP (M : q_S) : Int := if M 50 34 = 0 then 0 else M 35 (M 50 34 - 1)
def GI (M : q_S) (k : Int) : Prop := ∃ (X Z : Int → Bool) (A Wd s th u e G0 E0 E20 U0 c0 : Int), (covX X M ∧ zcov Z M) ∧ NUM (nB X) (wB X) (nB Z) (szF M) (gP M) (cP M) (M 50 39) (mlen (M 50 0)) A Wd s th u e G0 E0 E20 U0 c0 k ∧ M 50 39 ≤ U0 + 74 * e
theorem covX_o {X : Int → Bool} {M M' : q_S} (h : covX X M) (h3 : ∀ p, M' 3 p = M 3 p) (h21 : ∀ v, M' 21 v = M 21 v) (h16 : M' 50 16 = M 50 16) (h31 : ∀ x, M' 31 x = M 31 x) : covX X M' :=
  ⟨fun p a b => by rw [h3]; exact h.1 p a b, fun v a b => by rw [h21]; exact h.2.1 v a (by rw [← h16]; exact b), fun x a b => by rw [h31]; exact h.2.2 x a b⟩
theorem zcov_o {Z : Int → Bool} {M M' : q_S} (h : zcov Z M) (h8 : ∀ p, M' 8 p = M 8 p) (h2 : ∀ p, M' 2 p = M 2 p) (h3 : ∀ p, M' 3 p = M 3 p) (h31 : ∀ x, M' 31 x = M 31 x) : zcov Z M' := fun p a b => by
  rw [h8, h2, h3]
  intro c d i e f
  rw [h31]
  exact h p a b c d i e f
theorem zcov_X {X : Int → Bool} {M : q_S} (h : covX X M) : zcov X M := fun p a b _ _ i e f _ => h.1 p a b i e f
/-- calls that leave the store alone -/
theorem gi_n {M M' : q_S} {k : Int} (h : GI M k) (hX : ∀ X, covX X M → covX X M') (hZ : ∀ X Z, covX X M → zcov Z M → zcov Z M') (h31 : ∀ x, M' 31 x = M 31 x) (h35 : ∀ x, M' 35 x = M 35 x) (h34 : M' 50 34 = M 50 34) (h39 : M' 50 39 = M 50 39) (h0 : M' 50 0 = M 50 0) : GI M' (k + 1) := by
  obtain ⟨X, Z, A, Wd, s, th, u, e, G0, E0, E20, U0, c0, ⟨a, b⟩, d, f⟩ := h
  have eg : gP M' = gP M := by unfold gP; rw [h34]
  have ec : cP M' = cP M := by unfold cP; rw [h34, h35]
  refine ⟨X, Z, A, Wd, s, th, u, e, G0, E0, E20, U0, c0, ⟨hX X a, hZ X Z a b⟩, ?_, by rw [h39]; exact f⟩
  rw [sz_o h31, eg, ec, h39, h0]
  exact num_id d
theorem gi_s {M M' : q_S} {k : Int} (h : GI M k) (hX : ∀ X, covX X M → covX X M') (h31 : ∀ x, M' 31 x = M 31 x) (h35 : ∀ x, M' 35 x = M 35 x) (h34 : M' 50 34 = M 50 34) (h39 : M' 50 39 = M 50 39) (h0 : M' 50 0 = M 50 0) : GI M' (k + 1) := by
  obtain ⟨X, Z, A, Wd, s, th, u, e, G0, E0, E20, U0, c0, ⟨a, b⟩, d, f⟩ := h
  have eg : gP M' = gP M := by unfold gP; rw [h34]
  have ec : cP M' = cP M := by unfold cP; rw [h34, h35]
  refine ⟨X, X, A, Wd, s + 1, th, u, e, G0, E0, E20, U0, c0, ⟨hX X a, zcov_X (hX X a)⟩, ?_, by rw [h39]; exact f⟩
  rw [sz_o h31, eg, ec, h39, h0]
  exact num_s d
theorem gi_o {M M' : q_S} {k : Int} (h : GI M k) (hM : ∀ t j : Int, ((t = 2 ∨ t = 3 ∨ t = 8) ∨ (t = 21 ∨ t = 31 ∨ t = 35) ∨ t = 50 ∧ (j = 0 ∨ j = 16 ∨ j = 34 ∨ j = 39)) → M' t j = M t j) : GI M' (k + 1) :=
  gi_n h (fun X a => covX_o a (fun p => hM 3 p (by omega)) (fun p => hM 21 p (by omega)) (hM 50 16 (by omega)) (fun x => hM 31 x (by omega))) (fun X Z _ b => zcov_o b (fun p => hM 8 p (by omega)) (fun p => hM 2 p (by omega)) (fun p => hM 3 p (by omega)) (fun x => hM 31 x (by omega))) (fun x => hM 31 x (by omega)) (fun x => hM 35 x (by omega)) (hM 50 34 (by omega)) (hM 50 39 (by omega)) (hM 50 0 (by omega))
theorem gi_thr {M : q_S} {k : Int} (h : GI M k) (z : Int) : GI (thr M z) (k + 1) := gi_o h (fun t j g => us_nn (by omega))
