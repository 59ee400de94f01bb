/-! thinning, following, pulling, restoring a folder: pure -/
theorem ls_foll (M : q_S) (v : Nat) (h : M 22 v = 0) : ∀ d : Nat, lsF M (M 17 v) (M 18 v / 24) (v + 1 + d) = v ↔ follI M v d = 0 := by
  intro d
  induction d with
  | zero =>
    show (if M 17 v = M 17 v ∧ M 22 v = 0 ∧ M 18 v / 24 = M 18 v / 24 then (v : Int) else lsF M (M 17 v) (M 18 v / 24) v) = v ↔ (0 : Int) = 0
    rw [if_pos ⟨rfl, h, rfl⟩]
    exact ⟨fun _ => rfl, fun _ => rfl⟩
  | succ d ih =>
    show (if M 17 ((v + 1 + d : Nat) : Int) = M 17 v ∧ M 22 ((v + 1 + d : Nat) : Int) = 0 ∧ M 18 ((v + 1 + d : Nat) : Int) / 24 = M 18 v / 24 then ((v + 1 + d : Nat) : Int) else lsF M (M 17 v) (M 18 v / 24) (v + 1 + d)) = v ↔ follI M v (d + 1) = 0
    simp only [follI]
    rw [show ((v + 1 + d : Nat) : Int) = (v : Int) + 1 + d by omega]
    by_cases e : M 17 ((v : Int) + 1 + d) = M 17 v ∧ M 22 ((v : Int) + 1 + d) = 0 ∧ M 18 ((v : Int) + 1 + d) / 24 = M 18 v / 24
    · rw [if_pos e, if_pos (Or.inr e)]
      constructor <;> intro g <;> omega
    · rw [if_neg e, ih]
      by_cases e2 : follI M v d = 0
      · rw [if_neg (fun g => g.elim (fun g => g e2) e)]
        exact ⟨fun _ => rfl, fun _ => e2⟩
      · rw [if_pos (Or.inl e2)]
        constructor <;> intro g <;> omega
theorem held_01 (M : q_S) (v : Int) : ∀ n : Nat, heldI M v n = 0 ∨ heldI M v n = 1 := by
  intro n
  cases n with
  | zero => exact Or.inl rfl
  | succ n => simp only [heldI]; split; exact Or.inr rfl; exact Or.inl rfl
theorem old_eq {M : q_S} (hI : MI M) {v : Int} (hv : 0 ≤ v ∧ v < M 50 16) (h22 : M 22 v = 0) : oldP M v ↔ 24 ≤ M 50 1 - M 18 v ∧ (240 ≤ M 50 1 - M 18 v → ¬ latestOf M (M 17 v) = v) ∧ (¬ 240 ≤ M 50 1 - M 18 v → ¬ lsF M (M 17 v) (M 18 v / 24) (M 50 16).toNat = v) := by
  have ls := ls_foll M v.toNat (by rw [show (v.toNat : Int) = v by omega]; exact h22) (M 50 16 - v - 1).toNat
  rw [show (v.toNat : Int) = v by omega, show v.toNat + 1 + (M 50 16 - v - 1).toNat = (M 50 16).toNat by omega] at ls
  constructor
  · intro h
    refine ⟨by rcases h with h | h <;> omega, fun _ => old_lat hI hv h, fun g e => ?_⟩
    rcases h with h | h
    · exact h.2 (ls.mp e)
    · exact g h.1
  · intro h
    by_cases e : 240 ≤ M 50 1 - M 18 v
    · exact Or.inr ⟨e, h.2.1 e⟩
    · exact Or.inl ⟨h.1, fun g => h.2.2 e (ls.mpr g)⟩
theorem pb_xt {F : Int × q_S} {e1 e2 e3 : String} {K K2 : q_K} {B : q_S} {o : Option q_V ⊕ String} {K3 : q_K} {M3 C3 : q_S} (h : q_xt K K2) (g : PB F e1 e2 e3 K2 B o K3 M3 C3) : PB F e1 e2 e3 K B o K3 M3 C3 :=
  ⟨⟨h.trans g.1.1, g.1.2⟩, g.2⟩
/-- following -/
theorem scn_congr {A B : q_S} {c : Int} (h : ∀ t j : Int, t ≠ 40 → A t j = B t j) : ∀ k (t j : Int), t ≠ 40 → scn A c k t j = scn B c k t j := by
  intro k
  induction k with
  | zero => exact h
  | succ k ih =>
    intro t j ht
    simp only [scn, q_us_ap]
    rw [ih 31 _ (by decide), ih 32 _ (by decide), ih 33 _ (by decide), ih t j ht]
/-- one entry, as the class does it -/
def foT (S : q_S) : q_S := if S 22 (S 50 36) = 1 then S else scn S (S 21 (S 50 36)) (ncut (S 21 (S 50 36))).toNat
theorem foT_o {S : q_S} {t j : Int} (h : t ≠ 33) : foT S t j = S t j := by
  unfold foT; split
  · rfl
  · exact scn_o h _
theorem foS_T {S : q_S} {t j : Int} (h : t ≠ 40) : foS S t j = q_us (foT S) 50 36 (S 50 36 + 1) t j := by
  unfold foS foT
  split
  · rfl
  · simp only [q_us_ap]
    by_cases e : t = 50 ∧ j = 36
    · rw [if_pos e, if_pos e]
    · rw [if_neg e, if_neg e]; exact scn_congr (fun t j g => cutS_o g) _ t j h
theorem wr_foS {S : q_S} (hW : WR S) (h : S 50 36 < S 50 16) : WR (foS S) := by
  have g := rs_36 hW
  have g16 := rs_16 hW
  unfold foS
  refine WR.up ?_ ⟨(show (0 : Int) ≤ S 50 36 + 1 by omega), (show S 50 36 + 1 ≤ (120 : Int) by omega)⟩
  split
  · exact hW
  · exact wr_scn (wr_cutS hW _) _ _
theorem mi_foS {S : q_S} (hI : MI S) : MI (foS S) := by
  refine mi_o hI (fun t j g => ?_)
  rw [foS_T (by omega)]
  simp only [q_us_ap]
  rw [if_neg (by omega), foT_o (by omega)]
/-- pulling -/
theorem pl_step (M : q_S) (m : Int) (k : Nat) : plF M m (k + 1) = if ¬ isOtherP (plF M m k).2 (16 * m + k) ∧ ¬ latestOf (plF M m k).2 k = -1 ∧ mayReadP (plF M m k).2 (16 * m + k) (latestOf (plF M m k).2 k) then
      ((plF M m k).1 + (if isAsP (plF M m k).2 (16 * m + k) (latestOf (plF M m k).2 k) then 0 else 1), cuF (plF M m k).2 (16 * m + k) (latestOf (plF M m k).2 k)) else plF M m k := rfl
/-- restoring -/
theorem vfo_d {M : q_S} (hW : WR M) {v d : Int} (hd : 0 ≤ d) : vfo M v = d ↔ isInP M v ∧ M 20 v = d := by
  have h2 : 0 ≤ M 21 v := (hW 21 v).1
  unfold vfo isInP
  by_cases e1 : v = -1
  · rw [if_pos (Or.inl e1)]
    exact ⟨fun g => by omega, fun g => absurd e1 g.1.1⟩
  · by_cases e2 : M 21 v = 0
    · rw [if_pos (Or.inr e2)]
      exact ⟨fun g => by omega, fun g => by omega⟩
    · rw [if_neg (fun g => g.elim e1 e2)]
      exact ⟨fun g => ⟨⟨e1, by omega⟩, g⟩, fun g => g.2⟩
theorem restores_ok {M : q_S} (hW : WR M) (hI : MI M) {f t : Int} (hf : 0 ≤ f ∧ f ≤ 15) (hn : M 50 16 < 120) : WR (restoresF M f t).2 ∧ MI (restoresF M f t).2 ∧ (restoresF M f t).2 50 16 = M 50 16 + (if (restoresF M f t).1 = -1 then 0 else 1) ∧ (restoresF M f t).2 50 41 = M 50 41 ∧ (restoresF M f t).2 50 1 = M 50 1 := by
  have h16 := rs_16 hW
  have hr := asOfT_rg hW f t
  unfold restoresF
  split
  · exact ⟨hW, hI, by rw [if_pos rfl, Int.add_zero], rfl, rfl⟩
  next e =>
    have vc := (hI.2.2.1 (asOfT M f t) (by have := fun g => e (Or.inl g); omega) hr.2.1).1
    refine ⟨hW.makes hn hf ⟨by omega, by omega⟩ (vcode_rg vc) (hW 20 _), mi_makes hI hW vc, ?_, rfl, rfl⟩
    rw [if_neg (show ¬ M 50 16 = -1 by omega)]
    unfold makesF
    simp only [q_us_ap, and_self, if_true]
theorem rf_ok {M : q_S} (hW : WR M) (hI : MI M) (h100 : M 50 16 ≤ 100) (d t : Int) : ∀ k : Nat, k ≤ 16 → WR (rfF M d t k).2 ∧ MI (rfF M d t k).2 ∧ (rfF M d t k).1 = (rfF M d t k).2 50 16 - M 50 16 ∧ (rfF M d t k).2 50 16 ≤ M 50 16 + k ∧ (rfF M d t k).2 50 41 = M 50 41 ∧ (rfF M d t k).2 50 1 = M 50 1 := by
  intro k
  induction k with
  | zero => intro _; exact ⟨hW, hI, by show (0 : Int) = M 50 16 - M 50 16; omega, by show M 50 16 ≤ M 50 16 + ((0 : Nat) : Int); omega, rfl, rfl⟩
  | succ k ih =>
    intro hk
    have i := ih (by omega)
    simp only [rfF]
    split
    · have r := restores_ok (f := k) (t := t) i.1 i.2.1 ⟨by omega, by omega⟩ (by omega)
      refine ⟨r.1, r.2.1, ?_, ?_, r.2.2.2.1.trans i.2.2.2.2.1, r.2.2.2.2.trans i.2.2.2.2.2⟩
      · show (rfF M d t k).1 + _ = (restoresF (rfF M d t k).2 k t).2 50 16 - M 50 16
        rw [r.2.2.1, i.2.2.1]; omega
      · show (restoresF (rfF M d t k).2 k t).2 50 16 ≤ _
        rw [r.2.2.1]; split <;> omega
    · exact ⟨i.1, i.2.1, i.2.2.1, by omega, i.2.2.2.2⟩
