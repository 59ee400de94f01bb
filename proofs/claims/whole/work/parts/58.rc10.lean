/-! what is made: versions and contents -/
theorem tb_fre {K : q_K} {n t : Int} (h : q_tb K n) (h1 : 290 ≤ t) (h2 : t < 999) : q_fre K t := fun a ha e => by
  rcases h a ha with g | g | g <;> omega
theorem tb_fre2 {K : q_K} {n t : Int} (h : q_tb K n) (h1 : 1000 + n ≤ t) (h0 : 0 ≤ n) (h2 : t < 1000000) : q_fre K t := fun a ha e => by
  rcases h a ha with g | g | g <;> omega
theorem fre_uk {K : q_K} {q k n : Nat} {t t2 : Int} (h : q_fre K t) (hne : t2 ≠ t) : q_fre (q_uk K q (k, n, t2)) t := fun a ha e => by
  by_cases ea : a = q
  · rw [ea, uk_p] at e; exact hne e
  · rw [uk_n ea] at ha e; exact h a ha e
theorem xt_uk {K : q_K} {q : Nat} {k : Nat × Nat × Int} (h : (K q).1 = 0) : q_xt K (q_uk K q k) := fun a ha => uk_n (fun e => ha (by rw [e]; exact h))
theorem rc_zt {M C : q_S} (h : RC M C) (h16 : 0 ≤ M 50 16 ∧ M 50 16 ≤ 120) {t : Int} (ht : 290 ≤ t ∧ t < 999) : RC M (q_zt C t) := by
  have f : ∀ t2 j, t2 ≠ t → q_zt C t t2 j = C t2 j := fun t2 j g => if_neg g
  refine ⟨?_, RD_fr (rc_D h) rfl (f _ _ (by omega)) (fun j => f _ _ (by omega)), RP_fr (rc_P h) (fun _ => rfl) (fun _ => rfl) (fun _ => rfl) (fun _ => rfl) (fun _ => rfl) (fun _ => rfl) (fun t j a b => f _ _ (by omega)), RM_fr (rc_M h) (fun _ => rfl) (fun _ => rfl) (fun t j a b d => f _ _ (by omega)), RL_fr (rc_L h) (fun _ => rfl) (fun t a b => f _ _ (by omega)) (fun t j a b => f _ _ (by omega)),
    RV_fr (rc_V h) rfl (fun _ => rfl) (fun _ => rfl) (fun _ => rfl) (fun _ => rfl) (fun _ => rfl) (fun _ => rfl) (fun j => f _ _ (by omega)) (fun j => f _ _ (by omega)) (fun t j a => f _ _ (by omega)), RK_fr (rc_K h) (Int.le_refl _) (fun _ => rfl) (fun _ => rfl) (fun j => f _ _ (by omega)) (fun j => f _ _ (by omega)), RH_fr (rc_H h) (fun _ => rfl) (fun _ => rfl) (fun j => f _ _ (by omega)) (fun j => f _ _ (by omega)),
    RO_fr (rc_O h) (fun _ => rfl) (fun _ => rfl) (fun _ => rfl) rfl (fun j => f _ _ (by omega)) (fun j => f _ _ (by omega)) (fun j => f _ _ (by omega)), RT_fr (rc_T h) (fun _ => rfl) (fun _ => rfl) (fun _ => rfl) (f _ _ (by omega)) (fun j => f _ _ (by omega)) (fun j => f _ _ (by omega)) (fun j => f _ _ (by omega)) (fun j => f _ _ (by omega)), RE_fr (rc_E h) (fun _ => rfl) (fun _ => rfl) rfl (f _ _ (by omega)) (fun j => f _ _ (by omega)) (fun j => f _ _ (by omega)) (fun j => f _ _ (by omega)), CC_fr (rc_C h) (fun t j a => f _ _ (by omega))⟩
  have hS := h.1
  unfold RS at hS ⊢
  rw [f 100 9 (by omega), f 100 10 (by omega), f 100 11 (by omega), f 100 12 (by omega), f 100 13 (by omega), f 104 0 (by omega), f 108 0 (by omega), f 105 1 (by omega), f 105 2 (by omega)]
  exact hS
/-- a method of ours that ends without an answer or with one, the kinds being more than before -/
def PX (o : Option q_V) (X : q_S) (K : q_K) (B : q_S) : q_Q2 := fun o2 K2 M2 C2 => o2 = Sum.inl o ∧ (q_xt K K2 ∧ q_tb K2 (X 50 16)) ∧ M2 = B ∧ RC X C2
section CX
variable {X : q_X} {pc : Nat} {ls : q_Ls} {st : List q_V} {K : q_K} {B C : q_S} {c s : Nat} {Q : q_Q2}
theorem e_cI {Y : q_X} {idx n : Nat} {as rest : List q_V} {M1 C1 : q_S} {a : Nat} {kt : Nat × Nat × Int} (d : decode (q_b X) pc = .ok (.invokespecial idx, 3)) (hw : q_ok Y n) (hini : (q_y Y).name = "<init>") (hrt : q_rt Y = none) (hl : Cond.methodLink (q_y X).cls idx (q_y Y) ∈ q_tw ∨ ∃ host, Cond.methodLinkNest (q_y X).cls idx (q_y Y) host ∈ q_nest) (hst : Cond.instanceMethod (q_y Y) ∈ q_tw) (hka : K a = kt) (hkc : kt.1 ≠ 0) (hhY : q_hh Y = []) (hst2 : st = as.reverse ++ q_R a :: rest) (hln : as.length = n) (hlz : (as.map q_cat).sum + 1 ≤ q_n Y) (hfit : q_fit X Y) (hr8 : (rest.map q_cat).sum ≤ 8) (hnm : (q_y Y).name ≠ "law")
    (k1 : q_E Y 0 (q_ent (q_n Y) (q_R a :: as)) [] K B C 0 0 (e_is none K M1 C1)) (k2 : q_E X (pc + 3) ls rest K M1 C1 c s Q) : q_E X pc ls st K B C c s Q :=
  e_callI d hw hini hrt hl hst hka hkc hhY hst2 hln rfl hlz hfit (Nat.le_of_eq (Nat.zero_add c)) (Nat.le_of_eq (Nat.zero_add s)) hr8 hnm k1 (fun o2 K2 M2 C2 h => by
    obtain ⟨h1, rfl, rfl, rfl⟩ := h
    cases h1; exact k2) (fun E K2 M2 C2 h => by
    obtain ⟨h1, -⟩ := h
    cases h1)
theorem e_cVX {Y : q_X} {idx n c1 s1 c2 s2 : Nat} {as rest : List q_V} {o : Option q_V} {X0 : q_S} {a ci : Nat} {kt : Nat × Nat × Int} (d : decode (q_b X) pc = .ok (.invokevirtual idx, 3)) (hw : q_ok Y n) (hl : Cond.methodLink (q_y X).cls idx (q_y Y) ∈ q_tw) (hst : Cond.instanceMethod (q_y Y) ∈ q_tw) (hse : Cond.selects (q_y Y).cls (q_y Y) (q_y Y) ∈ q_tw) (hka : K a = kt) (hkc : kt.1 = ci + 1) (hci : ci < 12) (hcl : ∃ T N, vwCl[ci]? = some ((q_y Y).cls, T, N)) (hx : q_hh X = []) (hhY : q_hh Y = []) (hst2 : st = as.reverse ++ q_R a :: rest) (hln : as.length = n) (hlz : (as.map q_cat).sum + 1 ≤ q_n Y) (hfit : q_fit X Y) (hcc : c1 + c2 ≤ c) (hss : s1 + s2 ≤ s) (hr8 : (rest.map q_cat).sum ≤ 8) (hnm : (q_y Y).name ≠ "law")
    (k1 : q_E Y 0 (q_ent (q_n Y) (q_R a :: as)) [] K B C c1 s1 (PX o X0 K B)) (k2 : ∀ K2 C2, q_xt K K2 → q_tb K2 (X0 50 16) → RC X0 C2 → q_E X (pc + 3) ls (o.toList ++ rest) K2 B C2 c2 s2 Q) : q_E X pc ls st K B C c s Q :=
  e_callV d hw hl hst hse hka hkc hci hcl hx hhY hst2 hln rfl hlz hfit hcc hss hr8 hnm k1 (fun o2 K2 M2 C2 h => by
    obtain ⟨h1, ⟨h2, h3⟩, h4, h5⟩ := h
    cases h1; cases h4; exact k2 K2 C2 h2 h3 h5) (fun E K2 M2 C2 h => by
    obtain ⟨h1, -⟩ := h
    cases h1)
end CX
/-- the memory when a version is done: its cell bears its number -/
def vnC (C : q_S) (n : Int) : q_S := fun t j => if t = 1000 + n then C 901 j else C t j
theorem vnC_ap {C : q_S} {n t j : Int} : vnC C n t j = if t = 1000 + n then C 901 j else C t j := rfl
theorem lat_makes (M : q_S) (h16 : 0 ≤ M 50 16) (f m c d f2 : Int) : latestOf (makesF M f m c d) f2 = if f2 = f then M 50 16 else latestOf M f2 := by
  have e16 : makesF M f m c d 50 16 = M 50 16 + 1 := by unfold makesF; simp only [q_us_ap, and_self, if_true]
  unfold latestOf
  rw [e16, show (M 50 16 + 1).toNat = (M 50 16).toNat + 1 by omega]
  simp only [latF]
  have e17 : ∀ k, makesF M f m c d 17 k = if k = M 50 16 then f else M 17 k := by intro k; unfold makesF; simp only [q_us_ap, Int.reduceEq, false_and, true_and, if_false]
  have e22 : ∀ k, makesF M f m c d 22 k = if k = M 50 16 then 0 else M 22 k := by intro k; unfold makesF; simp only [q_us_ap, Int.reduceEq, false_and, true_and, if_false]
  have z : (((M 50 16).toNat : Nat) : Int) = M 50 16 := by omega
  rw [e17, e22, z, if_pos rfl, if_pos rfl]
  by_cases e : f2 = f
  · rw [if_pos ⟨e.symm, rfl⟩, if_pos e]
  · rw [if_neg (fun g => e g.1.symm), if_neg e]
    have : ∀ n : Nat, (n : Int) ≤ M 50 16 → latF (makesF M f m c d) f2 n = latF M f2 n := by
      intro n
      induction n with
      | zero => intro _; rfl
      | succ n ih =>
        intro hn
        simp only [latF]
        rw [e17, e22, if_neg (show ¬ (n : Int) = M 50 16 by omega), if_neg (show ¬ (n : Int) = M 50 16 by omega), ih (by omega)]
    exact this _ (by omega)
theorem rc_makes {M C C2 : q_S} (h : RC M C) (hW : WR M) {f m c d fo : Int} (hf : 0 ≤ f ∧ f ≤ 15) (hn : M 50 16 < 120) (hfo : fo = if c = 0 then -1 else d)
    (hC : ∀ t j : Int, ¬ (t = 124 ∨ t = 125 ∨ t = 104 ∧ j = 0 ∨ t = 1000 + M 50 16 ∨ (400 ≤ t ∧ t < 999)) → C2 t j = C t j)
    (h104 : C2 104 0 = M 50 16 + 1) (h125 : ∀ v, C2 125 v = if v = M 50 16 then 1000 + M 50 16 else C 125 v) (h124 : ∀ g, C2 124 g = if g = f then M 50 16 else C 124 g)
    (v0 : C2 (1000 + M 50 16) 0 = f) (v1 : C2 (1000 + M 50 16) 1 = M 50 1) (v2 : C2 (1000 + M 50 16) 2 = m) (v3 : C2 (1000 + M 50 16) 3 = fo) (v4 : C2 (1000 + M 50 16) 4 = 1000000 + 3 * c) (v5 : C2 (1000 + M 50 16) 5 = 1) : RC (makesF M f m c d) C2 := by
  have h16 := rs_16 hW
  have eq : ∀ t k, 17 ≤ t → t ≤ 22 → k ≠ M 50 16 → makesF M f m c d t k = M t k := by
    intro t k a b e
    unfold makesF; simp only [q_us_ap]
    rw [if_neg (by omega), if_neg (by omega), if_neg (by omega), if_neg (by omega), if_neg (by omega), if_neg (by omega), if_neg (by omega)]
  have e16 : makesF M f m c d 50 16 = M 50 16 + 1 := by unfold makesF; simp only [q_us_ap, and_self, if_true]
  have e17 : makesF M f m c d 17 (M 50 16) = f := by unfold makesF; simp only [q_us_ap, Int.reduceEq, false_and, and_self, if_false, if_true]
  have e18 : makesF M f m c d 18 (M 50 16) = M 50 1 := by unfold makesF; simp only [q_us_ap, Int.reduceEq, false_and, and_self, if_false, if_true]
  have e19 : makesF M f m c d 19 (M 50 16) = m := by unfold makesF; simp only [q_us_ap, Int.reduceEq, false_and, and_self, if_false, if_true]
  have e20 : makesF M f m c d 20 (M 50 16) = d := by unfold makesF; simp only [q_us_ap, Int.reduceEq, false_and, and_self, if_false, if_true]
  have e21 : makesF M f m c d 21 (M 50 16) = c := by unfold makesF; simp only [q_us_ap, Int.reduceEq, false_and, and_self, if_false, if_true]
  have e22 : makesF M f m c d 22 (M 50 16) = 0 := by unfold makesF; simp only [q_us_ap, Int.reduceEq, false_and, and_self, if_false, if_true]
  have fM : ∀ t j : Int, ¬ ((17 ≤ t ∧ t ≤ 22) ∨ t = 50 ∧ j = 16 ∨ t = 50 ∧ j = 41 ∨ t = 40 ∨ t = 42) → makesF M f m c d t j = M t j := by
    intro t j a
    unfold makesF; simp only [q_us_ap]
    rw [if_neg (by omega), if_neg (by omega), if_neg (by omega), if_neg (by omega), if_neg (by omega), if_neg (by omega), if_neg (by omega)]
  refine rc_fr_V h h16.1 fM (fun t j a => hC t j (by omega)) ?_ ?_
  · have hS := h.1
    unfold RS at hS ⊢
    rw [e16, h104, fM 50 1 (by decide), fM 50 9 (by decide), fM 50 37 (by decide), fM 50 38 (by decide), fM 50 36 (by decide), fM 50 27 (by decide), fM 50 34 (by decide), fM 50 39 (by decide), hC 100 9 (by omega), hC 100 10 (by omega), hC 100 11 (by omega), hC 100 12 (by omega), hC 100 13 (by omega), hC 108 0 (by omega), hC 105 1 (by omega), hC 105 2 (by omega)]
    exact ⟨hS.1, hS.2.1, hS.2.2.1, hS.2.2.2.1, hS.2.2.2.2.1, rfl, hS.2.2.2.2.2.2⟩
  · have hV := rc_V h
    refine ⟨fun v a b => ?_, ?_, fun g a b => ?_⟩
    · rw [e16] at b
      by_cases e : v = M 50 16
      · subst e
        rw [h125, if_pos rfl, v0, v1, v2, v3, v4, v5, e17, e18, e19, e21, e22]
        refine ⟨rfl, rfl, rfl, rfl, ?_, rfl, rfl⟩
        unfold vfo; rw [e21, e20, hfo]
        by_cases ec : c = 0
        · rw [if_pos ec, if_pos (Or.inr ec)]
        · rw [if_neg ec, if_neg (fun g => g.elim (fun g => by omega) ec)]
      · have ev : vfo (makesF M f m c d) v = vfo M v := by unfold vfo; rw [eq 21 v (by decide) (by decide) e, eq 20 v (by decide) (by decide) e]
        rw [h125, if_neg e, hC _ _ (by omega), hC _ _ (by omega), hC _ _ (by omega), hC _ _ (by omega), hC _ _ (by omega), hC _ _ (by omega), ev, eq 17 v (by decide) (by decide) e, eq 18 v (by decide) (by decide) e, eq 19 v (by decide) (by decide) e, eq 21 v (by decide) (by decide) e, eq 22 v (by decide) (by decide) e]
        exact hV.1 v a (by omega)
    · rw [hC _ _ (by omega), hC _ _ (by omega), hC _ _ (by omega), hC _ _ (by omega), hC _ _ (by omega), hC _ _ (by omega)]; exact hV.2.1
    · rw [h124, lat_makes M h16.1]
      by_cases e : g = f
      · rw [if_pos e, if_pos e]
      · rw [if_neg e, if_neg e]; exact hV.2.2 g a b
theorem mi_makes {M : q_S} (h : MI M) (hW : WR M) {f m c d : Int} (hc : vcode c) : MI (makesF M f m c d) := by
  have h16 := rs_16 hW
  have e16 : makesF M f m c d 50 16 = M 50 16 + 1 := by unfold makesF; simp only [q_us_ap, and_self, if_true]
  have eq : ∀ t k, 17 ≤ t → t ≤ 22 → k ≠ M 50 16 → makesF M f m c d t k = M t k := by
    intro t k a b e
    unfold makesF; simp only [q_us_ap]
    rw [if_neg (by omega), if_neg (by omega), if_neg (by omega), if_neg (by omega), if_neg (by omega), if_neg (by omega), if_neg (by omega)]
  have fM : ∀ t j : Int, ¬ ((17 ≤ t ∧ t ≤ 22) ∨ t = 50 ∧ j = 16) → makesF M f m c d t j = M t j := by
    intro t j a
    unfold makesF; simp only [q_us_ap]
    rw [if_neg (by omega), if_neg (by omega), if_neg (by omega), if_neg (by omega), if_neg (by omega), if_neg (by omega), if_neg (by omega)]
  refine ⟨by rw [fM 50 0 (by decide)]; exact h.1, fun p a b => ?_, fun v a b => ?_, fun k a b => ?_⟩
  · have g := h.2.1 p a b
    rw [e16, fM 3 p (by omega), fM 2 p (by omega), fM 5 p (by omega), fM 8 p (by omega), fM 50 10 (by decide)]
    refine ⟨g.1, g.2.1, by omega, fun x => ?_, g.2.2.2.2⟩
    rw [eq 17 _ (by decide) (by decide) (by omega)]; exact g.2.2.2.1 x
  · rw [e16] at b
    rw [lat_makes M h16.1, fM 50 1 (by decide)]
    by_cases e : v = M 50 16
    · subst e
      have e17 : makesF M f m c d 17 (M 50 16) = f := by unfold makesF; simp only [q_us_ap, Int.reduceEq, false_and, and_self, if_false, if_true]
      have e18 : makesF M f m c d 18 (M 50 16) = M 50 1 := by unfold makesF; simp only [q_us_ap, Int.reduceEq, false_and, and_self, if_false, if_true]
      have e21 : makesF M f m c d 21 (M 50 16) = c := by unfold makesF; simp only [q_us_ap, Int.reduceEq, false_and, and_self, if_false, if_true]
      rw [e17, e18, e21, if_pos rfl]
      exact ⟨hc, Int.le_refl _, Int.le_refl _⟩
    · rw [eq 17 v (by decide) (by decide) e, eq 18 v (by decide) (by decide) e, eq 21 v (by decide) (by decide) e]
      have g := h.2.2.1 v a (by omega)
      refine ⟨g.1, g.2.1, ?_⟩
      split
      · omega
      · exact g.2.2
  · rw [fM 50 13 (by decide)] at b
    rw [fM 15 k (by omega), fM 50 1 (by decide)]
    exact h.2.2.2 k a b
