/-! cells that are made: kinds and slots -/
/-- a cell is done: its memory goes to its number -/
def rtC (C : q_S) (a b : Int) : q_S := fun t j => if t = b then C a j else C t j
theorem rtC_ap {C : q_S} {a b t j : Int} : rtC C a b t j = if t = b then C a j else C t j := rfl
/-- what is new bears numbers of P -/
def q_nx (K K2 : q_K) (P : Int → Prop) : Prop := q_xt K K2 ∧ ∀ a, (K2 a).1 ≠ 0 → (K a).1 ≠ 0 ∨ P (K2 a).2.2
def q_nz (K K2 : q_K) (x : Nat) (P : Int → Prop) : Prop := q_xt K K2 ∧ ∀ a, a ≠ x → (K2 a).1 ≠ 0 → (K a).1 ≠ 0 ∨ P (K2 a).2.2
theorem nz_0 {K : q_K} {x : Nat} {k : Nat × Nat × Int} {P : Int → Prop} (h : (K x).1 = 0) : q_nz K (q_uk K x k) x P :=
  ⟨xt_uk h, fun a e g => Or.inl (by rw [uk_n e] at g; exact g)⟩
theorem nz_1 {K K1 : q_K} {x q : Nat} {k : Nat × Nat × Int} {P : Int → Prop} (h : q_nz K K1 x P) (hq : (K1 q).1 = 0) (hP : P k.2.2) : q_nz K (q_uk K1 q k) x P :=
  ⟨h.1.trans (xt_uk hq), fun a e g => by
    by_cases e2 : a = q
    · rw [e2, uk_p]; exact Or.inr hP
    · rw [uk_n e2] at g ⊢; exact h.2 a e g⟩
theorem nz_2 {K K1 K2 : q_K} {x : Nat} {P P2 : Int → Prop} (h : q_nz K K1 x P) (h2 : q_nx K1 K2 P2) (hP : ∀ t, P2 t → P t) : q_nz K K2 x P :=
  ⟨h.1.trans h2.1, fun a e g => by
    rcases h2.2 a g with y | y
    · have := h2.1 a y
      rw [this]; rw [this] at g; exact h.2 a e g
    · exact Or.inr (hP _ y)⟩
theorem nz_re {K K1 : q_K} {x q : Nat} {k : Nat × Nat × Int} {P : Int → Prop} (h : q_nz K K1 x P) (hq : (K q).1 = 0) (hP : P k.2.2) : q_nz K (q_uk K1 q k) x P :=
  ⟨fun a g => by rw [uk_n (fun e => g (by rw [e]; exact hq))]; exact h.1 a g, fun a e g => by
    by_cases e2 : a = q
    · rw [e2, uk_p]; exact Or.inr hP
    · rw [uk_n e2] at g ⊢; exact h.2 a e g⟩
theorem nz_E {K K1 : q_K} {x : Nat} {k : Nat × Nat × Int} {P : Int → Prop} (h : q_nz K K1 x P) (hx : (K x).1 = 0) (hP : P k.2.2) : q_nx K (q_uk K1 x k) P :=
  ⟨fun a g => by rw [uk_n (fun e => g (by rw [e]; exact hx))]; exact h.1 a g, fun a g => by
    by_cases e2 : a = x
    · rw [e2, uk_p]; exact Or.inr hP
    · rw [uk_n e2] at g ⊢; exact h.2 a e2 g⟩
theorem nz_get {K K1 : q_K} {x a : Nat} {k : Nat × Nat × Int} {P : Int → Prop} (h : q_nz K K1 x P) (g : K a = k) (h0 : k.1 ≠ 0) : K1 a = k := xt_get h.1 g h0
theorem nx_get {K K1 : q_K} {a : Nat} {k : Nat × Nat × Int} {P : Int → Prop} (h : q_nx K K1 P) (g : K a = k) (h0 : k.1 ≠ 0) : K1 a = k := xt_get h.1 g h0
/-- a number that is not there stays so -/
theorem nx_fre {K K1 : q_K} {P : Int → Prop} {t : Int} (h : q_nx K K1 P) (f : q_fre K t) (hP : ¬ P t) : q_fre K1 t := fun a g e => by
  rcases h.2 a g with y | y
  · have := h.1 a y
    rw [this] at e; exact f a y e
  · rw [e] at y; exact hP y
theorem nx_mono {K K1 : q_K} {P P2 : Int → Prop} (h : q_nx K K1 P) (hP : ∀ t, P t → P2 t) : q_nx K K1 P2 := ⟨h.1, fun a g => (h.2 a g).elim Or.inl (fun y => Or.inr (hP _ y))⟩
theorem nx_trans {K K1 K2 : q_K} {P : Int → Prop} (h : q_nx K K1 P) (g : q_nx K1 K2 P) : q_nx K K2 P :=
  ⟨h.1.trans g.1, fun a y => by
    rcases g.2 a y with z | z
    · have := g.1 a z
      rw [this]; exact h.2 a z
    · exact Or.inr z⟩
section FR9
variable {X : q_X} {pc : Nat} {ls : q_Ls} {st : List q_V} {K : q_K} {B C : q_S} {c s : Nat} {Q : q_Q2}
theorem e_finR {q k n : Nat} {t t2 : Int} (hq : K q = (k, n, t)) (h0 : k ≠ 0) (ht : q_uf t) (h9 : q_nsp t) (hlo : 100 ≤ t2 ∧ t2 < 1000000) (hf : q_fre K t2)
    (hl : ∀ j, q_isr (k, n, t) j → C t j ≠ 0 ∧ kof (ln t2 j (C t j)) = kof (ln t j (C t j)) ∧ ¬ q_sc (ln t2 j (C t j)))
    (kk : q_E X pc ls st (q_uk K q (k, n, t2)) B (rtC C t t2) c s Q) : q_E X pc ls st K B C c s Q := by
  refine e_fin (M2 := B) (C2 := rtC C t t2) hq h0 ht h9 (Or.inr hf) (fun x j a b d => ?_) (fun j a => ?_) (fun a => by omega) (fun j hj => ?_) kk
  · unfold mg
    split
    · rfl
    · exact if_neg d
  · rw [mg_c hlo.1, mg_c (by omega)]; exact if_pos rfl
  · rw [mg_c (by omega)]; exact hl j hj
theorem e_fin2R {q a ci c9 n : Nat} {t ta t2 ta2 j0 : Int} (hq : K q = (ci + 1, 0, t)) (ha : K a = (30 + c9, n, ta)) (ht : q_uf t) (hta : q_uf ta) (hne : t ≠ ta ∧ t2 ≠ ta2) (hlo : (100 ≤ t2 ∧ t2 < 290) ∧ 100 ≤ ta2 ∧ ta2 < 290)
    (hf1 : q_fre K t2) (hf2 : q_fre K ta2) (hp1 : ∀ x j g, q_par x j → ln x j g ≠ t) (hp2 : ∀ x j g, q_par x j → ln x j g = ta → x = t ∧ j = j0)
    (hk : kof ta = (30 + c9, n, ta)) (hk2 : kof ta2 = (30 + c9, n, ta2)) (hl0 : ∀ g, ln t j0 g = ta)
    (hl : ∀ j, q_isr (ci + 1, 0, t) j → C t j ≠ 0 ∧ ((j = j0 ∧ ln t2 j (C t j) = ta2) ∨ (kof (ln t2 j (C t j)) = kof (ln t j (C t j)) ∧ ¬ q_sc (ln t2 j (C t j)))))
    (hla : ∀ j, q_isr (30 + c9, n, ta) j → C ta j ≠ 0 ∧ kof (ln ta2 j (C ta j)) = kof (ln ta j (C ta j)) ∧ ¬ q_sc (ln ta2 j (C ta j)))
    (kk : q_E X pc ls st (q_uk (q_uk K q (ci + 1, 0, t2)) a (30 + c9, n, ta2)) B (rtC (rtC C t t2) ta ta2) c s Q) : q_E X pc ls st K B C c s Q := by
  refine e_fin2 (C2 := rtC (rtC C t t2) ta ta2) hq ha ht hta hne hlo hf1 hf2 hp1 hp2 (fun x j hj h1 h2 h3 h4 => ?_) (fun j hj => ?_) (fun j hj => ?_) hk hk2 hl0 hl hla kk
  · rw [rtC_ap, if_neg h4, rtC_ap, if_neg h3]
  · rw [rtC_ap, if_neg hne.2, rtC_ap, if_pos rfl]
  · rw [rtC_ap, if_pos rfl, rtC_ap, if_neg (by omega)]
theorem nz_fre {K1 : q_K} {x : Nat} {k : Nat × Nat × Int} {P : Int → Prop} {t : Int} (h : q_nz K K1 x P) (hx : K1 x = k) (hne : k.2.2 ≠ t) (f : q_fre K t) (hP : ¬ P t) : q_fre K1 t := fun a g e => by
  by_cases e2 : a = x
  · rw [e2, hx] at e; exact hne e
  · rcases h.2 a e2 g with y | y
    · have := h.1 a y
      rw [this] at e; exact f a y e
    · rw [e] at y; exact hP y
theorem zt_0 (t : Int) : q_zt (fun _ _ => 0) t = fun _ _ => 0 := by
  funext a b
  show (if a = t then (0 : Int) else 0) = 0
  split <;> rfl
/-- the class made a cell: its constructor's call -/
theorem e_ctor {Y : q_X} {idx n c1 s1 c2 s2 : Nat} {as rest : List q_V} {a : Nat} {kt : Nat × Nat × Int} {Q1 : q_Q2} {R : q_K → q_S → Prop} (d : decode (q_b X) pc = .ok (.invokespecial idx, 3)) (hw : q_ok Y n) (hini : (q_y Y).name = "<init>") (hrt : q_rt Y = none) (hl : Cond.methodLink (q_y X).cls idx (q_y Y) ∈ q_tw ∨ ∃ host, Cond.methodLinkNest (q_y X).cls idx (q_y Y) host ∈ q_nest) (hst : Cond.instanceMethod (q_y Y) ∈ q_tw) (hka : K a = kt) (hkc : kt.1 ≠ 0) (hhY : q_hh Y = []) (hst2 : st = as.reverse ++ q_R a :: rest) (hln : as.length = n) (hlz : (as.map q_cat).sum + 1 ≤ q_n Y) (hfit : q_fit X Y) (hcc : c1 + c2 ≤ c) (hss : s1 + s2 ≤ s) (hr8 : (rest.map q_cat).sum ≤ 8) (hnm : (q_y Y).name ≠ "law")
    (k1 : q_E Y 0 (q_ent (q_n Y) (q_R a :: as)) [] K B C c1 s1 Q1) (hQ : ∀ o K2 M2 C2, Q1 o K2 M2 C2 → o = Sum.inl none ∧ M2 = B ∧ R K2 C2) (k2 : ∀ K2 C2, R K2 C2 → q_E X (pc + 3) ls rest K2 B C2 c2 s2 Q) : q_E X pc ls st K B C c s Q :=
  e_callI d hw hini hrt hl hst hka hkc hhY hst2 hln rfl hlz hfit hcc hss hr8 hnm k1 (fun o K2 M2 C2 h => by
    obtain ⟨h1, h2, h3⟩ := hQ (Sum.inl o) K2 M2 C2 h
    cases h1; cases h2; exact k2 K2 C2 h3) (fun E K2 M2 C2 h => by
    obtain ⟨h1, -⟩ := hQ _ _ _ _ h
    cases h1)
end FR9
theorem isr_0 {t j : Int} (hj : q_isr (1, 0, t) j) : j = 2 ∨ j = 3 := by
  rcases hj with ⟨c2, k2, h1, h2, h3, h4, h5⟩ | ⟨h1, h2, h3⟩
  · have h6 : c2 = 0 := by simp only [] at h1; omega
    subst h6
    have h7 : k2 < 4 := h4
    match k2, h7, h5 with
    | 0, _, h5 => exact absurd h5 (by decide)
    | 1, _, h5 => exact absurd h5 (by decide)
    | 2, _, _ => exact Or.inl h3
    | 3, _, _ => exact Or.inr (h3)
  · simp only [] at h1; omega
theorem isr_1 {t j : Int} (hj : q_isr (2, 0, t) j) : j = 2 ∨ j = 6 := by
  rcases hj with ⟨c2, k2, h1, h2, h3, h4, h5⟩ | ⟨h1, h2, h3⟩
  · have h6 : c2 = 1 := by simp only [] at h1; omega
    subst h6
    have h7 : k2 < 7 := h4
    match k2, h7, h5 with
    | 0, _, h5 => exact absurd h5 (by decide)
    | 1, _, h5 => exact absurd h5 (by decide)
    | 2, _, _ => exact Or.inl h3
    | 3, _, h5 => exact absurd h5 (by decide)
    | 4, _, h5 => exact absurd h5 (by decide)
    | 5, _, h5 => exact absurd h5 (by decide)
    | 6, _, _ => exact Or.inr (h3)
  · simp only [] at h1; omega
theorem isr_2 {t j : Int} (hj : q_isr (3, 0, t) j) : j = 0 ∨ j = 1 ∨ j = 2 := by
  rcases hj with ⟨c2, k2, h1, h2, h3, h4, h5⟩ | ⟨h1, h2, h3⟩
  · have h6 : c2 = 2 := by simp only [] at h1; omega
    subst h6
    have h7 : k2 < 4 := h4
    match k2, h7, h5 with
    | 0, _, _ => exact Or.inl h3
    | 1, _, _ => exact Or.inr (Or.inl h3)
    | 2, _, _ => exact Or.inr (Or.inr (h3))
    | 3, _, h5 => exact absurd h5 (by decide)
  · simp only [] at h1; omega
theorem isr_3 {t j : Int} (hj : q_isr (4, 0, t) j) : j = 1 ∨ j = 2 ∨ j = 3 := by
  rcases hj with ⟨c2, k2, h1, h2, h3, h4, h5⟩ | ⟨h1, h2, h3⟩
  · have h6 : c2 = 3 := by simp only [] at h1; omega
    subst h6
    have h7 : k2 < 4 := h4
    match k2, h7, h5 with
    | 0, _, h5 => exact absurd h5 (by decide)
    | 1, _, _ => exact Or.inl h3
    | 2, _, _ => exact Or.inr (Or.inl h3)
    | 3, _, _ => exact Or.inr (Or.inr (h3))
  · simp only [] at h1; omega
theorem isr_4 {t j : Int} (hj : q_isr (5, 0, t) j) : j = 0 ∨ j = 1 := by
  rcases hj with ⟨c2, k2, h1, h2, h3, h4, h5⟩ | ⟨h1, h2, h3⟩
  · have h6 : c2 = 4 := by simp only [] at h1; omega
    subst h6
    have h7 : k2 < 2 := h4
    match k2, h7, h5 with
    | 0, _, _ => exact Or.inl h3
    | 1, _, _ => exact Or.inr (h3)
  · simp only [] at h1; omega
theorem isr_5 {t j : Int} (hj : q_isr (6, 0, t) j) : j = 1 ∨ j = 2 ∨ j = 3 := by
  rcases hj with ⟨c2, k2, h1, h2, h3, h4, h5⟩ | ⟨h1, h2, h3⟩
  · have h6 : c2 = 5 := by simp only [] at h1; omega
    subst h6
    have h7 : k2 < 4 := h4
    match k2, h7, h5 with
    | 0, _, h5 => exact absurd h5 (by decide)
    | 1, _, _ => exact Or.inl h3
    | 2, _, _ => exact Or.inr (Or.inl h3)
    | 3, _, _ => exact Or.inr (Or.inr (h3))
  · simp only [] at h1; omega
theorem isr_6 {t j : Int} (hj : q_isr (7, 0, t) j) : j = 0 ∨ j = 1 := by
  rcases hj with ⟨c2, k2, h1, h2, h3, h4, h5⟩ | ⟨h1, h2, h3⟩
  · have h6 : c2 = 6 := by simp only [] at h1; omega
    subst h6
    have h7 : k2 < 5 := h4
    match k2, h7, h5 with
    | 0, _, _ => exact Or.inl h3
    | 1, _, _ => exact Or.inr (h3)
    | 2, _, h5 => exact absurd h5 (by decide)
    | 3, _, h5 => exact absurd h5 (by decide)
    | 4, _, h5 => exact absurd h5 (by decide)
  · simp only [] at h1; omega
theorem isr_7 {t j : Int} (hj : q_isr (8, 0, t) j) : j = 0 ∨ j = 1 := by
  rcases hj with ⟨c2, k2, h1, h2, h3, h4, h5⟩ | ⟨h1, h2, h3⟩
  · have h6 : c2 = 7 := by simp only [] at h1; omega
    subst h6
    have h7 : k2 < 2 := h4
    match k2, h7, h5 with
    | 0, _, _ => exact Or.inl h3
    | 1, _, _ => exact Or.inr (h3)
  · simp only [] at h1; omega
theorem isr_8 {t j : Int} (hj : q_isr (9, 0, t) j) : j = 3 ∨ j = 4 ∨ j = 5 ∨ j = 6 ∨ j = 7 := by
  rcases hj with ⟨c2, k2, h1, h2, h3, h4, h5⟩ | ⟨h1, h2, h3⟩
  · have h6 : c2 = 8 := by simp only [] at h1; omega
    subst h6
    have h7 : k2 < 8 := h4
    match k2, h7, h5 with
    | 0, _, h5 => exact absurd h5 (by decide)
    | 1, _, h5 => exact absurd h5 (by decide)
    | 2, _, h5 => exact absurd h5 (by decide)
    | 3, _, _ => exact Or.inl h3
    | 4, _, _ => exact Or.inr (Or.inl h3)
    | 5, _, _ => exact Or.inr (Or.inr (Or.inl h3))
    | 6, _, _ => exact Or.inr (Or.inr (Or.inr (Or.inl h3)))
    | 7, _, _ => exact Or.inr (Or.inr (Or.inr (Or.inr (h3))))
  · simp only [] at h1; omega
theorem isr_9 {t j : Int} (hj : q_isr (10, 0, t) j) : j = 4 := by
  rcases hj with ⟨c2, k2, h1, h2, h3, h4, h5⟩ | ⟨h1, h2, h3⟩
  · have h6 : c2 = 9 := by simp only [] at h1; omega
    subst h6
    have h7 : k2 < 6 := h4
    match k2, h7, h5 with
    | 0, _, h5 => exact absurd h5 (by decide)
    | 1, _, h5 => exact absurd h5 (by decide)
    | 2, _, h5 => exact absurd h5 (by decide)
    | 3, _, h5 => exact absurd h5 (by decide)
    | 4, _, _ => exact h3
    | 5, _, h5 => exact absurd h5 (by decide)
  · simp only [] at h1; omega
theorem isr_10 {t j : Int} (hj : q_isr (11, 0, t) j) : j = 0 ∨ j = 1 ∨ j = 2 ∨ j = 3 ∨ j = 4 ∨ j = 5 ∨ j = 6 ∨ j = 7 := by
  rcases hj with ⟨c2, k2, h1, h2, h3, h4, h5⟩ | ⟨h1, h2, h3⟩
  · have h6 : c2 = 10 := by simp only [] at h1; omega
    subst h6
    have h7 : k2 < 14 := h4
    match k2, h7, h5 with
    | 0, _, _ => exact Or.inl h3
    | 1, _, _ => exact Or.inr (Or.inl h3)
    | 2, _, _ => exact Or.inr (Or.inr (Or.inl h3))
    | 3, _, _ => exact Or.inr (Or.inr (Or.inr (Or.inl h3)))
    | 4, _, _ => exact Or.inr (Or.inr (Or.inr (Or.inr (Or.inl h3))))
    | 5, _, _ => exact Or.inr (Or.inr (Or.inr (Or.inr (Or.inr (Or.inl h3)))))
    | 6, _, _ => exact Or.inr (Or.inr (Or.inr (Or.inr (Or.inr (Or.inr (Or.inl h3))))))
    | 7, _, _ => exact Or.inr (Or.inr (Or.inr (Or.inr (Or.inr (Or.inr (Or.inr (h3)))))))
    | 8, _, h5 => exact absurd h5 (by decide)
    | 9, _, h5 => exact absurd h5 (by decide)
    | 10, _, h5 => exact absurd h5 (by decide)
    | 11, _, h5 => exact absurd h5 (by decide)
    | 12, _, h5 => exact absurd h5 (by decide)
    | 13, _, h5 => exact absurd h5 (by decide)
  · simp only [] at h1; omega
theorem isr_arr {k n : Nat} {t j : Int} (hk : 30 ≤ k) (hj : q_isr (k, n, t) j) : 0 ≤ j ∧ j < (n : Int) := by
  rcases hj with ⟨c2, k2, h1, h2, h3, h4, h5⟩ | ⟨h1, h2, h3⟩
  · simp only [] at h1; omega
  · exact ⟨h2, h3⟩
