/-! THE MEMORY BY NUMBERS: every cell that is done has a number (its tag); S t j is what the cell t holds at j (for a reference: the ghost from which its target's number is read) -/
abbrev q_S : Type := Int → Int → Int
abbrev q_Q2 : Type := (Option q_V ⊕ String) → q_K → q_S → q_S → Prop
def kkm (g : Int) : Nat × Nat :=
  if g = 50 then (12, 0) else if g = 3 then (21, 48) else if g = 21 then (21, 120) else if g ≤ 8 then (20, 48) else if g ≤ 12 then (20, 3) else if g ≤ 15 then (20, 4000)
  else if g ≤ 22 then (20, 120) else if g ≤ 24 then (20, 16) else if g ≤ 26 then (20, 12) else if g ≤ 30 then (20, 10) else if g ≤ 33 then (20, 20000) else if g ≤ 35 then (20, 1500) else if g ≤ 40 then (20, 12) else (20, 20000)
def kkc (g : Int) : Nat × Nat :=
  if g = 100 then (11, 0) else if g = 101 then (20, 12) else if g = 102 then (36, 3) else if g = 103 then (3, 0) else if g = 104 then (6, 0) else if g = 105 then (9, 0) else if g = 106 then (5, 0) else if g = 107 then (8, 0) else if g = 108 then (4, 0)
  else if g ≤ 112 then (7, 0) else if g ≤ 123 then (20, 512) else if g = 124 then (20, 16) else if g = 125 then (39, 120) else if g ≤ 127 then (20, 512) else if g ≤ 130 then (22, 512) else if g ≤ 132 then (20, 16) else if g ≤ 134 then (20, 12) else if g ≤ 137 then (20, 10)
  else if g ≤ 142 then (31, 16) else if g ≤ 152 then (20, 16) else if g ≤ 247 then (2, 0) else (10, 0)
/-- numbers below the final ones: the arrays of a content, and arrays of cells that are being filled -/
def kks (g : Int) : Nat × Nat := if g ≤ 301 then (20, 12) else if g = 502 then (36, 3) else if g = 525 then (39, 120) else (31, 16)
def kk (g : Int) : Nat × Nat := if g < 60 then kkm g else if g = 300 ∨ (g = 301 ∨ g = 502 ∨ g = 525 ∨ (540 ≤ g ∧ g ≤ 542)) then kks g else if g < 1000000 then kkc g else if (g - 1000000) % 3 = 0 then (1, 0) else (20, 12)
def kof (g : Int) : Nat × Nat × Int := ((kk g).1, (kk g).2, g)
/-- the number of the cell to which the slot j of the cell t leads, g its ghost -/
def ln0 (t j g : Int) : Int :=
  if t = 50 then j else if t = 100 then 101 + j else if t = 102 then 110 + j else if t = 103 then 121 + j else if t = 104 then (if j = 3 then 999 else 123 + j) else if t = 105 then 123 + j else if t = 106 then 131 + j else if t = 107 then 133 + j
  else if t = 108 then 134 + j else if t ≤ 112 then t + 30 + 10 * j else if t = 125 then g else if t ≤ 142 then 200 + 16 * (t - 140) + j else if t ≤ 247 then (if j = 6 then 1000000 else g) else if t < 1000000 then g else t + (j - 1)
/-- cells that are being made have the numbers 400 .. 998 (450: the reference's object; 900: a content, its arrays 300 and 301; 901: a version) -/
def ln (t j g : Int) : Int := if 400 ≤ t ∧ t < 999 then (if t = 900 then (if j = 2 then 300 else 301) else if t = 901 then g else if t = 500 ∧ j = 1 then 502 else if t = 504 ∧ j = 2 then 525 else if (510 ≤ t ∧ t ≤ 512) ∧ j = 0 then t + 30 else ln0 (t - 400) j g) else ln0 t j g
/-- slots of unfinished cells that lead to unfinished ones -/
abbrev q_par (t j : Int) : Prop := t = 900 ∨ (t = 500 ∧ j = 1) ∨ (t = 504 ∧ j = 2) ∨ ((510 ≤ t ∧ t ≤ 512) ∧ j = 0)
abbrev q_uf (t : Int) : Prop := 400 ≤ t ∧ t < 999
abbrev q_sc (t : Int) : Prop := 290 ≤ t ∧ t < 999
def q_isr (k : Nat × Nat × Int) (j : Int) : Prop := (∃ (ci kn : Nat), k.1 = ci + 1 ∧ ci < 12 ∧ j = (kn : Int) ∧ kn < q_sz ci ∧ q_ft ci kn = 3) ∨ (30 ≤ k.1 ∧ 0 ≤ j ∧ j < (k.2.1 : Int))
def Rep (K : q_K) (v : q_N) (r : q_A) (S : q_S) : Prop :=
  (∀ q, (K q).1 ≠ 0 → (∀ j, 0 ≤ j → v q j = S (K q).2.2 j) ∧ ∀ j, q_isr (K q) j → (q_uf (K q).2.2 ∧ v q j = 0) ∨ (K (r q j) = kof (ln (K q).2.2 j (v q j)) ∧ (¬ q_sc (ln (K q).2.2 j (v q j)) ∨ q_par (K q).2.2 j))) ∧
  ∀ q q2, (K q).1 ≠ 0 → (K q2).1 ≠ 0 → (K q).2.2 = (K q2).2.2 → (K q).2.2 < 1000000 → q = q2
def q_us (S : q_S) (t j z : Int) : q_S := fun t2 j2 => if t2 = t ∧ j2 = j then z else S t2 j2
/-- the memory of both: the reference's cells have numbers below 100 -/
def mg (M C : q_S) : q_S := fun t j => if t < 100 then M t j else C t j
def q_E (X : q_X) (pc : Nat) (ls : q_Ls) (st : List q_V) (K : q_K) (M C : q_S) (c s : Nat) (Q : q_Q2) : Prop :=
  ∀ (v : q_N) (r : q_A), Rep K v r (mg M C) → q_Ev X pc ls st K v r c s (fun o K2 v2 r2 => ∃ M2 C2, Rep K2 v2 r2 (mg M2 C2) ∧ Q o K2 M2 C2)
theorem mg_m {M C : q_S} {t : Int} (h : t < 100) (j : Int) : mg M C t j = M t j := if_pos h
theorem mg_c {M C : q_S} {t : Int} (h : 100 ≤ t) (j : Int) : mg M C t j = C t j := if_neg (by omega)
theorem mg_um {M C : q_S} {t j z : Int} (h : t < 100) : q_us (mg M C) t j z = mg (q_us M t j z) C := by
  funext t2 j2
  by_cases e : t2 = t ∧ j2 = j
  · obtain ⟨rfl, rfl⟩ := e
    simp [q_us, mg, h]
  · simp only [q_us, mg, if_neg e]
theorem mg_uc {M C : q_S} {t j z : Int} (h : 100 ≤ t) : q_us (mg M C) t j z = mg M (q_us C t j z) := by
  funext t2 j2
  by_cases e : t2 = t ∧ j2 = j
  · obtain ⟨rfl, rfl⟩ := e
    have h2 : ¬ t2 < 100 := by omega
    simp [q_us, mg, h2]
  · simp only [q_us, mg, if_neg e]

theorem e_iconst {X : q_X} {pc : Nat} {ls : q_Ls} {st : List q_V} {K : q_K} {M : q_S} {C : q_S} {c : Nat} {s : Nat} {Q : q_Q2} {n : Int} (d : decode (q_b X) pc = .ok (.iconst n, 1)) (k1 : q_E X (pc + 1) ls (q_I n :: st) K M C c s Q) : q_E X pc ls st K M C c s Q := fun v r hR => q_iconst d (k1 v r hR)
theorem e_bipush {X : q_X} {pc : Nat} {ls : q_Ls} {st : List q_V} {K : q_K} {M : q_S} {C : q_S} {c : Nat} {s : Nat} {Q : q_Q2} {n : Int} (d : decode (q_b X) pc = .ok (.bipush n, 2)) (hn : -128 ≤ n ∧ n < 128) (k1 : q_E X (pc + 2) ls (q_I n :: st) K M C c s Q) : q_E X pc ls st K M C c s Q := fun v r hR => q_bipush d hn (k1 v r hR)
theorem e_sipush {X : q_X} {pc : Nat} {ls : q_Ls} {st : List q_V} {K : q_K} {M : q_S} {C : q_S} {c : Nat} {s : Nat} {Q : q_Q2} {n : Int} (d : decode (q_b X) pc = .ok (.sipush n, 3)) (hn : -32768 ≤ n ∧ n < 32768) (k1 : q_E X (pc + 3) ls (q_I n :: st) K M C c s Q) : q_E X pc ls st K M C c s Q := fun v r hR => q_sipush d hn (k1 v r hR)
theorem e_lconst {X : q_X} {pc : Nat} {ls : q_Ls} {st : List q_V} {K : q_K} {M : q_S} {C : q_S} {c : Nat} {s : Nat} {Q : q_Q2} {n : Fin 2} {z : Int} (d : decode (q_b X) pc = .ok (.lconst n, 1)) (hn : ((n : Nat) : Int) = z) (k1 : q_E X (pc + 1) ls (q_L z :: st) K M C c s Q) : q_E X pc ls st K M C c s Q := fun v r hR => q_lconst d hn (k1 v r hR)
theorem e_ldc2 {X : q_X} {pc : Nat} {ls : q_Ls} {st : List q_V} {K : q_K} {M : q_S} {C : q_S} {c : Nat} {s : Nat} {Q : q_Q2} {i : Nat} {z : Int} (d : decode (q_b X) pc = .ok (.ldc2_w i, 3)) (hw : Cond.constantLong (q_y X).cls i (Int64.ofInt z) ∈ q_tw) (k1 : q_E X (pc + 3) ls (q_L z :: st) K M C c s Q) : q_E X pc ls st K M C c s Q := fun v r hR => q_ldc2 d hw (k1 v r hR)
theorem e_iload_n {X : q_X} {pc : Nat} {ls : q_Ls} {st : List q_V} {K : q_K} {M : q_S} {C : q_S} {c : Nat} {s : Nat} {Q : q_Q2} {k : Fin 4} {z : Int} (d : decode (q_b X) pc = .ok (.iload_n k, 1)) (hl : ls[(k : Nat)]? = some (some (q_I z))) (k1 : q_E X (pc + 1) ls (q_I z :: st) K M C c s Q) : q_E X pc ls st K M C c s Q := fun v r hR => q_iload_n d hl (k1 v r hR)
theorem e_iload {X : q_X} {pc : Nat} {ls : q_Ls} {st : List q_V} {K : q_K} {M : q_S} {C : q_S} {c : Nat} {s : Nat} {Q : q_Q2} {i : Nat} {z : Int} (d : decode (q_b X) pc = .ok (.iload i, 2)) (hl : ls[i]? = some (some (q_I z))) (k1 : q_E X (pc + 2) ls (q_I z :: st) K M C c s Q) : q_E X pc ls st K M C c s Q := fun v r hR => q_iload d hl (k1 v r hR)
theorem e_aload_n {X : q_X} {pc : Nat} {ls : q_Ls} {st : List q_V} {K : q_K} {M : q_S} {C : q_S} {c : Nat} {s : Nat} {Q : q_Q2} {k : Fin 4} {z : Nat} (d : decode (q_b X) pc = .ok (.aload_n k, 1)) (hl : ls[(k : Nat)]? = some (some (q_R z))) (k1 : q_E X (pc + 1) ls (q_R z :: st) K M C c s Q) : q_E X pc ls st K M C c s Q := fun v r hR => q_aload_n d hl (k1 v r hR)
theorem e_aload {X : q_X} {pc : Nat} {ls : q_Ls} {st : List q_V} {K : q_K} {M : q_S} {C : q_S} {c : Nat} {s : Nat} {Q : q_Q2} {i : Nat} {z : Nat} (d : decode (q_b X) pc = .ok (.aload i, 2)) (hl : ls[i]? = some (some (q_R z))) (k1 : q_E X (pc + 2) ls (q_R z :: st) K M C c s Q) : q_E X pc ls st K M C c s Q := fun v r hR => q_aload d hl (k1 v r hR)
theorem e_lload_n {X : q_X} {pc : Nat} {ls : q_Ls} {st : List q_V} {K : q_K} {M : q_S} {C : q_S} {c : Nat} {s : Nat} {Q : q_Q2} {k : Fin 4} {z : Int} (d : decode (q_b X) pc = .ok (.lload_n k, 1)) (hl : ls[(k : Nat)]? = some (some (q_L z))) (k1 : q_E X (pc + 1) ls (q_L z :: st) K M C c s Q) : q_E X pc ls st K M C c s Q := fun v r hR => q_lload_n d hl (k1 v r hR)
theorem e_lload {X : q_X} {pc : Nat} {ls : q_Ls} {st : List q_V} {K : q_K} {M : q_S} {C : q_S} {c : Nat} {s : Nat} {Q : q_Q2} {i : Nat} {z : Int} (d : decode (q_b X) pc = .ok (.lload i, 2)) (hl : ls[i]? = some (some (q_L z))) (k1 : q_E X (pc + 2) ls (q_L z :: st) K M C c s Q) : q_E X pc ls st K M C c s Q := fun v r hR => q_lload d hl (k1 v r hR)
theorem e_istore_n {X : q_X} {pc : Nat} {ls : q_Ls} {st : List q_V} {K : q_K} {M : q_S} {C : q_S} {c : Nat} {s : Nat} {Q : q_Q2} {k : Fin 4} {z : Int} {ls2 : q_Ls} (d : decode (q_b X) pc = .ok (.istore_n k, 1)) (hn : (k : Nat) < q_n X) (hl : q_set ls (k : Nat) (q_I z) = ls2) (k1 : q_E X (pc + 1) ls2 st K M C c s Q) : q_E X pc ls (q_I z :: st) K M C c s Q := fun v r hR => q_istore_n d hn hl (k1 v r hR)
theorem e_istore {X : q_X} {pc : Nat} {ls : q_Ls} {st : List q_V} {K : q_K} {M : q_S} {C : q_S} {c : Nat} {s : Nat} {Q : q_Q2} {i : Nat} {z : Int} {ls2 : q_Ls} (d : decode (q_b X) pc = .ok (.istore i, 2)) (hn : i < q_n X) (hl : q_set ls i (q_I z) = ls2) (k1 : q_E X (pc + 2) ls2 st K M C c s Q) : q_E X pc ls (q_I z :: st) K M C c s Q := fun v r hR => q_istore d hn hl (k1 v r hR)
theorem e_astore_n {X : q_X} {pc : Nat} {ls : q_Ls} {st : List q_V} {K : q_K} {M : q_S} {C : q_S} {c : Nat} {s : Nat} {Q : q_Q2} {k : Fin 4} {z : Nat} {ls2 : q_Ls} (d : decode (q_b X) pc = .ok (.astore_n k, 1)) (hn : (k : Nat) < q_n X) (hl : q_set ls (k : Nat) (q_R z) = ls2) (k1 : q_E X (pc + 1) ls2 st K M C c s Q) : q_E X pc ls (q_R z :: st) K M C c s Q := fun v r hR => q_astore_n d hn hl (k1 v r hR)
theorem e_astore {X : q_X} {pc : Nat} {ls : q_Ls} {st : List q_V} {K : q_K} {M : q_S} {C : q_S} {c : Nat} {s : Nat} {Q : q_Q2} {i : Nat} {z : Nat} {ls2 : q_Ls} (d : decode (q_b X) pc = .ok (.astore i, 2)) (hn : i < q_n X) (hl : q_set ls i (q_R z) = ls2) (k1 : q_E X (pc + 2) ls2 st K M C c s Q) : q_E X pc ls (q_R z :: st) K M C c s Q := fun v r hR => q_astore d hn hl (k1 v r hR)
theorem e_lstore_n {X : q_X} {pc : Nat} {ls : q_Ls} {st : List q_V} {K : q_K} {M : q_S} {C : q_S} {c : Nat} {s : Nat} {Q : q_Q2} {k : Fin 4} {z : Int} {ls2 : q_Ls} (d : decode (q_b X) pc = .ok (.lstore_n k, 1)) (hn : (k : Nat) + 1 < q_n X) (hl : q_setL ls (k : Nat) (q_L z) = ls2) (k1 : q_E X (pc + 1) ls2 st K M C c s Q) : q_E X pc ls (q_L z :: st) K M C c s Q := fun v r hR => q_lstore_n d hn hl (k1 v r hR)
theorem e_iinc {X : q_X} {pc : Nat} {ls : q_Ls} {st : List q_V} {K : q_K} {M : q_S} {C : q_S} {c : Nat} {s : Nat} {Q : q_Q2} {i : Nat} {n z : Int} {ls2 : q_Ls} (d : decode (q_b X) pc = .ok (.iinc i n, 3)) (hi : ls[i]? = some (some (q_I z))) (hn : i < q_n X) (hl : q_set ls i (q_I (z + n)) = ls2) (k1 : q_E X (pc + 3) ls2 st K M C c s Q) : q_E X pc ls st K M C c s Q := fun v r hR => q_iinc d hi hn hl (k1 v r hR)
theorem e_iadd {X : q_X} {pc : Nat} {ls : q_Ls} {st : List q_V} {K : q_K} {M : q_S} {C : q_S} {c : Nat} {s : Nat} {Q : q_Q2} {x y : Int} (d : decode (q_b X) pc = .ok (.iadd, 1)) (k1 : q_E X (pc + 1) ls (q_I (x + y) :: st) K M C c s Q) : q_E X pc ls (q_I y :: q_I x :: st) K M C c s Q := fun v r hR => q_iadd d (k1 v r hR)
theorem e_isub {X : q_X} {pc : Nat} {ls : q_Ls} {st : List q_V} {K : q_K} {M : q_S} {C : q_S} {c : Nat} {s : Nat} {Q : q_Q2} {x y : Int} (d : decode (q_b X) pc = .ok (.isub, 1)) (k1 : q_E X (pc + 1) ls (q_I (x - y) :: st) K M C c s Q) : q_E X pc ls (q_I y :: q_I x :: st) K M C c s Q := fun v r hR => q_isub d (k1 v r hR)
theorem e_imul {X : q_X} {pc : Nat} {ls : q_Ls} {st : List q_V} {K : q_K} {M : q_S} {C : q_S} {c : Nat} {s : Nat} {Q : q_Q2} {x y : Int} (d : decode (q_b X) pc = .ok (.imul, 1)) (k1 : q_E X (pc + 1) ls (q_I (x * y) :: st) K M C c s Q) : q_E X pc ls (q_I y :: q_I x :: st) K M C c s Q := fun v r hR => q_imul d (k1 v r hR)
theorem e_idiv {X : q_X} {pc : Nat} {ls : q_Ls} {st : List q_V} {K : q_K} {M : q_S} {C : q_S} {c : Nat} {s : Nat} {Q : q_Q2} {x y : Int} (d : decode (q_b X) pc = .ok (.idiv, 1)) (hx : 0 ≤ x ∧ x < 2147483648) (hy : 0 < y ∧ y < 2147483648) (k1 : q_E X (pc + 1) ls (q_I (x / y) :: st) K M C c s Q) : q_E X pc ls (q_I y :: q_I x :: st) K M C c s Q := fun v r hR => q_idiv d hx hy (k1 v r hR)
theorem e_irem {X : q_X} {pc : Nat} {ls : q_Ls} {st : List q_V} {K : q_K} {M : q_S} {C : q_S} {c : Nat} {s : Nat} {Q : q_Q2} {x y : Int} (d : decode (q_b X) pc = .ok (.irem, 1)) (hx : 0 ≤ x ∧ x < 2147483648) (hy : 0 < y ∧ y < 2147483648) (k1 : q_E X (pc + 1) ls (q_I (x % y) :: st) K M C c s Q) : q_E X pc ls (q_I y :: q_I x :: st) K M C c s Q := fun v r hR => q_irem d hx hy (k1 v r hR)
theorem e_iand63 {X : q_X} {pc : Nat} {ls : q_Ls} {st : List q_V} {K : q_K} {M : q_S} {C : q_S} {c : Nat} {s : Nat} {Q : q_Q2} {x y : Int} (d : decode (q_b X) pc = .ok (.iand, 1)) (hy : y = 63) (hx : q_iI x) (k1 : q_E X (pc + 1) ls (q_I (x % 64) :: st) K M C c s Q) : q_E X pc ls (q_I y :: q_I x :: st) K M C c s Q := fun v r hR => q_iand63 d hy hx (k1 v r hR)
theorem e_ladd {X : q_X} {pc : Nat} {ls : q_Ls} {st : List q_V} {K : q_K} {M : q_S} {C : q_S} {c : Nat} {s : Nat} {Q : q_Q2} {x y : Int} (d : decode (q_b X) pc = .ok (.ladd, 1)) (k1 : q_E X (pc + 1) ls (q_L (x + y) :: st) K M C c s Q) : q_E X pc ls (q_L y :: q_L x :: st) K M C c s Q := fun v r hR => q_ladd d (k1 v r hR)
theorem e_lmul {X : q_X} {pc : Nat} {ls : q_Ls} {st : List q_V} {K : q_K} {M : q_S} {C : q_S} {c : Nat} {s : Nat} {Q : q_Q2} {x y : Int} (d : decode (q_b X) pc = .ok (.lmul, 1)) (k1 : q_E X (pc + 1) ls (q_L (x * y) :: st) K M C c s Q) : q_E X pc ls (q_L y :: q_L x :: st) K M C c s Q := fun v r hR => q_lmul d (k1 v r hR)
theorem e_ldiv {X : q_X} {pc : Nat} {ls : q_Ls} {st : List q_V} {K : q_K} {M : q_S} {C : q_S} {c : Nat} {s : Nat} {Q : q_Q2} {x y : Int} (d : decode (q_b X) pc = .ok (.ldiv, 1)) (hx : 0 ≤ x ∧ x < 9223372036854775808) (hy : 0 < y ∧ y < 9223372036854775808) (k1 : q_E X (pc + 1) ls (q_L (x / y) :: st) K M C c s Q) : q_E X pc ls (q_L y :: q_L x :: st) K M C c s Q := fun v r hR => q_ldiv d hx hy (k1 v r hR)
theorem e_lrem {X : q_X} {pc : Nat} {ls : q_Ls} {st : List q_V} {K : q_K} {M : q_S} {C : q_S} {c : Nat} {s : Nat} {Q : q_Q2} {x y : Int} (d : decode (q_b X) pc = .ok (.lrem, 1)) (hx : 0 ≤ x ∧ x < 9223372036854775808) (hy : 0 < y ∧ y < 9223372036854775808) (k1 : q_E X (pc + 1) ls (q_L (x % y) :: st) K M C c s Q) : q_E X pc ls (q_L y :: q_L x :: st) K M C c s Q := fun v r hR => q_lrem d hx hy (k1 v r hR)
theorem e_lcmp {X : q_X} {pc : Nat} {ls : q_Ls} {st : List q_V} {K : q_K} {M : q_S} {C : q_S} {c : Nat} {s : Nat} {Q : q_Q2} {x y : Int} (d : decode (q_b X) pc = .ok (.lcmp, 1)) (hx : q_iL x) (hy : q_iL y) (k1 : q_E X (pc + 1) ls (q_I (q_cmp x y) :: st) K M C c s Q) : q_E X pc ls (q_L y :: q_L x :: st) K M C c s Q := fun v r hR => q_lcmp d hx hy (k1 v r hR)
theorem e_i2l {X : q_X} {pc : Nat} {ls : q_Ls} {st : List q_V} {K : q_K} {M : q_S} {C : q_S} {c : Nat} {s : Nat} {Q : q_Q2} {x : Int} (d : decode (q_b X) pc = .ok (.i2l, 1)) (hx : q_iI x) (k1 : q_E X (pc + 1) ls (q_L x :: st) K M C c s Q) : q_E X pc ls (q_I x :: st) K M C c s Q := fun v r hR => q_i2l d hx (k1 v r hR)
theorem e_l2i {X : q_X} {pc : Nat} {ls : q_Ls} {st : List q_V} {K : q_K} {M : q_S} {C : q_S} {c : Nat} {s : Nat} {Q : q_Q2} {x : Int} (d : decode (q_b X) pc = .ok (.l2i, 1)) (k1 : q_E X (pc + 1) ls (q_I x :: st) K M C c s Q) : q_E X pc ls (q_L x :: st) K M C c s Q := fun v r hR => q_l2i d (k1 v r hR)
theorem e_if_eq {X : q_X} {pc : Nat} {ls : q_Ls} {st : List q_V} {K : q_K} {M : q_S} {C : q_S} {c : Nat} {s : Nat} {Q : q_Q2} {x off : Int} {tgt : Nat} (d : decode (q_b X) pc = .ok (.ifCond .eq off, 3)) (ht : (pc : Int) + off = (tgt : Int)) (hx : q_iI x) (k1 : x = 0 → q_E X tgt ls st K M C c s Q) (k2 : ¬ x = 0 → q_E X (pc + 3) ls st K M C c s Q) : q_E X pc ls (q_I x :: st) K M C c s Q := fun v r hR => q_if_eq d ht hx (fun h9 => k1 h9 v r hR) (fun h9 => k2 h9 v r hR)
theorem e_icmp_eq {X : q_X} {pc : Nat} {ls : q_Ls} {st : List q_V} {K : q_K} {M : q_S} {C : q_S} {c : Nat} {s : Nat} {Q : q_Q2} {x y off : Int} {tgt : Nat} (d : decode (q_b X) pc = .ok (.if_icmp .eq off, 3)) (ht : (pc : Int) + off = (tgt : Int)) (hx : q_iI x) (hy : q_iI y) (k1 : x = y → q_E X tgt ls st K M C c s Q) (k2 : ¬ x = y → q_E X (pc + 3) ls st K M C c s Q) : q_E X pc ls (q_I y :: q_I x :: st) K M C c s Q := fun v r hR => q_icmp_eq d ht hx hy (fun h9 => k1 h9 v r hR) (fun h9 => k2 h9 v r hR)
theorem e_if_ne {X : q_X} {pc : Nat} {ls : q_Ls} {st : List q_V} {K : q_K} {M : q_S} {C : q_S} {c : Nat} {s : Nat} {Q : q_Q2} {x off : Int} {tgt : Nat} (d : decode (q_b X) pc = .ok (.ifCond .ne off, 3)) (ht : (pc : Int) + off = (tgt : Int)) (hx : q_iI x) (k1 : ¬ x = 0 → q_E X tgt ls st K M C c s Q) (k2 : x = 0 → q_E X (pc + 3) ls st K M C c s Q) : q_E X pc ls (q_I x :: st) K M C c s Q := fun v r hR => q_if_ne d ht hx (fun h9 => k1 h9 v r hR) (fun h9 => k2 h9 v r hR)
theorem e_icmp_ne {X : q_X} {pc : Nat} {ls : q_Ls} {st : List q_V} {K : q_K} {M : q_S} {C : q_S} {c : Nat} {s : Nat} {Q : q_Q2} {x y off : Int} {tgt : Nat} (d : decode (q_b X) pc = .ok (.if_icmp .ne off, 3)) (ht : (pc : Int) + off = (tgt : Int)) (hx : q_iI x) (hy : q_iI y) (k1 : ¬ x = y → q_E X tgt ls st K M C c s Q) (k2 : x = y → q_E X (pc + 3) ls st K M C c s Q) : q_E X pc ls (q_I y :: q_I x :: st) K M C c s Q := fun v r hR => q_icmp_ne d ht hx hy (fun h9 => k1 h9 v r hR) (fun h9 => k2 h9 v r hR)
theorem e_if_lt {X : q_X} {pc : Nat} {ls : q_Ls} {st : List q_V} {K : q_K} {M : q_S} {C : q_S} {c : Nat} {s : Nat} {Q : q_Q2} {x off : Int} {tgt : Nat} (d : decode (q_b X) pc = .ok (.ifCond .lt off, 3)) (ht : (pc : Int) + off = (tgt : Int)) (hx : q_iI x) (k1 : x < 0 → q_E X tgt ls st K M C c s Q) (k2 : ¬ x < 0 → q_E X (pc + 3) ls st K M C c s Q) : q_E X pc ls (q_I x :: st) K M C c s Q := fun v r hR => q_if_lt d ht hx (fun h9 => k1 h9 v r hR) (fun h9 => k2 h9 v r hR)
theorem e_icmp_lt {X : q_X} {pc : Nat} {ls : q_Ls} {st : List q_V} {K : q_K} {M : q_S} {C : q_S} {c : Nat} {s : Nat} {Q : q_Q2} {x y off : Int} {tgt : Nat} (d : decode (q_b X) pc = .ok (.if_icmp .lt off, 3)) (ht : (pc : Int) + off = (tgt : Int)) (hx : q_iI x) (hy : q_iI y) (k1 : x < y → q_E X tgt ls st K M C c s Q) (k2 : ¬ x < y → q_E X (pc + 3) ls st K M C c s Q) : q_E X pc ls (q_I y :: q_I x :: st) K M C c s Q := fun v r hR => q_icmp_lt d ht hx hy (fun h9 => k1 h9 v r hR) (fun h9 => k2 h9 v r hR)
theorem e_if_ge {X : q_X} {pc : Nat} {ls : q_Ls} {st : List q_V} {K : q_K} {M : q_S} {C : q_S} {c : Nat} {s : Nat} {Q : q_Q2} {x off : Int} {tgt : Nat} (d : decode (q_b X) pc = .ok (.ifCond .ge off, 3)) (ht : (pc : Int) + off = (tgt : Int)) (hx : q_iI x) (k1 : 0 ≤ x → q_E X tgt ls st K M C c s Q) (k2 : ¬ 0 ≤ x → q_E X (pc + 3) ls st K M C c s Q) : q_E X pc ls (q_I x :: st) K M C c s Q := fun v r hR => q_if_ge d ht hx (fun h9 => k1 h9 v r hR) (fun h9 => k2 h9 v r hR)
theorem e_icmp_ge {X : q_X} {pc : Nat} {ls : q_Ls} {st : List q_V} {K : q_K} {M : q_S} {C : q_S} {c : Nat} {s : Nat} {Q : q_Q2} {x y off : Int} {tgt : Nat} (d : decode (q_b X) pc = .ok (.if_icmp .ge off, 3)) (ht : (pc : Int) + off = (tgt : Int)) (hx : q_iI x) (hy : q_iI y) (k1 : y ≤ x → q_E X tgt ls st K M C c s Q) (k2 : ¬ y ≤ x → q_E X (pc + 3) ls st K M C c s Q) : q_E X pc ls (q_I y :: q_I x :: st) K M C c s Q := fun v r hR => q_icmp_ge d ht hx hy (fun h9 => k1 h9 v r hR) (fun h9 => k2 h9 v r hR)
theorem e_if_gt {X : q_X} {pc : Nat} {ls : q_Ls} {st : List q_V} {K : q_K} {M : q_S} {C : q_S} {c : Nat} {s : Nat} {Q : q_Q2} {x off : Int} {tgt : Nat} (d : decode (q_b X) pc = .ok (.ifCond .gt off, 3)) (ht : (pc : Int) + off = (tgt : Int)) (hx : q_iI x) (k1 : 0 < x → q_E X tgt ls st K M C c s Q) (k2 : ¬ 0 < x → q_E X (pc + 3) ls st K M C c s Q) : q_E X pc ls (q_I x :: st) K M C c s Q := fun v r hR => q_if_gt d ht hx (fun h9 => k1 h9 v r hR) (fun h9 => k2 h9 v r hR)
theorem e_icmp_gt {X : q_X} {pc : Nat} {ls : q_Ls} {st : List q_V} {K : q_K} {M : q_S} {C : q_S} {c : Nat} {s : Nat} {Q : q_Q2} {x y off : Int} {tgt : Nat} (d : decode (q_b X) pc = .ok (.if_icmp .gt off, 3)) (ht : (pc : Int) + off = (tgt : Int)) (hx : q_iI x) (hy : q_iI y) (k1 : y < x → q_E X tgt ls st K M C c s Q) (k2 : ¬ y < x → q_E X (pc + 3) ls st K M C c s Q) : q_E X pc ls (q_I y :: q_I x :: st) K M C c s Q := fun v r hR => q_icmp_gt d ht hx hy (fun h9 => k1 h9 v r hR) (fun h9 => k2 h9 v r hR)
theorem e_if_le {X : q_X} {pc : Nat} {ls : q_Ls} {st : List q_V} {K : q_K} {M : q_S} {C : q_S} {c : Nat} {s : Nat} {Q : q_Q2} {x off : Int} {tgt : Nat} (d : decode (q_b X) pc = .ok (.ifCond .le off, 3)) (ht : (pc : Int) + off = (tgt : Int)) (hx : q_iI x) (k1 : x ≤ 0 → q_E X tgt ls st K M C c s Q) (k2 : ¬ x ≤ 0 → q_E X (pc + 3) ls st K M C c s Q) : q_E X pc ls (q_I x :: st) K M C c s Q := fun v r hR => q_if_le d ht hx (fun h9 => k1 h9 v r hR) (fun h9 => k2 h9 v r hR)
theorem e_icmp_le {X : q_X} {pc : Nat} {ls : q_Ls} {st : List q_V} {K : q_K} {M : q_S} {C : q_S} {c : Nat} {s : Nat} {Q : q_Q2} {x y off : Int} {tgt : Nat} (d : decode (q_b X) pc = .ok (.if_icmp .le off, 3)) (ht : (pc : Int) + off = (tgt : Int)) (hx : q_iI x) (hy : q_iI y) (k1 : x ≤ y → q_E X tgt ls st K M C c s Q) (k2 : ¬ x ≤ y → q_E X (pc + 3) ls st K M C c s Q) : q_E X pc ls (q_I y :: q_I x :: st) K M C c s Q := fun v r hR => q_icmp_le d ht hx hy (fun h9 => k1 h9 v r hR) (fun h9 => k2 h9 v r hR)
theorem e_icmp_geA {X : q_X} {pc : Nat} {ls : q_Ls} {st : List q_V} {K : q_K} {M : q_S} {C : q_S} {c : Nat} {s : Nat} {Q : q_Q2} {x y off : Int} {tgt : Nat} (d : decode (q_b X) pc = .ok (.if_icmp .ge off, 3)) (ht : (pc : Int) + off = (tgt : Int)) (k1 : q_E X tgt ls st K M C c s Q) (k2 : q_E X (pc + 3) ls st K M C c s Q) : q_E X pc ls (q_I y :: q_I x :: st) K M C c s Q := fun v r hR => q_icmp_geA d ht (k1 v r hR) (k2 v r hR)
theorem e_goto {X : q_X} {pc : Nat} {ls : q_Ls} {st : List q_V} {K : q_K} {M : q_S} {C : q_S} {c : Nat} {s : Nat} {Q : q_Q2} {off : Int} {tgt : Nat} (d : decode (q_b X) pc = .ok (.goto off, 3)) (ht : (pc : Int) + off = (tgt : Int)) (k1 : q_E X tgt ls st K M C c s Q) : q_E X pc ls st K M C c s Q := fun v r hR => q_goto d ht (k1 v r hR)
theorem e_tsIn {X : q_X} {pc : Nat} {ls : q_Ls} {st : List q_V} {K : q_K} {M : q_S} {C : q_S} {c : Nat} {s : Nat} {Q : q_Q2} {dflt lo hi : Int} {offs : Array Int} {len : Nat} {x off : Int} {j tgt : Nat} (d : decode (q_b X) pc = .ok (.tableswitch dflt lo hi offs, len)) (hx : q_iI x) (hj : x = lo + (j : Int)) (hh : x ≤ hi) (ho : offs[j]? = some off) (ht : (pc : Int) + off = (tgt : Int)) (k1 : q_E X tgt ls st K M C c s Q) : q_E X pc ls (q_I x :: st) K M C c s Q := fun v r hR => q_tsIn d hx hj hh ho ht (k1 v r hR)
theorem e_tsOut {X : q_X} {pc : Nat} {ls : q_Ls} {st : List q_V} {K : q_K} {M : q_S} {C : q_S} {c : Nat} {s : Nat} {Q : q_Q2} {dflt lo hi : Int} {offs : Array Int} {len : Nat} {x : Int} {tgt : Nat} (d : decode (q_b X) pc = .ok (.tableswitch dflt lo hi offs, len)) (hx : q_iI x) (hh : x < lo ∨ hi < x) (ht : (pc : Int) + dflt = (tgt : Int)) (k1 : q_E X tgt ls st K M C c s Q) : q_E X pc ls (q_I x :: st) K M C c s Q := fun v r hR => q_tsOut d hx hh ht (k1 v r hR)
theorem e_dup {X : q_X} {pc : Nat} {ls : q_Ls} {st : List q_V} {K : q_K} {M : q_S} {C : q_S} {c : Nat} {s : Nat} {Q : q_Q2} {x : q_V} (d : decode (q_b X) pc = .ok (.dup, 1)) (hc : q_cat x = 1) (k1 : q_E X (pc + 1) ls (x :: x :: st) K M C c s Q) : q_E X pc ls (x :: st) K M C c s Q := fun v r hR => q_dup d hc (k1 v r hR)
theorem e_dup2 {X : q_X} {pc : Nat} {ls : q_Ls} {st : List q_V} {K : q_K} {M : q_S} {C : q_S} {c : Nat} {s : Nat} {Q : q_Q2} {x y : q_V} (d : decode (q_b X) pc = .ok (.dup2, 1)) (hx : q_cat x = 1) (hy : q_cat y = 1) (k1 : q_E X (pc + 1) ls (x :: y :: x :: y :: st) K M C c s Q) : q_E X pc ls (x :: y :: st) K M C c s Q := fun v r hR => q_dup2 d hx hy (k1 v r hR)
theorem e_pop {X : q_X} {pc : Nat} {ls : q_Ls} {st : List q_V} {K : q_K} {M : q_S} {C : q_S} {c : Nat} {s : Nat} {Q : q_Q2} {x : q_V} (d : decode (q_b X) pc = .ok (.pop, 1)) (hc : q_cat x = 1) (k1 : q_E X (pc + 1) ls st K M C c s Q) : q_E X pc ls (x :: st) K M C c s Q := fun v r hR => q_pop d hc (k1 v r hR)
theorem e_objI {X : q_X} {pc : Nat} {ls : q_Ls} {st : List q_V} {K : q_K} {M : q_S} {C : q_S} {c : Nat} {s : Nat} {Q : q_Q2} {a idx : Nat} (d : decode (q_b X) pc = .ok (.invokespecial idx, 3)) (hl : Cond.methodLink (q_y X).cls idx Lib.objectInit ∈ q_tw) (hr8 : (st.map q_cat).sum ≤ 8) (hfr : 1 ≤ q_fr X ∧ 20 ≤ q_lo X) (k1 : q_E X (pc + 3) ls st K M C c s Q) : q_E X pc ls (q_R a :: st) K M C c s Q := fun v r hR => q_objI d hl hr8 hfr (k1 v r hR)
theorem e_mmin {X : q_X} {pc : Nat} {ls : q_Ls} {st : List q_V} {K : q_K} {M : q_S} {C : q_S} {c : Nat} {s : Nat} {Q : q_Q2} {idx : Nat} {x y : Int} (d : decode (q_b X) pc = .ok (.invokestatic idx, 3)) (hl : Cond.methodLink (q_y X).cls idx Lib.Math.min.name ∈ q_tw) (hr8 : (st.map q_cat).sum ≤ 8) (hfr : 1 ≤ q_fr X ∧ 40 ≤ q_lo X) (hx : q_iI x) (hy : q_iI y) (k1 : q_E X (pc + 3) ls (q_I (min x y) :: st) K M C c s Q) : q_E X pc ls (q_I y :: q_I x :: st) K M C c s Q := fun v r hR => q_mmin d hl hr8 hfr hx hy (k1 v r hR)
theorem e_mmax {X : q_X} {pc : Nat} {ls : q_Ls} {st : List q_V} {K : q_K} {M : q_S} {C : q_S} {c : Nat} {s : Nat} {Q : q_Q2} {idx : Nat} {x y : Int} (d : decode (q_b X) pc = .ok (.invokestatic idx, 3)) (hl : Cond.methodLink (q_y X).cls idx Lib.Math.max.name ∈ q_tw) (hr8 : (st.map q_cat).sum ≤ 8) (hfr : 1 ≤ q_fr X ∧ 40 ≤ q_lo X) (hx : q_iI x) (hy : q_iI y) (k1 : q_E X (pc + 3) ls (q_I (max x y) :: st) K M C c s Q) : q_E X pc ls (q_I y :: q_I x :: st) K M C c s Q := fun v r hR => q_mmax d hl hr8 hfr hx hy (k1 v r hR)
theorem e_drop {X : q_X} {pc : Nat} {ls : q_Ls} {st : List q_V} {K : q_K} {M : q_S} {C : q_S} {c : Nat} {s : Nat} {Q : q_Q2} {k : Nat} {ls2 : q_Ls} (hl : ls.set k none = ls2) (k1 : q_E X pc ls2 st K M C c s Q) : q_E X pc ls st K M C c s Q := fun v r hR => q_drop hl (k1 v r hR)
theorem e_room {X : q_X} {pc : Nat} {ls : q_Ls} {st : List q_V} {K : q_K} {M : q_S} {C : q_S} {c : Nat} {s : Nat} {Q : q_Q2} {c1 s1 : Nat} (hc : c1 ≤ c) (hs : s1 ≤ s) (k1 : q_E X pc ls st K M C c1 s1 Q) : q_E X pc ls st K M C c s Q := fun v r hR => q_room hc hs (k1 v r hR)
section EM
variable {X : q_X} {pc : Nat} {ls : q_Ls} {st : List q_V} {K : q_K} {S M C : q_S} {c s : Nat} {Q : q_Q2}
theorem e_conseq {Q1 : q_Q2} (h : ∀ o K1 M1 C1, Q1 o K1 M1 C1 → Q o K1 M1 C1) (k : q_E X pc ls st K M C c s Q1) : q_E X pc ls st K M C c s Q := fun v r hR =>
  q_conseq (fun o K1 v1 r1 ⟨M1, C1, h1, h2⟩ => ⟨M1, C1, h1, h o K1 M1 C1 h2⟩) (k v r hR)
theorem Rep.get {v : q_N} {r : q_A} (h : Rep K v r S) {a : Nat} {k : Nat × Nat × Int} (hk : K a = k) (h0 : k.1 ≠ 0) {j : Int} (hj : 0 ≤ j) : v a j = S k.2.2 j := by
  subst hk; exact (h.1 a h0).1 j hj
theorem Rep.lnk {v : q_N} {r : q_A} (h : Rep K v r S) {a : Nat} {k : Nat × Nat × Int} (hk : K a = k) (h0 : k.1 ≠ 0) {j : Int} (hj : 0 ≤ j) (hr : q_isr k j) (hu : ¬ q_uf k.2.2 ∨ S k.2.2 j ≠ 0) : K (r a j) = kof (ln k.2.2 j (S k.2.2 j)) := by
  have e := h.get hk h0 hj
  subst hk
  rcases (h.1 a h0).2 j hr with ⟨g1, g2⟩ | ⟨g1, -⟩
  · exact absurd (e.symm.trans g2) (hu.elim (fun x => absurd g1 x) (fun x => x))
  · rw [← e]; exact g1
theorem Rep.up {v : q_N} {r : q_A} (h : Rep K v r S) {a : Nat} {k : Nat × Nat × Int} (hk : K a = k) (h0 : k.1 ≠ 0) (ht : k.2.2 < 1000000) {j z : Int} (hn : ¬ q_isr k j) : Rep K (q_up v a j z) r (q_us S k.2.2 j z) := by
  subst hk
  refine ⟨fun q hq => ⟨fun i hi => ?_, fun i hi => ?_⟩, h.2⟩
  · unfold q_up q_us
    by_cases e : q = a
    · subst e
      by_cases e2 : i = j
      · rw [if_pos ⟨rfl, e2⟩, if_pos ⟨rfl, e2⟩]
      · rw [if_neg (fun g => e2 g.2), if_neg (fun g => e2 g.2)]; exact (h.1 q hq).1 i hi
    · rw [if_neg (fun g => e g.1), if_neg (fun g => e (h.2 q a hq h0 g.1 (by rw [g.1]; exact ht)))]
      exact (h.1 q hq).1 i hi
  · by_cases e : q = a ∧ i = j
    · exact absurd hi (by rw [e.1, e.2]; exact hn)
    · have ev : q_up v a j z q i = v q i := if_neg e
      rw [ev]; exact (h.1 q hq).2 i hi
theorem Rep.upr {v : q_N} {r : q_A} (h : Rep K v r S) {a b : Nat} {k : Nat × Nat × Int} (hk : K a = k) (h0 : k.1 ≠ 0) (ht : k.2.2 < 1000000) {j z : Int} (hb : K b = kof (ln k.2.2 j z)) (hs : ¬ q_sc (ln k.2.2 j z) ∨ q_par k.2.2 j) : Rep K (q_up v a j z) (q_ur r a j b) (q_us S k.2.2 j z) := by
  subst hk
  refine ⟨fun q hq => ⟨fun i hi => ?_, fun i hi => ?_⟩, h.2⟩
  · unfold q_up q_us
    by_cases e : q = a
    · subst e
      by_cases e2 : i = j
      · rw [if_pos ⟨rfl, e2⟩, if_pos ⟨rfl, e2⟩]
      · rw [if_neg (fun g => e2 g.2), if_neg (fun g => e2 g.2)]; exact (h.1 q hq).1 i hi
    · rw [if_neg (fun g => e g.1), if_neg (fun g => e (h.2 q a hq h0 g.1 (by rw [g.1]; exact ht)))]
      exact (h.1 q hq).1 i hi
  · by_cases e : q = a ∧ i = j
    · have ev : q_up v a j z q i = z := if_pos e
      have er : q_ur r a j b q i = b := if_pos e
      rw [ev, er, e.1, e.2]; exact Or.inr ⟨hb, hs⟩
    · have ev : q_up v a j z q i = v q i := if_neg e
      have er : q_ur r a j b q i = r q i := if_neg e
      rw [ev, er]; exact (h.1 q hq).2 i hi
theorem q_isr_fl {own : String} {idx ci : Nat} {j : Int} {t : Nat} {fin : Bool} {k : Nat × Nat × Int} (hf : q_fl own idx ci j t fin) (hk : k.1 = ci + 1) : (q_isr k j ↔ t = 3) ∧ 0 ≤ j := by
  obtain ⟨C, T, N, tyf, kk, ⟨hc1, hc2, hc3, hc4, hc5, hc6, hc7, hc8⟩, rfl, hk2, hk3, hk4, hk5⟩ := hf
  refine ⟨⟨?_, ?_⟩, by omega⟩
  · rintro (⟨c2, k2, h1, h2, h3, h4, h5⟩ | ⟨h1, h2, h3⟩)
    · obtain rfl : c2 = ci := by omega
      obtain rfl : k2 = kk := by omega
      exact hk3.symm.trans h5
    · omega
  · intro h
    exact Or.inl ⟨ci, kk, hk, hc8, rfl, by omega, hk3.trans h⟩
theorem q_isr_no {k : Nat × Nat × Int} {j : Int} (h1 : 20 ≤ k.1) (h2 : k.1 < 30) : ¬ q_isr k j := by
  rintro (⟨c2, k2, g1, g2, -⟩ | ⟨g1, -⟩) <;> omega
theorem m_getI {a idx ci t n : Nat} {j tg : Int} {fin : Bool} (h100 : tg < 100) (d : decode (q_b X) pc = .ok (.getfield idx, 3)) (hf : q_fl (q_y X).cls idx ci j t fin) (ht : t = 0 ∨ t = 2) (hk : K a = (ci + 1, n, tg)) (k : q_E X (pc + 3) ls (q_I (M tg j) :: st) K M C c s Q) : q_E X pc ls (q_R a :: st) K M C c s Q := fun v r hR => by
  have e := hR.get hk (Nat.succ_ne_zero ci) (j := j) (q_isr_fl (k := K a) hf (by rw [hk])).2
  refine q_getI d hf ht (by rw [hk]) ?_
  rw [e, mg_m h100]; exact k v r hR
theorem m_getL {a idx ci n : Nat} {j tg : Int} {fin : Bool} (h100 : tg < 100) (d : decode (q_b X) pc = .ok (.getfield idx, 3)) (hf : q_fl (q_y X).cls idx ci j 1 fin) (hk : K a = (ci + 1, n, tg)) (k : q_E X (pc + 3) ls (q_L (M tg j) :: st) K M C c s Q) : q_E X pc ls (q_R a :: st) K M C c s Q := fun v r hR => by
  have e := hR.get hk (Nat.succ_ne_zero ci) (j := j) (q_isr_fl (k := K a) hf (by rw [hk])).2
  refine q_getL d hf (by rw [hk]) ?_
  rw [e, mg_m h100]; exact k v r hR
theorem m_getR {a idx ci n : Nat} {j tg : Int} {fin : Bool} {kt : Nat × Nat × Int} (h100 : tg < 100) (d : decode (q_b X) pc = .ok (.getfield idx, 3)) (hf : q_fl (q_y X).cls idx ci j 3 fin) (hk : K a = (ci + 1, n, tg)) (hl : kof (ln tg j (M tg j)) = kt) (h0 : kt.1 ≠ 0) (k : ∀ q, K q = kt → q_E X (pc + 3) ls (q_R q :: st) K M C c s Q) : q_E X pc ls (q_R a :: st) K M C c s Q := fun v r hR => by
  have hf2 := q_isr_fl (k := K a) hf (by rw [hk])
  have e := (hR.lnk hk (Nat.succ_ne_zero ci) hf2.2 (by rw [← hk]; exact hf2.1.mpr rfl) (Or.inl (fun h => by have := h.1; simp only [] at this; omega))).trans ((congrArg (fun z => kof (ln tg j z)) (mg_m h100 j)).trans hl)
  exact q_getR d hf (by rw [hk]) (by rw [e]; exact h0) (k _ e v r hR)
theorem m_putI {a idx ci n : Nat} {j z tg : Int} {fin : Bool} (h100 : tg < 100) (d : decode (q_b X) pc = .ok (.putfield idx, 3)) (hf : q_fl (q_y X).cls idx ci j 0 fin) (hfi : fin = false) (hk : K a = (ci + 1, n, tg)) (hz : q_iI z) (k : q_E X (pc + 3) ls st K (q_us M tg j z) C c s Q) : q_E X pc ls (q_I z :: q_R a :: st) K M C c s Q := fun v r hR =>
  q_putI d hf (Or.inl hfi) (by rw [hk]) hz (k _ _ (by rw [← mg_um h100]; exact hR.up hk (Nat.succ_ne_zero ci) (Int.lt_trans h100 (by decide)) (fun h => by have := (q_isr_fl hf rfl).1.mp h; cases this)))
theorem m_putB {a idx ci n : Nat} {j z tg : Int} {fin : Bool} (h100 : tg < 100) (d : decode (q_b X) pc = .ok (.putfield idx, 3)) (hf : q_fl (q_y X).cls idx ci j 2 fin) (hfi : fin = false) (hk : K a = (ci + 1, n, tg)) (hz : z = 0 ∨ z = 1) (k : q_E X (pc + 3) ls st K (q_us M tg j z) C c s Q) : q_E X pc ls (q_I z :: q_R a :: st) K M C c s Q := fun v r hR =>
  q_putB d hf (Or.inl hfi) (by rw [hk]) hz (k _ _ (by rw [← mg_um h100]; exact hR.up hk (Nat.succ_ne_zero ci) (Int.lt_trans h100 (by decide)) (fun h => by have := (q_isr_fl hf rfl).1.mp h; cases this)))
theorem m_putL {a idx ci n : Nat} {j z tg : Int} {fin : Bool} (h100 : tg < 100) (d : decode (q_b X) pc = .ok (.putfield idx, 3)) (hf : q_fl (q_y X).cls idx ci j 1 fin) (hfi : fin = false) (hk : K a = (ci + 1, n, tg)) (hz : q_iL z) (k : q_E X (pc + 3) ls st K (q_us M tg j z) C c s Q) : q_E X pc ls (q_L z :: q_R a :: st) K M C c s Q := fun v r hR =>
  q_putL d hf (Or.inl hfi) (by rw [hk]) hz (k _ _ (by rw [← mg_um h100]; exact hR.up hk (Nat.succ_ne_zero ci) (Int.lt_trans h100 (by decide)) (fun h => by have := (q_isr_fl hf rfl).1.mp h; cases this)))
theorem m_iald {a n : Nat} {i tg : Int} (h100 : tg < 100) (d : decode (q_b X) pc = .ok (.iaload, 1)) (hk : K a = (20, n, tg)) (hi : 0 ≤ i) (hn : i < (n : Int)) (k : q_E X (pc + 1) ls (q_I (M tg i) :: st) K M C c s Q) : q_E X pc ls (q_I i :: q_R a :: st) K M C c s Q := fun v r hR => by
  have e := hR.get hk (by decide : (20 : Nat) ≠ 0) hi
  refine q_iald d (by rw [hk]) hi (by rw [hk]; exact hn) ?_
  rw [e, mg_m h100]; exact k v r hR
theorem m_lald {a n : Nat} {i tg : Int} (h100 : tg < 100) (d : decode (q_b X) pc = .ok (.laload, 1)) (hk : K a = (21, n, tg)) (hi : 0 ≤ i) (hn : i < (n : Int)) (k : q_E X (pc + 1) ls (q_L (M tg i) :: st) K M C c s Q) : q_E X pc ls (q_I i :: q_R a :: st) K M C c s Q := fun v r hR => by
  have e := hR.get hk (by decide : (21 : Nat) ≠ 0) hi
  refine q_lald d (by rw [hk]) hi (by rw [hk]; exact hn) ?_
  rw [e, mg_m h100]; exact k v r hR
theorem m_zald {a n : Nat} {i tg : Int} (h100 : tg < 100) (d : decode (q_b X) pc = .ok (.baload, 1)) (hk : K a = (22, n, tg)) (hi : 0 ≤ i) (hn : i < (n : Int)) (k : q_E X (pc + 1) ls (q_I (M tg i) :: st) K M C c s Q) : q_E X pc ls (q_I i :: q_R a :: st) K M C c s Q := fun v r hR => by
  have e := hR.get hk (by decide : (22 : Nat) ≠ 0) hi
  refine q_zald d (by rw [hk]) hi (by rw [hk]; exact hn) ?_
  rw [e, mg_m h100]; exact k v r hR
theorem m_iast {a n : Nat} {i x tg : Int} (h100 : tg < 100) (d : decode (q_b X) pc = .ok (.iastore, 1)) (hk : K a = (20, n, tg)) (hi : 0 ≤ i) (hn : i < (n : Int)) (hx : q_iI x) (k : q_E X (pc + 1) ls st K (q_us M tg i x) C c s Q) : q_E X pc ls (q_I x :: q_I i :: q_R a :: st) K M C c s Q := fun v r hR =>
  q_iast d (by rw [hk]) hi (by rw [hk]; exact hn) hx (k _ _ (by rw [← mg_um h100]; exact hR.up hk (by decide : (20 : Nat) ≠ 0) (Int.lt_trans h100 (by decide)) (q_isr_no (Nat.le_of_ble_eq_true rfl) (Nat.le_of_ble_eq_true rfl))))
theorem m_last {a n : Nat} {i x tg : Int} (h100 : tg < 100) (d : decode (q_b X) pc = .ok (.lastore, 1)) (hk : K a = (21, n, tg)) (hi : 0 ≤ i) (hn : i < (n : Int)) (hx : q_iL x) (k : q_E X (pc + 1) ls st K (q_us M tg i x) C c s Q) : q_E X pc ls (q_L x :: q_I i :: q_R a :: st) K M C c s Q := fun v r hR =>
  q_last d (by rw [hk]) hi (by rw [hk]; exact hn) hx (k _ _ (by rw [← mg_um h100]; exact hR.up hk (by decide : (21 : Nat) ≠ 0) (Int.lt_trans h100 (by decide)) (q_isr_no (Nat.le_of_ble_eq_true rfl) (Nat.le_of_ble_eq_true rfl))))
theorem m_zast {a n : Nat} {i x tg : Int} (h100 : tg < 100) (d : decode (q_b X) pc = .ok (.bastore, 1)) (hk : K a = (22, n, tg)) (hi : 0 ≤ i) (hn : i < (n : Int)) (hx : x = 0 ∨ x = 1) (k : q_E X (pc + 1) ls st K (q_us M tg i x) C c s Q) : q_E X pc ls (q_I x :: q_I i :: q_R a :: st) K M C c s Q := fun v r hR =>
  q_zast d (by rw [hk]) hi (by rw [hk]; exact hn) hx (k _ _ (by rw [← mg_um h100]; exact hR.up hk (by decide : (22 : Nat) ≠ 0) (Int.lt_trans h100 (by decide)) (q_isr_no (Nat.le_of_ble_eq_true rfl) (Nat.le_of_ble_eq_true rfl))))
theorem e_alen {a n : Nat} {tg : Int} (d : decode (q_b X) pc = .ok (.arraylength, 1)) (hk : K a = (20, n, tg)) (k : q_E X (pc + 1) ls (q_I (n : Int) :: st) K M C c s Q) : q_E X pc ls (q_R a :: st) K M C c s Q := fun v r hR => by
  refine q_alen d (by rw [hk]) ?_
  rw [hk]; exact k v r hR
theorem c_getI {a idx ci t n : Nat} {j tg : Int} {fin : Bool} (h100 : 100 ≤ tg) (d : decode (q_b X) pc = .ok (.getfield idx, 3)) (hf : q_fl (q_y X).cls idx ci j t fin) (ht : t = 0 ∨ t = 2) (hk : K a = (ci + 1, n, tg)) (k : q_E X (pc + 3) ls (q_I (C tg j) :: st) K M C c s Q) : q_E X pc ls (q_R a :: st) K M C c s Q := fun v r hR => by
  have e := hR.get hk (Nat.succ_ne_zero ci) (j := j) (q_isr_fl (k := K a) hf (by rw [hk])).2
  refine q_getI d hf ht (by rw [hk]) ?_
  rw [e, mg_c h100]; exact k v r hR
theorem c_getL {a idx ci n : Nat} {j tg : Int} {fin : Bool} (h100 : 100 ≤ tg) (d : decode (q_b X) pc = .ok (.getfield idx, 3)) (hf : q_fl (q_y X).cls idx ci j 1 fin) (hk : K a = (ci + 1, n, tg)) (k : q_E X (pc + 3) ls (q_L (C tg j) :: st) K M C c s Q) : q_E X pc ls (q_R a :: st) K M C c s Q := fun v r hR => by
  have e := hR.get hk (Nat.succ_ne_zero ci) (j := j) (q_isr_fl (k := K a) hf (by rw [hk])).2
  refine q_getL d hf (by rw [hk]) ?_
  rw [e, mg_c h100]; exact k v r hR
theorem c_getR {a idx ci n : Nat} {j tg : Int} {fin : Bool} {kt : Nat × Nat × Int} (h100 : 100 ≤ tg) (hu : ¬ q_uf tg ∨ C tg j ≠ 0) (d : decode (q_b X) pc = .ok (.getfield idx, 3)) (hf : q_fl (q_y X).cls idx ci j 3 fin) (hk : K a = (ci + 1, n, tg)) (hl : kof (ln tg j (C tg j)) = kt) (h0 : kt.1 ≠ 0) (k : ∀ q, K q = kt → q_E X (pc + 3) ls (q_R q :: st) K M C c s Q) : q_E X pc ls (q_R a :: st) K M C c s Q := fun v r hR => by
  have hf2 := q_isr_fl (k := K a) hf (by rw [hk])
  have e := (hR.lnk hk (Nat.succ_ne_zero ci) hf2.2 (by rw [← hk]; exact hf2.1.mpr rfl) (hu.elim Or.inl (fun h => Or.inr (by show mg M C tg j ≠ 0; rw [mg_c h100]; exact h)))).trans ((congrArg (fun z => kof (ln tg j z)) (mg_c h100 j)).trans hl)
  exact q_getR d hf (by rw [hk]) (by rw [e]; exact h0) (k _ e v r hR)
theorem c_putI {a idx ci n : Nat} {j z tg : Int} {fin : Bool} (h100 : 100 ≤ tg) (d : decode (q_b X) pc = .ok (.putfield idx, 3)) (hf : q_fl (q_y X).cls idx ci j 0 fin) (hfi : fin = false) (hk : K a = (ci + 1, n, tg)) (ht : tg < 1000000) (hz : q_iI z) (k : q_E X (pc + 3) ls st K M (q_us C tg j z) c s Q) : q_E X pc ls (q_I z :: q_R a :: st) K M C c s Q := fun v r hR =>
  q_putI d hf (Or.inl hfi) (by rw [hk]) hz (k _ _ (by rw [← mg_uc h100]; exact hR.up hk (Nat.succ_ne_zero ci) ht (fun h => by have := (q_isr_fl hf rfl).1.mp h; cases this)))
theorem c_putB {a idx ci n : Nat} {j z tg : Int} {fin : Bool} (h100 : 100 ≤ tg) (d : decode (q_b X) pc = .ok (.putfield idx, 3)) (hf : q_fl (q_y X).cls idx ci j 2 fin) (hfi : fin = false) (hk : K a = (ci + 1, n, tg)) (ht : tg < 1000000) (hz : z = 0 ∨ z = 1) (k : q_E X (pc + 3) ls st K M (q_us C tg j z) c s Q) : q_E X pc ls (q_I z :: q_R a :: st) K M C c s Q := fun v r hR =>
  q_putB d hf (Or.inl hfi) (by rw [hk]) hz (k _ _ (by rw [← mg_uc h100]; exact hR.up hk (Nat.succ_ne_zero ci) ht (fun h => by have := (q_isr_fl hf rfl).1.mp h; cases this)))
theorem c_putL {a idx ci n : Nat} {j z tg : Int} {fin : Bool} (h100 : 100 ≤ tg) (d : decode (q_b X) pc = .ok (.putfield idx, 3)) (hf : q_fl (q_y X).cls idx ci j 1 fin) (hfi : fin = false) (hk : K a = (ci + 1, n, tg)) (ht : tg < 1000000) (hz : q_iL z) (k : q_E X (pc + 3) ls st K M (q_us C tg j z) c s Q) : q_E X pc ls (q_L z :: q_R a :: st) K M C c s Q := fun v r hR =>
  q_putL d hf (Or.inl hfi) (by rw [hk]) hz (k _ _ (by rw [← mg_uc h100]; exact hR.up hk (Nat.succ_ne_zero ci) ht (fun h => by have := (q_isr_fl hf rfl).1.mp h; cases this)))
theorem c_putR {a b idx ci n : Nat} {j tg : Int} {fin : Bool} (g : Int) {kb : Nat × Nat × Int} (h100 : 100 ≤ tg) (d : decode (q_b X) pc = .ok (.putfield idx, 3)) (hf : q_fl (q_y X).cls idx ci j 3 fin) (hfi : fin = false) (hk : K a = (ci + 1, n, tg)) (ht : tg < 1000000) (hb : K b = kb) (hb0 : kb.1 ≠ 0) (hg : kof (ln tg j g) = kb) (hs : ¬ q_sc (ln tg j g) ∨ q_par tg j) (k : q_E X (pc + 3) ls st K M (q_us C tg j g) c s Q) : q_E X pc ls (q_R b :: q_R a :: st) K M C c s Q := fun v r hR =>
  q_putR (z := g) d hf (Or.inl hfi) (by rw [hk]) (by rw [hb]; exact hb0) (k _ _ (by rw [← mg_uc h100]; exact hR.upr hk (Nat.succ_ne_zero ci) ht (hb.trans hg.symm) hs))
theorem c_putIf {a idx ci n : Nat} {j z tg : Int} {fin : Bool} (h100 : 100 ≤ tg) (d : decode (q_b X) pc = .ok (.putfield idx, 3)) (hf : q_fl (q_y X).cls idx ci j 0 fin) (hfi : fin = false ∨ ((q_y X).name = "<init>" ∧ ∃ T N, vwCl[ci]? = some ((q_y X).cls, T, N))) (hk : K a = (ci + 1, n, tg)) (ht : tg < 1000000) (hz : q_iI z) (k : q_E X (pc + 3) ls st K M (q_us C tg j z) c s Q) : q_E X pc ls (q_I z :: q_R a :: st) K M C c s Q := fun v r hR =>
  q_putI d hf hfi (by rw [hk]) hz (k _ _ (by rw [← mg_uc h100]; exact hR.up hk (Nat.succ_ne_zero ci) ht (fun h => by have := (q_isr_fl hf rfl).1.mp h; cases this)))
theorem c_putRf {a b idx ci n : Nat} {j tg : Int} {fin : Bool} (g : Int) {kb : Nat × Nat × Int} (h100 : 100 ≤ tg) (d : decode (q_b X) pc = .ok (.putfield idx, 3)) (hf : q_fl (q_y X).cls idx ci j 3 fin) (hfi : fin = false ∨ ((q_y X).name = "<init>" ∧ ∃ T N, vwCl[ci]? = some ((q_y X).cls, T, N))) (hk : K a = (ci + 1, n, tg)) (ht : tg < 1000000) (hb : K b = kb) (hb0 : kb.1 ≠ 0) (hg : kof (ln tg j g) = kb) (hs : ¬ q_sc (ln tg j g) ∨ q_par tg j) (k : q_E X (pc + 3) ls st K M (q_us C tg j g) c s Q) : q_E X pc ls (q_R b :: q_R a :: st) K M C c s Q := fun v r hR =>
  q_putR (z := g) d hf hfi (by rw [hk]) (by rw [hb]; exact hb0) (k _ _ (by rw [← mg_uc h100]; exact hR.upr hk (Nat.succ_ne_zero ci) ht (hb.trans hg.symm) hs))
theorem c_iald {a n : Nat} {i tg : Int} (h100 : 100 ≤ tg) (d : decode (q_b X) pc = .ok (.iaload, 1)) (hk : K a = (20, n, tg)) (hi : 0 ≤ i) (hn : i < (n : Int)) (k : q_E X (pc + 1) ls (q_I (C tg i) :: st) K M C c s Q) : q_E X pc ls (q_I i :: q_R a :: st) K M C c s Q := fun v r hR => by
  have e := hR.get hk (by decide : (20 : Nat) ≠ 0) hi
  refine q_iald d (by rw [hk]) hi (by rw [hk]; exact hn) ?_
  rw [e, mg_c h100]; exact k v r hR
theorem c_lald {a n : Nat} {i tg : Int} (h100 : 100 ≤ tg) (d : decode (q_b X) pc = .ok (.laload, 1)) (hk : K a = (21, n, tg)) (hi : 0 ≤ i) (hn : i < (n : Int)) (k : q_E X (pc + 1) ls (q_L (C tg i) :: st) K M C c s Q) : q_E X pc ls (q_I i :: q_R a :: st) K M C c s Q := fun v r hR => by
  have e := hR.get hk (by decide : (21 : Nat) ≠ 0) hi
  refine q_lald d (by rw [hk]) hi (by rw [hk]; exact hn) ?_
  rw [e, mg_c h100]; exact k v r hR
theorem c_zald {a n : Nat} {i tg : Int} (h100 : 100 ≤ tg) (d : decode (q_b X) pc = .ok (.baload, 1)) (hk : K a = (22, n, tg)) (hi : 0 ≤ i) (hn : i < (n : Int)) (k : q_E X (pc + 1) ls (q_I (C tg i) :: st) K M C c s Q) : q_E X pc ls (q_I i :: q_R a :: st) K M C c s Q := fun v r hR => by
  have e := hR.get hk (by decide : (22 : Nat) ≠ 0) hi
  refine q_zald d (by rw [hk]) hi (by rw [hk]; exact hn) ?_
  rw [e, mg_c h100]; exact k v r hR
theorem c_aald {a n ci : Nat} {i tg : Int} {kt : Nat × Nat × Int} (h100 : 100 ≤ tg) (hu : ¬ q_uf tg ∨ C tg i ≠ 0) (d : decode (q_b X) pc = .ok (.aaload, 1)) (hk : K a = (30 + ci, n, tg)) (hc : ci < 12) (hi : 0 ≤ i) (hn : i < (n : Int)) (hl : kof (ln tg i (C tg i)) = kt) (h0 : kt.1 ≠ 0) (k : ∀ q, K q = kt → q_E X (pc + 1) ls (q_R q :: st) K M C c s Q) : q_E X pc ls (q_I i :: q_R a :: st) K M C c s Q := fun v r hR => by
  have e := (hR.lnk hk (by show 30 + ci ≠ 0; omega) hi (Or.inr ⟨by show 30 ≤ 30 + ci; omega, hi, hn⟩) (hu.elim Or.inl (fun h => Or.inr (by show mg M C tg i ≠ 0; rw [mg_c h100]; exact h)))).trans ((congrArg (fun z => kof (ln tg i z)) (mg_c h100 i)).trans hl)
  exact q_aald d (by rw [hk]) hc hi (by rw [hk]; exact hn) (by rw [e]; exact h0) (k _ e v r hR)
theorem c_iast {a n : Nat} {i x tg : Int} (h100 : 100 ≤ tg) (d : decode (q_b X) pc = .ok (.iastore, 1)) (hk : K a = (20, n, tg)) (hi : 0 ≤ i) (hn : i < (n : Int)) (ht : tg < 1000000) (hx : q_iI x) (k : q_E X (pc + 1) ls st K M (q_us C tg i x) c s Q) : q_E X pc ls (q_I x :: q_I i :: q_R a :: st) K M C c s Q := fun v r hR =>
  q_iast d (by rw [hk]) hi (by rw [hk]; exact hn) hx (k _ _ (by rw [← mg_uc h100]; exact hR.up hk (by decide : (20 : Nat) ≠ 0) ht (q_isr_no (Nat.le_of_ble_eq_true rfl) (Nat.le_of_ble_eq_true rfl))))
theorem c_last {a n : Nat} {i x tg : Int} (h100 : 100 ≤ tg) (d : decode (q_b X) pc = .ok (.lastore, 1)) (hk : K a = (21, n, tg)) (hi : 0 ≤ i) (hn : i < (n : Int)) (ht : tg < 1000000) (hx : q_iL x) (k : q_E X (pc + 1) ls st K M (q_us C tg i x) c s Q) : q_E X pc ls (q_L x :: q_I i :: q_R a :: st) K M C c s Q := fun v r hR =>
  q_last d (by rw [hk]) hi (by rw [hk]; exact hn) hx (k _ _ (by rw [← mg_uc h100]; exact hR.up hk (by decide : (21 : Nat) ≠ 0) ht (q_isr_no (Nat.le_of_ble_eq_true rfl) (Nat.le_of_ble_eq_true rfl))))
theorem c_zast {a n : Nat} {i x tg : Int} (h100 : 100 ≤ tg) (d : decode (q_b X) pc = .ok (.bastore, 1)) (hk : K a = (22, n, tg)) (hi : 0 ≤ i) (hn : i < (n : Int)) (ht : tg < 1000000) (hx : x = 0 ∨ x = 1) (k : q_E X (pc + 1) ls st K M (q_us C tg i x) c s Q) : q_E X pc ls (q_I x :: q_I i :: q_R a :: st) K M C c s Q := fun v r hR =>
  q_zast d (by rw [hk]) hi (by rw [hk]; exact hn) hx (k _ _ (by rw [← mg_uc h100]; exact hR.up hk (by decide : (22 : Nat) ≠ 0) ht (q_isr_no (Nat.le_of_ble_eq_true rfl) (Nat.le_of_ble_eq_true rfl))))
theorem c_aast {a b n ci : Nat} {i tg : Int} (g : Int) {m : Nat} {tb : Int} (h100 : 100 ≤ tg) (d : decode (q_b X) pc = .ok (.aastore, 1)) (hk : K a = (30 + ci, n, tg)) (hc : ci < 12) (hi : 0 ≤ i) (hn : i < (n : Int)) (ht : tg < 1000000) (hb : K b = (ci + 1, m, tb)) (hg : kof (ln tg i g) = (ci + 1, m, tb)) (hs : ¬ q_sc (ln tg i g)) (k : q_E X (pc + 1) ls st K M (q_us C tg i g) c s Q) : q_E X pc ls (q_R b :: q_I i :: q_R a :: st) K M C c s Q := fun v r hR =>
  q_aast (z := g) d (by rw [hk]) hc hi (by rw [hk]; exact hn) (by rw [hb]) (k _ _ (by rw [← mg_uc h100]; exact hR.upr hk (by show 30 + ci ≠ 0; omega) ht (hb.trans hg.symm) (Or.inl hs)))
theorem e_rng {a : Nat} {kt : Nat × Nat × Int} (hk : K a = kt) (h0 : kt.1 ≠ 0) (k : (∀ j, 0 ≤ j → q_okm kt.1 j (mg M C kt.2.2 j)) → q_E X pc ls st K M C c s Q) : q_E X pc ls st K M C c s Q := fun v r hR =>
  q_memo (fun hm => k (fun j hj => by rw [← hR.get hk h0 hj, ← hk]; exact hm a j (by rw [hk]; exact h0) hj) v r hR)
theorem e_callS {Y : q_X} {idx n c1 s1 c2 s2 : Nat} {as rest : List q_V} {ls0 : q_Ls} {Q1 : q_Q2} (d : decode (q_b X) pc = .ok (.invokestatic idx, 3)) (hw : q_ok Y n) (hl : Cond.methodLink (q_y X).cls idx (q_y Y) ∈ q_tw) (hst : Cond.static (q_y Y) ∈ q_tw) (hown : (q_y Y).cls = (q_y X).cls) (hx : q_hh X = []) (hst2 : st = as.reverse ++ rest) (hln : as.length = n) (hls : q_ent (q_n Y) as = ls0) (hlz : (as.map q_cat).sum ≤ q_n Y) (hfit : q_fit X Y) (hcc : c1 + c2 ≤ c) (hss : s1 + s2 ≤ s) (hr8 : (rest.map q_cat).sum ≤ 8) (hnm : (q_y Y).name ≠ "law")
    (k1 : q_E Y 0 ls0 [] K M C c1 s1 Q1) (k2 : ∀ o K1 M1 C1, Q1 (Sum.inl o) K1 M1 C1 → q_E X (pc + 3) ls (o.toList ++ rest) K1 M1 C1 c2 s2 Q) (k3 : ∀ E K1 M1 C1, Q1 (Sum.inr E) K1 M1 C1 → Q (Sum.inr E) K1 M1 C1) : q_E X pc ls st K M C c s Q := fun v r hR =>
  q_callS d hw hl hst hown hx hst2 hln hls hlz hfit hcc hss hr8 hnm (k1 v r hR) (fun o K1 v1 r1 ⟨M1, C1, h1, h2⟩ => k2 o K1 M1 C1 h2 v1 r1 h1) (fun E K1 v1 r1 ⟨M1, C1, h1, h2⟩ => ⟨M1, C1, h1, k3 E K1 M1 C1 h2⟩)
theorem e_callV {Y : q_X} {idx n c1 s1 c2 s2 : Nat} {as rest : List q_V} {ls0 : q_Ls} {Q1 : q_Q2} {a ci : Nat} {kt : Nat × Nat × Int} (d : decode (q_b X) pc = .ok (.invokevirtual idx, 3)) (hw : q_ok Y n) (hl : Cond.methodLink (q_y X).cls idx (q_y Y) ∈ q_tw) (hst : Cond.instanceMethod (q_y Y) ∈ q_tw) (hse : Cond.selects (q_y Y).cls (q_y Y) (q_y Y) ∈ q_tw) (hka : K a = kt) (hkc : kt.1 = ci + 1) (hci : ci < 12) (hcl : ∃ T N, vwCl[ci]? = some ((q_y Y).cls, T, N)) (hx : q_hh X = []) (hhY : q_hh Y = []) (hst2 : st = as.reverse ++ q_R a :: rest) (hln : as.length = n) (hls : q_ent (q_n Y) (q_R a :: as) = ls0) (hlz : (as.map q_cat).sum + 1 ≤ q_n Y) (hfit : q_fit X Y) (hcc : c1 + c2 ≤ c) (hss : s1 + s2 ≤ s) (hr8 : (rest.map q_cat).sum ≤ 8) (hnm : (q_y Y).name ≠ "law")
    (k1 : q_E Y 0 ls0 [] K M C c1 s1 Q1) (k2 : ∀ o K1 M1 C1, Q1 (Sum.inl o) K1 M1 C1 → q_E X (pc + 3) ls (o.toList ++ rest) K1 M1 C1 c2 s2 Q) (k3 : ∀ E K1 M1 C1, Q1 (Sum.inr E) K1 M1 C1 → Q (Sum.inr E) K1 M1 C1) : q_E X pc ls st K M C c s Q := fun v r hR =>
  q_callV d hw hl hst hse (by rw [hka]; exact hkc) hci hcl hx hhY hst2 hln hls hlz hfit hcc hss hr8 hnm (k1 v r hR) (fun o K1 v1 r1 ⟨M1, C1, h1, h2⟩ => k2 o K1 M1 C1 h2 v1 r1 h1) (fun E K1 v1 r1 ⟨M1, C1, h1, h2⟩ => ⟨M1, C1, h1, k3 E K1 M1 C1 h2⟩)
theorem e_callVH {Y : q_X} {idx n c1 s1 c2 s2 : Nat} {as rest : List q_V} {ls0 : q_Ls} {Q1 : q_Q2} {a ci : Nat} {kt : Nat × Nat × Int} (d : decode (q_b X) pc = .ok (.invokevirtual idx, 3)) (hw : q_ok Y n) (hl : Cond.methodLink (q_y X).cls idx (q_y Y) ∈ q_tw) (hst : Cond.instanceMethod (q_y Y) ∈ q_tw) (hse : Cond.selects (q_y Y).cls (q_y Y) (q_y Y) ∈ q_tw) (hka : K a = kt) (hkc : kt.1 = ci + 1) (hci : ci < 12) (hcl : ∃ T N, vwCl[ci]? = some ((q_y Y).cls, T, N)) (hhY : q_hh Y = []) (hst2 : st = as.reverse ++ q_R a :: rest) (hln : as.length = n) (hls : q_ent (q_n Y) (q_R a :: as) = ls0) (hlz : (as.map q_cat).sum + 1 ≤ q_n Y) (hfit : q_fit X Y) (hcc : c1 + c2 ≤ c) (hss : s1 + s2 ≤ s) (hr8 : (rest.map q_cat).sum ≤ 8) (hnm : (q_y Y).name ≠ "law")
    (k1 : q_E Y 0 ls0 [] K M C c1 s1 Q1) (k2 : ∀ o K1 M1 C1, Q1 (Sum.inl o) K1 M1 C1 → q_E X (pc + 3) ls (o.toList ++ rest) K1 M1 C1 c2 s2 Q) (k3 : ∀ E K1 M1 C1, Q1 (Sum.inr E) K1 M1 C1 → ∃ h k n, q_hd X pc E h ∧ q_as X h k n ∧ q_E X (h + n) (q_del ls k) [] K1 M1 C1 c2 s2 Q) : q_E X pc ls st K M C c s Q := fun v r hR =>
  q_callVH d hw hl hst hse (by rw [hka]; exact hkc) hci hcl hhY hst2 hln hls hlz hfit hcc hss hr8 hnm (k1 v r hR) (fun o K1 v1 r1 ⟨M1, C1, h1, h2⟩ => k2 o K1 M1 C1 h2 v1 r1 h1) (fun E K1 v1 r1 ⟨M1, C1, h1, h2⟩ => by
    obtain ⟨h, k, n, g1, g2, g3⟩ := k3 E K1 M1 C1 h2
    exact ⟨h, k, n, g1, g2, g3 v1 r1 h1⟩)
theorem e_ret (d : decode (q_b X) pc = .ok (.return_, 1)) (hr : q_rt X = none) (hq : Q (Sum.inl none) K M C) : q_E X pc ls [] K M C c s Q := fun v r hR => q_ret d hr ⟨M, C, hR, hq⟩
theorem e_iret {z : Int} (d : decode (q_b X) pc = .ok (.ireturn, 1)) (hr : q_rt X = some .int ∨ (q_rt X = some .boolean ∧ (z = 0 ∨ z = 1))) (hq : Q (Sum.inl (some (q_I z))) K M C) : q_E X pc ls [q_I z] K M C c s Q := fun v r hR => q_iret d hr ⟨M, C, hR, hq⟩
theorem e_aret {a : Nat} {cn : String} (d : decode (q_b X) pc = .ok (.areturn, 1)) (hr : q_rt X = some (.object cn)) (hq : Q (Sum.inl (some (q_R a))) K M C) : q_E X pc ls [q_R a] K M C c s Q := fun v r hR => q_aret d hr ⟨M, C, hR, hq⟩
theorem e_thrS {ik is ic : Nat} {E : String} (d0 : decode (q_b X) pc = .ok (.new ik, 3)) (d3 : decode (q_b X) (pc + 3) = .ok (.dup, 1)) (d4 : decode (q_b X) (pc + 4) = .ok (.ldc is, 2)) (d6 : decode (q_b X) (pc + 6) = .ok (.invokespecial ic, 3)) (d9 : decode (q_b X) (pc + 9) = .ok (.athrow, 1)) (he : q_ex (q_y X).cls ik ic E) (hs : ∃ tx, ((q_y X).cls, is, tx) ∈ q_strs) (hx : q_hh X = []) (hr8 : (st.map q_cat).sum ≤ 8) (hfr : 6 ≤ q_fr X ∧ 90 ≤ q_lo X) (hc : 1 ≤ c) (hs6 : 6 ≤ s) (hq : Q (Sum.inr E) K M C) : q_E X pc ls st K M C c s Q := fun v r hR => q_thrS d0 d3 d4 d6 d9 he hs hx hr8 hfr hc hs6 ⟨M, C, hR, hq⟩
theorem e_thrW {ik is ic : Nat} {E : String} (d0 : decode (q_b X) pc = .ok (.new ik, 3)) (d3 : decode (q_b X) (pc + 3) = .ok (.dup, 1)) (d4 : decode (q_b X) (pc + 4) = .ok (.ldc_w is, 3)) (d7 : decode (q_b X) (pc + 7) = .ok (.invokespecial ic, 3)) (d10 : decode (q_b X) (pc + 10) = .ok (.athrow, 1)) (he : q_ex (q_y X).cls ik ic E) (hs : ∃ tx, ((q_y X).cls, is, tx) ∈ q_strs) (hx : q_hh X = []) (hr8 : (st.map q_cat).sum ≤ 8) (hfr : 6 ≤ q_fr X ∧ 90 ≤ q_lo X) (hc : 1 ≤ c) (hs6 : 6 ≤ s) (hq : Q (Sum.inr E) K M C) : q_E X pc ls st K M C c s Q := fun v r hR => q_thrW d0 d3 d4 d7 d10 he hs hx hr8 hfr hc hs6 ⟨M, C, hR, hq⟩
/-- the end of a method that leaves the kinds as they were: its answer and the memory behind it -/
def e_is (o : Option q_V) (K : q_K) (M C : q_S) : q_Q2 := fun o2 K2 M2 C2 => o2 = Sum.inl o ∧ K2 = K ∧ M2 = M ∧ C2 = C
end EM
section EM2
variable {X : q_X} {pc : Nat} {ls : q_Ls} {st : List q_V} {K : q_K} {M C : q_S} {c s : Nat} {Q : q_Q2}
theorem m_iaw {a n : Nat} {i tg : Int} {Pr : Int → Prop} (h100 : tg < 100) (hP : ∀ i, 0 ≤ i → i < (n : Int) → Pr i) (d : decode (q_b X) pc = .ok (.iaload, 1)) (hk : K a = (20, n, tg)) (hi : 0 ≤ i) (hn : i < (n : Int)) (k : Pr i → q_E X (pc + 1) ls (q_I (M tg i) :: st) K M C c s Q) : q_E X pc ls (q_I i :: q_R a :: st) K M C c s Q := m_iald h100 d hk hi hn (k (hP i hi hn))
theorem m_law {a n : Nat} {i tg : Int} {Pr : Int → Prop} (h100 : tg < 100) (hP : ∀ i, 0 ≤ i → i < (n : Int) → Pr i) (d : decode (q_b X) pc = .ok (.laload, 1)) (hk : K a = (21, n, tg)) (hi : 0 ≤ i) (hn : i < (n : Int)) (k : Pr i → q_E X (pc + 1) ls (q_L (M tg i) :: st) K M C c s Q) : q_E X pc ls (q_I i :: q_R a :: st) K M C c s Q := m_lald h100 d hk hi hn (k (hP i hi hn))
theorem c_iaw {a n : Nat} {i tg : Int} {Pr : Int → Prop} (h100 : 100 ≤ tg) (hP : ∀ i, 0 ≤ i → i < (n : Int) → Pr i) (d : decode (q_b X) pc = .ok (.iaload, 1)) (hk : K a = (20, n, tg)) (hi : 0 ≤ i) (hn : i < (n : Int)) (k : Pr i → q_E X (pc + 1) ls (q_I (C tg i) :: st) K M C c s Q) : q_E X pc ls (q_I i :: q_R a :: st) K M C c s Q := c_iald h100 d hk hi hn (k (hP i hi hn))
/-- a call that leaves the kinds as they are -/
theorem e_cS {Y : q_X} {idx n : Nat} {as rest : List q_V} {o : Option q_V} {M1 C1 : q_S} (d : decode (q_b X) pc = .ok (.invokestatic idx, 3)) (hw : q_ok Y n) (hl : Cond.methodLink (q_y X).cls idx (q_y Y) ∈ q_tw) (hst : Cond.static (q_y Y) ∈ q_tw) (hown : (q_y Y).cls = (q_y X).cls) (hx : q_hh X = []) (hst2 : st = as.reverse ++ rest) (hln : as.length = n) (hlz : (as.map q_cat).sum ≤ q_n Y) (hfit : q_fit X Y) (hr8 : (rest.map q_cat).sum ≤ 8) (hnm : (q_y Y).name ≠ "law")
    (k1 : q_E Y 0 (q_ent (q_n Y) as) [] K M C 0 0 (e_is o K M1 C1)) (k2 : q_E X (pc + 3) ls (o.toList ++ rest) K M1 C1 c s Q) : q_E X pc ls st K M C c s Q :=
  e_callS d hw hl hst hown hx hst2 hln rfl hlz hfit (Nat.le_of_eq (Nat.zero_add c)) (Nat.le_of_eq (Nat.zero_add s)) hr8 hnm k1 (fun o2 K2 M2 C2 h => by
    obtain ⟨h1, rfl, rfl, rfl⟩ := h
    cases h1; exact k2) (fun E K2 M2 C2 h => by
    obtain ⟨h1, -⟩ := h
    cases h1)
theorem e_cV {Y : q_X} {idx n : Nat} {as rest : List q_V} {o : Option q_V} {M1 C1 : q_S} {a ci : Nat} {kt : Nat × Nat × Int} (d : decode (q_b X) pc = .ok (.invokevirtual idx, 3)) (hw : q_ok Y n) (hl : Cond.methodLink (q_y X).cls idx (q_y Y) ∈ q_tw) (hst : Cond.instanceMethod (q_y Y) ∈ q_tw) (hse : Cond.selects (q_y Y).cls (q_y Y) (q_y Y) ∈ q_tw) (hka : K a = kt) (hkc : kt.1 = ci + 1) (hci : ci < 12) (hcl : ∃ T N, vwCl[ci]? = some ((q_y Y).cls, T, N)) (hx : q_hh X = []) (hhY : q_hh Y = []) (hst2 : st = as.reverse ++ q_R a :: rest) (hln : as.length = n) (hlz : (as.map q_cat).sum + 1 ≤ q_n Y) (hfit : q_fit X Y) (hr8 : (rest.map q_cat).sum ≤ 8) (hnm : (q_y Y).name ≠ "law")
    (k1 : q_E Y 0 (q_ent (q_n Y) (q_R a :: as)) [] K M C 0 0 (e_is o K M1 C1)) (k2 : q_E X (pc + 3) ls (o.toList ++ rest) K M1 C1 c s Q) : q_E X pc ls st K M C c s Q :=
  e_callV d hw hl hst hse hka hkc hci hcl hx hhY hst2 hln rfl hlz hfit (Nat.le_of_eq (Nat.zero_add c)) (Nat.le_of_eq (Nat.zero_add s)) hr8 hnm k1 (fun o2 K2 M2 C2 h => by
    obtain ⟨h1, rfl, rfl, rfl⟩ := h
    cases h1; exact k2) (fun E K2 M2 C2 h => by
    obtain ⟨h1, -⟩ := h
    cases h1)
theorem e_ok {o o2 : Option q_V} {M2 C2 : q_S} (h : o2 = o) (hM : M2 = M) (hC : C2 = C) : e_is o K M C (Sum.inl o2) K M2 C2 := ⟨by rw [h], rfl, hM, hC⟩
end EM2
theorem q_us_ap {S : q_S} {t j z t2 j2 : Int} : q_us S t j z t2 j2 = if t2 = t ∧ j2 = j then z else S t2 j2 := rfl
/-- cells that are made -/
def q_zt (S : q_S) (t : Int) : q_S := fun t2 j => if t2 = t then 0 else S t2 j
theorem q_zt_ap {S : q_S} {t t2 j : Int} : q_zt S t t2 j = if t2 = t then 0 else S t2 j := rfl
theorem mg_zc {M C : q_S} {t : Int} (h : 100 ≤ t) : q_zt (mg M C) t = mg M (q_zt C t) := by
  funext t2 j2
  by_cases e : t2 = t
  · subst e
    have h2 : ¬ t2 < 100 := by omega
    simp [q_zt, mg, h2]
  · simp only [q_zt, mg, if_neg e]
theorem mg_zm {M C : q_S} {t : Int} (h : t < 100) : q_zt (mg M C) t = mg (q_zt M t) C := by
  funext t2 j2
  by_cases e : t2 = t
  · subst e
    simp [q_zt, mg, h]
  · simp only [q_zt, mg, if_neg e]
theorem ite_ne {c : Prop} [Decidable c] {a b : Nat × Nat} (ha : a.1 ≠ 0) (hb : b.1 ≠ 0) : (if c then a else b).1 ≠ 0 := by
  split
  · exact ha
  · exact hb
theorem kkm_ne (x : Int) : (kkm x).1 ≠ 0 := by
  unfold kkm
  repeat' (first | refine ite_ne ?_ ?_ | exact Nat.succ_ne_zero _)
theorem kkc_ne (x : Int) : (kkc x).1 ≠ 0 := by
  unfold kkc
  repeat' (first | refine ite_ne ?_ ?_ | exact Nat.succ_ne_zero _)
theorem kof_ne (x : Int) : (kof x).1 ≠ 0 := by
  show (kk x).1 ≠ 0
  unfold kk
  split
  · exact kkm_ne x
  · split
    · unfold kks
      repeat' (first | refine ite_ne ?_ ?_ | exact Nat.succ_ne_zero _)
    · split
      · exact kkc_ne x
      · split
        · exact Nat.succ_ne_zero _
        · exact Nat.succ_ne_zero _
theorem uk_p {K : q_K} {q : Nat} {k : Nat × Nat × Int} : q_uk K q k q = k := if_pos rfl
theorem uk_n {K : q_K} {q a : Nat} {k : Nat × Nat × Int} (h : a ≠ q) : q_uk K q k a = K a := if_neg h
theorem uk_k {K : q_K} {q a : Nat} {k k2 : Nat × Nat × Int} (hq : (K q).1 = 0) (h : K a = k2) (h0 : k2.1 ≠ 0) : q_uk K q k a = k2 := by
  rw [uk_n (fun e => h0 (by rw [← h, e]; exact hq))]; exact h
theorem isr_tag {k n : Nat} {t t2 j : Int} : q_isr (k, n, t) j → q_isr (k, n, t2) j := fun h => h
theorem isr_nn {k : Nat × Nat × Int} {j : Int} (h : q_isr k j) : 0 ≤ j := by
  rcases h with ⟨c2, k2, h1, h2, h3, h4, h5⟩ | ⟨h1, h2, h3⟩ <;> omega
theorem Rep.new {K : q_K} {v : q_N} {r : q_A} {S : q_S} (h : Rep K v r S) {q : Nat} (hq : (K q).1 = 0) {k n : Nat} {t : Int} (hf : ∀ a, (K a).1 ≠ 0 → (K a).2.2 ≠ t) (hu : q_uf t ∨ ∀ j, ¬ q_isr (k, n, t) j) : Rep (q_uk K q (k, n, t)) (q_z v q) (q_zr r q) (q_zt S t) := by
  refine ⟨fun a ha => ?_, fun a b ha hb hab hlt => ?_⟩
  · by_cases e : a = q
    · subst e
      rw [uk_p]
      refine ⟨fun j hj => ?_, fun j hj => Or.inl ⟨hu.elim (fun g => g) (fun g => absurd hj (g j)), if_pos rfl⟩⟩
      show (if a = a then 0 else v a j) = if t = t then 0 else S t j
      rw [if_pos rfl, if_pos rfl]
    · rw [uk_n e] at ha ⊢
      have hh := h.1 a ha
      refine ⟨fun j hj => ?_, fun j hj => ?_⟩
      · show (if a = q then 0 else v a j) = if (K a).2.2 = t then 0 else S (K a).2.2 j
        rw [if_neg e, if_neg (hf a ha)]; exact hh.1 j hj
      · have ev : q_z v q a j = v a j := if_neg e
        have er : q_zr r q a j = r a j := if_neg e
        rw [ev, er]
        rcases hh.2 j hj with g | ⟨g1, g2⟩
        · exact Or.inl g
        · refine Or.inr ⟨?_, g2⟩
          rw [uk_n (fun e2 => kof_ne _ (by rw [← g1, e2]; exact hq))]; exact g1
  · by_cases ea : a = q
    · by_cases eb : b = q
      · rw [ea, eb]
      · subst ea
        rw [uk_p, uk_n eb] at hab
        rw [uk_n eb] at hb
        exact absurd hab.symm (hf b hb)
    · by_cases eb : b = q
      · subst eb
        rw [uk_p, uk_n ea] at hab
        rw [uk_n ea] at ha
        exact absurd hab (hf a ha)
      · rw [uk_n ea] at ha hab hlt
        rw [uk_n eb] at hb hab
        exact h.2 a b ha hb hab hlt
/-- where the slots of unfinished cells lead -/
theorem ln_par {t j : Int} (h : q_par t j) (g : Int) : (t = 900 ∧ (ln t j g = 300 ∨ ln t j g = 301)) ∨ ((t = 500 ∧ j = 1) ∧ ln t j g = 502) ∨ ((t = 504 ∧ j = 2) ∧ ln t j g = 525) ∨ (((510 ≤ t ∧ t ≤ 512) ∧ j = 0) ∧ ln t j g = t + 30) := by
  unfold ln
  rcases h with h | h | h | h
  · rw [if_pos (by omega), if_pos h]
    by_cases e : j = 2
    · rw [if_pos e]; exact Or.inl ⟨h, Or.inl rfl⟩
    · rw [if_neg e]; exact Or.inl ⟨h, Or.inr rfl⟩
  · rw [if_pos (by omega), if_neg (by omega), if_neg (by omega), if_pos h]; exact Or.inr (Or.inl ⟨h, rfl⟩)
  · rw [if_pos (by omega), if_neg (by omega), if_neg (by omega), if_neg (by omega), if_pos h]; exact Or.inr (Or.inr (Or.inl ⟨h, rfl⟩))
  · rw [if_pos (by omega), if_neg (by omega), if_neg (by omega), if_neg (by omega), if_neg (by omega), if_pos h]; exact Or.inr (Or.inr (Or.inr ⟨h, rfl⟩))
abbrev q_nsp (t : Int) : Prop := ¬ (t = 900 ∨ (300 ≤ t ∧ t ≤ 301) ∨ t = 502 ∨ t = 525 ∨ (540 ≤ t ∧ t ≤ 542))
theorem Rep.fin {K : q_K} {v : q_N} {r : q_A} {S : q_S} (h : Rep K v r S) {S2 : q_S} {q k n : Nat} {t t2 : Int} (hq : K q = (k, n, t)) (h0 : k ≠ 0) (ht : q_uf t) (h9 : q_nsp t) (hf : 1000000 ≤ t2 ∨ ∀ a, (K a).1 ≠ 0 → (K a).2.2 ≠ t2)
    (hS : ∀ x j, 0 ≤ j → x ≠ t → x ≠ t2 → S2 x j = S x j) (hS2 : ∀ j, 0 ≤ j → S2 t2 j = S t j) (hS3 : 1000000 ≤ t2 → ∀ j, 0 ≤ j → S2 t2 j = S t2 j)
    (hl : ∀ j, q_isr (k, n, t) j → S t j ≠ 0 ∧ kof (ln t2 j (S t j)) = kof (ln t j (S t j)) ∧ ¬ q_sc (ln t2 j (S t j))) : Rep (q_uk K q (k, n, t2)) v r S2 := by
  have hne : ∀ a j, (K a).1 ≠ 0 → K (r a j) = kof (ln (K a).2.2 j (v a j)) → (¬ q_sc (ln (K a).2.2 j (v a j)) ∨ q_par (K a).2.2 j) → r a j ≠ q := by
    intro a j ha g1 g2 e
    rw [e, hq] at g1
    have g3 : t = ln (K a).2.2 j (v a j) := congrArg (fun z => z.2.2) g1
    rcases g2 with g2 | g2
    · exact g2 (by rw [← g3]; exact ⟨by omega, ht.2⟩)
    · have := ln_par g2 (v a j)
      omega
  refine ⟨fun a ha => ?_, fun a b ha hb hab hlt => ?_⟩
  · by_cases e : a = q
    · subst e
      rw [uk_p]
      have ha2 : (K a).1 ≠ 0 := by rw [hq]; exact h0
      have hh := h.1 a ha2
      have en : ∀ j, 0 ≤ j → v a j = S t j := fun j hj => by rw [hh.1 j hj, hq]
      refine ⟨fun j hj => by rw [en j hj]; exact (hS2 j hj).symm, fun j hj => ?_⟩
      have hj0 := isr_nn hj
      have hlj := hl j hj
      have hr := hh.2 j (by rw [hq]; exact hj)
      rcases hr with g | g
      · exact absurd (by rw [← en j hj0]; exact g.2) hlj.1
      · refine Or.inr ⟨?_, Or.inl (by rw [en j hj0]; exact hlj.2.2)⟩
        rw [uk_n (hne a j ha2 g.1 g.2), g.1, hq]
        show kof (ln t j (v a j)) = kof (ln t2 j (v a j))
        rw [en j hj0]; exact hlj.2.1.symm
    · rw [uk_n e] at ha ⊢
      have hh := h.1 a ha
      have hxt : (K a).2.2 ≠ t := fun e2 => e (h.2 a q ha (by rw [hq]; exact h0) (by rw [e2, hq]) (by rw [e2]; omega))
      refine ⟨fun j hj => ?_, fun j hj => ?_⟩
      · rw [hh.1 j hj]
        by_cases e2 : (K a).2.2 = t2
        · rw [e2]
          rcases hf with hf | hf
          · exact (hS3 hf j hj).symm
          · exact absurd e2 (hf a ha)
        · exact (hS _ j hj hxt e2).symm
      · rcases hh.2 j hj with g | g
        · exact Or.inl g
        · refine Or.inr ⟨?_, g.2⟩
          rw [uk_n (hne a j ha g.1 g.2)]; exact g.1
  · by_cases ea : a = q
    · by_cases eb : b = q
      · rw [ea, eb]
      · subst ea
        rw [uk_p] at hab hlt
        rw [uk_n eb] at hb hab
        rcases hf with hf | hf
        · exact absurd hlt (by show ¬ t2 < 1000000; omega)
        · exact absurd hab.symm (hf b hb)
    · by_cases eb : b = q
      · subst eb
        rw [uk_n ea] at ha hab hlt
        rw [uk_p] at hab
        rcases hf with hf | hf
        · exact absurd hlt (by rw [hab]; show ¬ t2 < 1000000; omega)
        · exact absurd hab (hf a ha)
      · rw [uk_n ea] at ha hab hlt
        rw [uk_n eb] at hb hab
        exact h.2 a b ha hb hab hlt
theorem Rep.fin3 {K : q_K} {v : q_N} {r : q_A} {S : q_S} (h : Rep K v r S) {q a b : Nat} {t : Int} (hq : K q = (1, 0, 900)) (ha : K a = (20, 12, 300)) (hb : K b = (20, 12, 301)) (ht : 1000000 ≤ t) (hm : (t - 1000000) % 3 = 0)
    (hS : ∀ j, 0 ≤ j → S 900 j = S t j) (hS2 : ∀ j, 0 ≤ j → S 300 j = S (t + 1) j) (hS3 : ∀ j, 0 ≤ j → S 301 j = S (t + 2) j) (hz : S 900 2 ≠ 0 ∧ S 900 3 ≠ 0) : Rep (q_uk (q_uk (q_uk K q (1, 0, t)) a (20, 12, t + 1)) b (20, 12, t + 2)) v r S := by
  have qa : q ≠ a := fun e => by rw [e, ha] at hq; cases hq
  have qb : q ≠ b := fun e => by rw [e, hb] at hq; cases hq
  have ab : a ≠ b := fun e => by rw [e, hb] at ha; exact absurd (congrArg (fun z => z.2.2) ha) (by decide)
  have kq : q_uk (q_uk (q_uk K q (1, 0, t)) a (20, 12, t + 1)) b (20, 12, t + 2) q = (1, 0, t) := by rw [uk_n qb, uk_n qa, uk_p]
  have ka : q_uk (q_uk (q_uk K q (1, 0, t)) a (20, 12, t + 1)) b (20, 12, t + 2) a = (20, 12, t + 1) := by rw [uk_n ab, uk_p]
  have kb : q_uk (q_uk (q_uk K q (1, 0, t)) a (20, 12, t + 1)) b (20, 12, t + 2) b = (20, 12, t + 2) := uk_p
  have kx : ∀ x, x ≠ q → x ≠ a → x ≠ b → q_uk (q_uk (q_uk K q (1, 0, t)) a (20, 12, t + 1)) b (20, 12, t + 2) x = K x := fun x h1 h2 h3 => by rw [uk_n h3, uk_n h2, uk_n h1]
  have tq : ∀ x, (K x).1 ≠ 0 → (K x).2.2 = 900 → x = q := fun x hx e => h.2 x q hx (by rw [hq]; decide) (by rw [e, hq]) (by rw [e]; decide)
  have ta : ∀ x, (K x).1 ≠ 0 → (K x).2.2 = 300 → x = a := fun x hx e => h.2 x a hx (by rw [ha]; decide) (by rw [e, ha]) (by rw [e]; decide)
  have tb : ∀ x, (K x).1 ≠ 0 → (K x).2.2 = 301 → x = b := fun x hx e => h.2 x b hx (by rw [hb]; decide) (by rw [e, hb]) (by rw [e]; decide)
  refine ⟨fun x hx => ?_, fun x y hx hy hxy hlt => ?_⟩
  · by_cases e : x = q
    · subst e
      rw [kq]
      have hh := h.1 x (by rw [hq]; decide)
      have en : ∀ j, 0 ≤ j → v x j = S 900 j := fun j hj => by rw [hh.1 j hj, hq]
      refine ⟨fun j hj => by rw [en j hj]; exact hS j hj, fun j hj => ?_⟩
      have hj0 := isr_nn hj
      have hj2 : j = 2 ∨ j = 3 := by
        rcases hj with ⟨c2, k2, h1, h2, h3, h4, h5⟩ | ⟨h1, h2, h3⟩
        · have h6 : c2 = 0 := by simp only [] at h1; omega
          subst h6
          have h7 : k2 < 4 := h4
          match k2, h7, h5 with
          | 0, _, h5 => exact absurd h5 (by decide)
          | 1, _, h5 => exact absurd h5 (by decide)
          | 2, _, _ => exact Or.inl h3
          | 3, _, _ => exact Or.inr h3
        · simp only [] at h1; omega
      have hr := hh.2 j (by rw [hq]; exact hj)
      have h900 : v x j ≠ 0 := by
        rw [en j hj0]
        rcases hj2 with rfl | rfl
        · exact hz.1
        · exact hz.2
      rcases hr with g | g
      · exact absurd g.2 h900
      · have g1 := g.1
        rw [hq] at g1
        have kt : ∀ y : Int, 1000000 ≤ y → (y - 1000000) % 3 ≠ 0 → kof y = (20, 12, y) := by
          intro y hy h3
          unfold kof kk
          rw [if_neg (by omega), if_neg (by omega), if_neg (by omega), if_neg h3]
        have e8 : ln t j (v x j) = t + (j - 1) := by
          unfold ln ln0
          rw [if_neg (by omega), if_neg (by omega), if_neg (by omega), if_neg (by omega), if_neg (by omega), if_neg (by omega), if_neg (by omega), if_neg (by omega), if_neg (by omega), if_neg (by omega), if_neg (by omega), if_neg (by omega), if_neg (by omega), if_neg (by omega), if_neg (by omega)]
        refine Or.inr ⟨?_, Or.inl ?_⟩
        · show _ = kof (ln t j (v x j))
          rw [e8, kt _ (by omega) (by omega)]
          rcases hj2 with rfl | rfl
          · have e9 : r x 2 = a := by
              have g3 : K (r x 2) = (20, 12, 300) := g1
              exact ta _ (by rw [g3]; decide) (by rw [g3])
            rw [e9, ka]; rfl
          · have e9 : r x 3 = b := by
              have g3 : K (r x 3) = (20, 12, 301) := g1
              exact tb _ (by rw [g3]; decide) (by rw [g3])
            rw [e9, kb]; rfl
        · show ¬ q_sc (ln t j (v x j))
          rw [e8]; omega
    · by_cases ea : x = a
      · subst ea
        rw [ka]
        have hh := h.1 x (by rw [ha]; decide)
        refine ⟨fun j hj => by rw [hh.1 j hj, ha]; exact hS2 j hj, fun j hj => absurd hj (q_isr_no (Nat.le_of_ble_eq_true rfl) (Nat.le_of_ble_eq_true rfl))⟩
      · by_cases eb : x = b
        · subst eb
          rw [kb]
          have hh := h.1 x (by rw [hb]; decide)
          refine ⟨fun j hj => by rw [hh.1 j hj, hb]; exact hS3 j hj, fun j hj => absurd hj (q_isr_no (Nat.le_of_ble_eq_true rfl) (Nat.le_of_ble_eq_true rfl))⟩
        · rw [kx x e ea eb] at hx ⊢
          have hh := h.1 x hx
          refine ⟨hh.1, fun j hj => ?_⟩
          rcases hh.2 j hj with g | g
          · exact Or.inl g
          · have hx9 : (K x).2.2 ≠ 900 := fun y => e (tq x hx y)
            have g2 : ln (K x).2.2 j (v x j) ≠ 900 ∧ ln (K x).2.2 j (v x j) ≠ 300 ∧ ln (K x).2.2 j (v x j) ≠ 301 := by
              rcases g.2 with y | y
              · omega
              · have := ln_par y (v x j)
                omega
            have n1 : r x j ≠ q := fun e2 => by
              have g1 := g.1
              rw [e2, hq] at g1
              have e9 : (900 : Int) = ln (K x).2.2 j (v x j) := congrArg (fun z => z.2.2) g1
              exact g2.1 e9.symm
            have n2 : r x j ≠ a := fun e2 => by
              have g1 := g.1
              rw [e2, ha] at g1
              have e9 : (300 : Int) = ln (K x).2.2 j (v x j) := congrArg (fun z => z.2.2) g1
              exact g2.2.1 e9.symm
            have n3 : r x j ≠ b := fun e2 => by
              have g1 := g.1
              rw [e2, hb] at g1
              have e9 : (301 : Int) = ln (K x).2.2 j (v x j) := congrArg (fun z => z.2.2) g1
              exact g2.2.2 e9.symm
            exact Or.inr ⟨by rw [kx _ n1 n2 n3]; exact g.1, g.2⟩
  · have big : ∀ x, (x = q ∨ x = a ∨ x = b) → ¬ (q_uk (q_uk (q_uk K q (1, 0, t)) a (20, 12, t + 1)) b (20, 12, t + 2) x).2.2 < 1000000 := by
      intro x hx
      rcases hx with rfl | rfl | rfl
      · rw [kq]; show ¬ t < 1000000; omega
      · rw [ka]; show ¬ t + 1 < 1000000; omega
      · rw [kb]; show ¬ t + 2 < 1000000; omega
    have sx : x ≠ q ∧ x ≠ a ∧ x ≠ b := ⟨fun e => big x (Or.inl e) hlt, fun e => big x (Or.inr (Or.inl e)) hlt, fun e => big x (Or.inr (Or.inr e)) hlt⟩
    have sy : y ≠ q ∧ y ≠ a ∧ y ≠ b := ⟨fun e => big y (Or.inl e) (by rw [← hxy]; exact hlt), fun e => big y (Or.inr (Or.inl e)) (by rw [← hxy]; exact hlt), fun e => big y (Or.inr (Or.inr e)) (by rw [← hxy]; exact hlt)⟩
    rw [kx x sx.1 sx.2.1 sx.2.2] at hx hxy hlt
    rw [kx y sy.1 sy.2.1 sy.2.2] at hy hxy
    exact h.2 x y hx hy hxy hlt
/-- a cell and the array that it is making are done together -/
theorem Rep.fin2 {K : q_K} {v : q_N} {r : q_A} {S : q_S} (h : Rep K v r S) {S2 : q_S} {q a ci c9 n : Nat} {t ta t2 ta2 j0 : Int} (hq : K q = (ci + 1, 0, t)) (ha : K a = (30 + c9, n, ta)) (ht : q_uf t) (hta : q_uf ta) (hne : t ≠ ta ∧ t2 ≠ ta2) (hlo : t2 < 290 ∧ ta2 < 290)
    (hf : ∀ x, (K x).1 ≠ 0 → (K x).2.2 ≠ t2 ∧ (K x).2.2 ≠ ta2) (hp1 : ∀ x j g, q_par x j → ln x j g ≠ t) (hp2 : ∀ x j g, q_par x j → ln x j g = ta → x = t ∧ j = j0)
    (hS : ∀ x j, 0 ≤ j → x ≠ t → x ≠ ta → x ≠ t2 → x ≠ ta2 → S2 x j = S x j) (hSt : ∀ j, 0 ≤ j → S2 t2 j = S t j) (hSa : ∀ j, 0 ≤ j → S2 ta2 j = S ta j)
    (hk : kof ta = (30 + c9, n, ta)) (hk2 : kof ta2 = (30 + c9, n, ta2)) (hl0 : ∀ g, ln t j0 g = ta)
    (hl : ∀ j, q_isr (ci + 1, 0, t) j → S t j ≠ 0 ∧ ((j = j0 ∧ ln t2 j (S t j) = ta2) ∨ (kof (ln t2 j (S t j)) = kof (ln t j (S t j)) ∧ ¬ q_sc (ln t2 j (S t j)))))
    (hla : ∀ j, q_isr (30 + c9, n, ta) j → S ta j ≠ 0 ∧ kof (ln ta2 j (S ta j)) = kof (ln ta j (S ta j)) ∧ ¬ q_sc (ln ta2 j (S ta j))) : Rep (q_uk (q_uk K q (ci + 1, 0, t2)) a (30 + c9, n, ta2)) v r S2 := by
  have qa : q ≠ a := fun e => by rw [e, ha] at hq; exact hne.1 (congrArg (fun z => z.2.2) hq).symm
  have kq : q_uk (q_uk K q (ci + 1, 0, t2)) a (30 + c9, n, ta2) q = (ci + 1, 0, t2) := by rw [uk_n qa, uk_p]
  have ka : q_uk (q_uk K q (ci + 1, 0, t2)) a (30 + c9, n, ta2) a = (30 + c9, n, ta2) := uk_p
  have kx : ∀ x, x ≠ q → x ≠ a → q_uk (q_uk K q (ci + 1, 0, t2)) a (30 + c9, n, ta2) x = K x := fun x h1 h2 => by rw [uk_n h2, uk_n h1]
  have tq : ∀ x, (K x).1 ≠ 0 → (K x).2.2 = t → x = q := fun x hx e => h.2 x q hx (by rw [hq]; exact Nat.succ_ne_zero _) (by rw [e, hq]) (by rw [e]; omega)
  have ta' : ∀ x, (K x).1 ≠ 0 → (K x).2.2 = ta → x = a := fun x hx e => h.2 x a hx (by rw [ha]; show 30 + c9 ≠ 0; omega) (by rw [e, ha]) (by rw [e]; omega)
  have hq0 : (K q).1 ≠ 0 := by rw [hq]; exact Nat.succ_ne_zero _
  have ha0 : (K a).1 ≠ 0 := by rw [ha]; show 30 + c9 ≠ 0; omega
  have nx : ∀ x j, (K x).1 ≠ 0 → ((K x).2.2 = t → j ≠ j0) → K (r x j) = kof (ln (K x).2.2 j (v x j)) → (¬ q_sc (ln (K x).2.2 j (v x j)) ∨ q_par (K x).2.2 j) → r x j ≠ q ∧ r x j ≠ a := by
    intro x j hx hj g1 g2
    refine ⟨fun e => ?_, fun e => ?_⟩
    · rw [e, hq] at g1
      have g3 : t = ln (K x).2.2 j (v x j) := congrArg (fun z => z.2.2) g1
      rcases g2 with g2 | g2
      · exact g2 (by rw [← g3]; exact ⟨by omega, ht.2⟩)
      · exact hp1 _ _ _ g2 g3.symm
    · rw [e, ha] at g1
      have g3 : ta = ln (K x).2.2 j (v x j) := congrArg (fun z => z.2.2) g1
      rcases g2 with g2 | g2
      · exact g2 (by rw [← g3]; exact ⟨by omega, hta.2⟩)
      · have := hp2 _ _ _ g2 g3.symm
        exact hj this.1 this.2
  refine ⟨fun x hx => ?_, fun x y hx hy hxy hlt => ?_⟩
  · by_cases e : x = q
    · subst e
      rw [kq]
      have hh := h.1 x hq0
      have en : ∀ j, 0 ≤ j → v x j = S t j := fun j hj => by rw [hh.1 j hj, hq]
      refine ⟨fun j hj => by rw [en j hj]; exact (hSt j hj).symm, fun j hj => ?_⟩
      have hj0 := isr_nn hj
      have hlj := hl j hj
      have hr := hh.2 j (by rw [hq]; exact hj)
      rcases hr with g | g
      · exact absurd (by rw [← en j hj0]; exact g.2) hlj.1
      · rw [hq] at g
        by_cases ej : j = j0
        · subst ej
          have g1 := g.1
          rw [hl0, hk] at g1
          have era : r x j = a := ta' _ (by rw [g1]; show 30 + c9 ≠ 0; omega) (by rw [g1])
          have el2 : ln t2 j (S t j) = ta2 := by
            rcases hlj.2 with y | y
            · exact y.2
            · have y1 := y.1
              rw [hl0, hk] at y1
              exact absurd (congrArg (fun z => z.2.2) y1) (by show ¬ ln t2 j (S t j) = ta; intro w; rw [w] at y; exact y.2 ⟨by omega, hta.2⟩)
          refine Or.inr ⟨?_, Or.inl ?_⟩
          · show _ = kof (ln t2 j (v x j))
            rw [era, ka, en j hj0, el2, hk2]
          · show ¬ q_sc (ln t2 j (v x j))
            rw [en j hj0, el2]; omega
        · have l2 := hlj.2.resolve_left (fun y => ej y.1)
          have nn := nx x j hq0 (fun _ => ej) (by rw [hq]; exact g.1) (by rw [hq]; exact g.2)
          refine Or.inr ⟨?_, Or.inl (by show ¬ q_sc (ln t2 j (v x j)); rw [en j hj0]; exact l2.2)⟩
          show _ = kof (ln t2 j (v x j))
          rw [kx _ nn.1 nn.2, g.1, en j hj0, l2.1]
    · by_cases ea : x = a
      · subst ea
        rw [ka]
        have hh := h.1 x ha0
        have en : ∀ j, 0 ≤ j → v x j = S ta j := fun j hj => by rw [hh.1 j hj, ha]
        refine ⟨fun j hj => by rw [en j hj]; exact (hSa j hj).symm, fun j hj => ?_⟩
        have hj0 := isr_nn hj
        have hlj := hla j hj
        have hr := hh.2 j (by rw [ha]; exact hj)
        rcases hr with g | g
        · exact absurd (by rw [← en j hj0]; exact g.2) hlj.1
        · rw [ha] at g
          have nn := nx x j ha0 (fun y => by rw [ha] at y; exact absurd y.symm hne.1) (by rw [ha]; exact g.1) (by rw [ha]; exact g.2)
          refine Or.inr ⟨?_, Or.inl (by show ¬ q_sc (ln ta2 j (v x j)); rw [en j hj0]; exact hlj.2.2)⟩
          show _ = kof (ln ta2 j (v x j))
          rw [kx _ nn.1 nn.2, g.1, en j hj0, hlj.2.1]
      · rw [kx x e ea] at hx ⊢
        have hh := h.1 x hx
        have hxt : (K x).2.2 ≠ t := fun y => e (tq x hx y)
        have hxa : (K x).2.2 ≠ ta := fun y => ea (ta' x hx y)
        refine ⟨fun j hj => by rw [hh.1 j hj]; exact (hS _ j hj hxt hxa (hf x hx).1 (hf x hx).2).symm, fun j hj => ?_⟩
        rcases hh.2 j hj with g | g
        · exact Or.inl g
        · have nn := nx x j hx (fun y => absurd y hxt) g.1 g.2
          exact Or.inr ⟨by rw [kx _ nn.1 nn.2]; exact g.1, g.2⟩
  · by_cases ex : x = q
    · subst ex
      rw [kq] at hxy
      by_cases ey : y = x
      · exact ey.symm
      · by_cases ey2 : y = a
        · subst ey2; rw [ka] at hxy; exact absurd hxy hne.2
        · rw [kx y ey ey2] at hy hxy
          exact absurd hxy.symm (hf y hy).1
    · by_cases ex2 : x = a
      · subst ex2
        rw [ka] at hxy
        by_cases ey : y = q
        · subst ey; rw [kq] at hxy; exact absurd hxy.symm hne.2
        · by_cases ey2 : y = x
          · exact ey2.symm
          · rw [kx y ey ey2] at hy hxy
            exact absurd hxy.symm (hf y hy).2
      · rw [kx x ex ex2] at hx hxy hlt
        by_cases ey : y = q
        · subst ey; rw [kq] at hxy; exact absurd hxy (hf x hx).1
        · by_cases ey2 : y = a
          · subst ey2; rw [ka] at hxy; exact absurd hxy (hf x hx).2
          · rw [kx y ey ey2] at hy hxy
            exact h.2 x y hx hy hxy hlt
section EM3
variable {X : q_X} {pc : Nat} {ls : q_Ls} {st : List q_V} {K : q_K} {M C : q_S} {c s : Nat} {Q : q_Q2}
/-- no cell bears this number -/
abbrev q_fre (K : q_K) (t : Int) : Prop := ∀ a, (K a).1 ≠ 0 → (K a).2.2 ≠ t
theorem e_new {idx ci c2 s2 : Nat} {t : Int} (h100 : 100 ≤ t) (hf : q_fre K t) (hu : q_uf t ∨ ∀ j, ¬ q_isr (ci + 1, 0, t) j) (d : decode (q_b X) pc = .ok (.new idx, 3)) (hw : q_nw (q_y X).cls idx ci) (hc : c2 + 1 ≤ c) (hs : s2 + q_sz ci ≤ s) (k : ∀ q, q ≠ 0 → (K q).1 = 0 → q_E X (pc + 3) ls (q_R q :: st) (q_uk K q (ci + 1, 0, t)) M (q_zt C t) c2 s2 Q) : q_E X pc ls st K M C c s Q := fun v r hR =>
  q_new d hw hc hs (fun q h0 hq => k q h0 hq _ _ (by rw [← mg_zc h100]; exact hR.new hq hf hu))
theorem c_newI {z : Int} {n c2 s2 : Nat} {t : Int} (h100 : 100 ≤ t) (hf : q_fre K t) (d : decode (q_b X) pc = .ok (.newarray .int, 2)) (hw : Cond.arrayClass (newarray.typeOf .int) ∈ q_tw) (hz : z = (n : Int)) (hn : n ≤ 67108864) (hc : c2 + 1 ≤ c) (hs : s2 + n ≤ s) (k : ∀ q, q ≠ 0 → (K q).1 = 0 → q_E X (pc + 2) ls (q_R q :: st) (q_uk K q (20, n, t)) M (q_zt C t) c2 s2 Q) : q_E X pc ls (q_I z :: st) K M C c s Q := fun v r hR =>
  q_newI d hw hz hn hc hs (fun q h0 hq => k q h0 hq _ _ (by rw [← mg_zc h100]; exact hR.new hq hf (Or.inr (fun j => q_isr_no (Nat.le_of_ble_eq_true rfl) (Nat.le_of_ble_eq_true rfl)))))
theorem c_newZ {z : Int} {n c2 s2 : Nat} {t : Int} (h100 : 100 ≤ t) (hf : q_fre K t) (d : decode (q_b X) pc = .ok (.newarray .boolean, 2)) (hw : Cond.arrayClass (newarray.typeOf .boolean) ∈ q_tw) (hz : z = (n : Int)) (hn : n ≤ 67108864) (hc : c2 + 1 ≤ c) (hs : s2 + n ≤ s) (k : ∀ q, q ≠ 0 → (K q).1 = 0 → q_E X (pc + 2) ls (q_R q :: st) (q_uk K q (22, n, t)) M (q_zt C t) c2 s2 Q) : q_E X pc ls (q_I z :: st) K M C c s Q := fun v r hR =>
  q_newZ d hw hz hn hc hs (fun q h0 hq => k q h0 hq _ _ (by rw [← mg_zc h100]; exact hR.new hq hf (Or.inr (fun j => q_isr_no (Nat.le_of_ble_eq_true rfl) (Nat.le_of_ble_eq_true rfl)))))
theorem m_newI {z : Int} {n c2 s2 : Nat} {t : Int} (h100 : t < 100) (hf : q_fre K t) (d : decode (q_b X) pc = .ok (.newarray .int, 2)) (hw : Cond.arrayClass (newarray.typeOf .int) ∈ q_tw) (hz : z = (n : Int)) (hn : n ≤ 67108864) (hc : c2 + 1 ≤ c) (hs : s2 + n ≤ s) (k : ∀ q, q ≠ 0 → (K q).1 = 0 → q_E X (pc + 2) ls (q_R q :: st) (q_uk K q (20, n, t)) (q_zt M t) C c2 s2 Q) : q_E X pc ls (q_I z :: st) K M C c s Q := fun v r hR =>
  q_newI d hw hz hn hc hs (fun q h0 hq => k q h0 hq _ _ (by rw [← mg_zm h100]; exact hR.new hq hf (Or.inr (fun j => q_isr_no (Nat.le_of_ble_eq_true rfl) (Nat.le_of_ble_eq_true rfl)))))
theorem m_newL {z : Int} {n c2 s2 : Nat} {t : Int} (h100 : t < 100) (hf : q_fre K t) (d : decode (q_b X) pc = .ok (.newarray .long, 2)) (hw : Cond.arrayClass (newarray.typeOf .long) ∈ q_tw) (hz : z = (n : Int)) (hn : n ≤ 67108864) (hc : c2 + 1 ≤ c) (hs : s2 + n ≤ s) (k : ∀ q, q ≠ 0 → (K q).1 = 0 → q_E X (pc + 2) ls (q_R q :: st) (q_uk K q (21, n, t)) (q_zt M t) C c2 s2 Q) : q_E X pc ls (q_I z :: st) K M C c s Q := fun v r hR =>
  q_newL d hw hz hn hc hs (fun q h0 hq => k q h0 hq _ _ (by rw [← mg_zm h100]; exact hR.new hq hf (Or.inr (fun j => q_isr_no (Nat.le_of_ble_eq_true rfl) (Nat.le_of_ble_eq_true rfl)))))
/-- the long array of the law -/
theorem c_newL {z : Int} {n c2 s2 : Nat} {t : Int} (h100 : 100 ≤ t) (hf : q_fre K t) (d : decode (q_b X) pc = .ok (.newarray .long, 2)) (hw : Cond.arrayClass (newarray.typeOf .long) ∈ q_tw) (hz : z = (n : Int)) (hn : n ≤ 67108864) (hc : c2 + 1 ≤ c) (hs : s2 + n ≤ s) (k : ∀ q, q ≠ 0 → (K q).1 = 0 → q_E X (pc + 2) ls (q_R q :: st) (q_uk K q (21, n, t)) M (q_zt C t) c2 s2 Q) : q_E X pc ls (q_I z :: st) K M C c s Q := fun v r hR =>
  q_newL d hw hz hn hc hs (fun q h0 hq => k q h0 hq _ _ (by rw [← mg_zc h100]; exact hR.new hq hf (Or.inr (fun j => q_isr_no (Nat.le_of_ble_eq_true rfl) (Nat.le_of_ble_eq_true rfl)))))
theorem c_newA {z : Int} {n idx ci c2 s2 : Nat} {t : Int} (h100 : 100 ≤ t) (hf : q_fre K t) (hu : q_uf t) (d : decode (q_b X) pc = .ok (.anewarray idx, 3)) (hw : q_aw (q_y X).cls idx ci) (hz : z = (n : Int)) (hn : n ≤ 67108864) (hc : c2 + 1 ≤ c) (hs : s2 + n ≤ s) (k : ∀ q, q ≠ 0 → (K q).1 = 0 → q_E X (pc + 3) ls (q_R q :: st) (q_uk K q (30 + ci, n, t)) M (q_zt C t) c2 s2 Q) : q_E X pc ls (q_I z :: st) K M C c s Q := fun v r hR =>
  q_newA d hw hz hn hc hs (fun q h0 hq => k q h0 hq _ _ (by rw [← mg_zc h100]; exact hR.new hq hf (Or.inl hu)))
theorem retag_ok {K : q_K} {q : Nat} {k n : Nat} {t t2 : Int} (hq : K q = (k, n, t)) : ∀ a, (q_uk K q (k, n, t2) a).1 = (K a).1 ∧ (q_uk K q (k, n, t2) a).2.1 = (K a).2.1 := by
  intro a
  by_cases e : a = q
  · rw [e, uk_p, hq]; exact ⟨rfl, rfl⟩
  · rw [uk_n e]; exact ⟨rfl, rfl⟩
theorem e_fin {M2 C2 : q_S} {q k n : Nat} {t t2 : Int} (hq : K q = (k, n, t)) (h0 : k ≠ 0) (ht : q_uf t) (h9 : q_nsp t) (hf : 1000000 ≤ t2 ∨ q_fre K t2)
    (hS : ∀ x j, 0 ≤ j → x ≠ t → x ≠ t2 → mg M2 C2 x j = mg M C x j) (hS2 : ∀ j, 0 ≤ j → mg M2 C2 t2 j = mg M C t j) (hS3 : 1000000 ≤ t2 → ∀ j, 0 ≤ j → mg M2 C2 t2 j = mg M C t2 j)
    (hl : ∀ j, q_isr (k, n, t) j → mg M C t j ≠ 0 ∧ kof (ln t2 j (mg M C t j)) = kof (ln t j (mg M C t j)) ∧ ¬ q_sc (ln t2 j (mg M C t j)))
    (kk : q_E X pc ls st (q_uk K q (k, n, t2)) M2 C2 c s Q) : q_E X pc ls st K M C c s Q := fun v r hR =>
  q_retag (retag_ok hq) (kk v r (hR.fin hq h0 ht h9 hf hS hS2 hS3 hl))
theorem e_fin2 {C2 : q_S} {q a ci c9 n : Nat} {t ta t2 ta2 j0 : Int} (hq : K q = (ci + 1, 0, t)) (ha : K a = (30 + c9, n, ta)) (ht : q_uf t) (hta : q_uf ta) (hne : t ≠ ta ∧ t2 ≠ ta2) (hlo : (100 ≤ t2 ∧ t2 < 290) ∧ 100 ≤ ta2 ∧ ta2 < 290)
    (hf1 : q_fre K t2) (hf2 : q_fre K ta2) (hp1 : ∀ x j g, q_par x j → ln x j g ≠ t) (hp2 : ∀ x j g, q_par x j → ln x j g = ta → x = t ∧ j = j0)
    (hS : ∀ x j, 0 ≤ j → x ≠ t → x ≠ ta → x ≠ t2 → x ≠ ta2 → C2 x j = C x j) (hSt : ∀ j, 0 ≤ j → C2 t2 j = C t j) (hSa : ∀ j, 0 ≤ j → C2 ta2 j = C ta j)
    (hk : kof ta = (30 + c9, n, ta)) (hk2 : kof ta2 = (30 + c9, n, ta2)) (hl0 : ∀ g, ln t j0 g = ta)
    (hl : ∀ j, q_isr (ci + 1, 0, t) j → C t j ≠ 0 ∧ ((j = j0 ∧ ln t2 j (C t j) = ta2) ∨ (kof (ln t2 j (C t j)) = kof (ln t j (C t j)) ∧ ¬ q_sc (ln t2 j (C t j)))))
    (hla : ∀ j, q_isr (30 + c9, n, ta) j → C ta j ≠ 0 ∧ kof (ln ta2 j (C ta j)) = kof (ln ta j (C ta j)) ∧ ¬ q_sc (ln ta2 j (C ta j)))
    (kk : q_E X pc ls st (q_uk (q_uk K q (ci + 1, 0, t2)) a (30 + c9, n, ta2)) M C2 c s Q) : q_E X pc ls st K M C c s Q := fun v r hR => by
  have qa : q ≠ a := fun e => by rw [e, ha] at hq; exact hne.1 (congrArg (fun z => z.2.2) hq).symm
  refine q_retag (retag_ok (t2 := t2) hq) (q_retag (retag_ok (t2 := ta2) (by rw [uk_n qa.symm]; exact ha)) (kk v r (hR.fin2 hq ha ht hta hne ⟨hlo.1.2, hlo.2.2⟩ (fun x hx => ⟨hf1 x hx, hf2 x hx⟩) hp1 hp2 (fun x j hj h1 h2 h3 h4 => ?_) (fun j hj => ?_) (fun j hj => ?_) hk hk2 hl0 (fun j hj => ?_) (fun j hj => ?_))))
  · unfold mg
    split
    · rfl
    · exact hS x j hj h1 h2 h3 h4
  · rw [mg_c (by omega), mg_c (by omega)]; exact hSt j hj
  · rw [mg_c (by omega), mg_c (by omega)]; exact hSa j hj
  · rw [mg_c (by omega)]; exact hl j hj
  · rw [mg_c (by omega)]; exact hla j hj
theorem e_fin3 {q a b : Nat} {t : Int} (hq : K q = (1, 0, 900)) (ha : K a = (20, 12, 300)) (hb : K b = (20, 12, 301)) (ht : 1000000 ≤ t) (hm : (t - 1000000) % 3 = 0)
    (hS : ∀ j, 0 ≤ j → C 900 j = C t j) (hS2 : ∀ j, 0 ≤ j → C 300 j = C (t + 1) j) (hS3 : ∀ j, 0 ≤ j → C 301 j = C (t + 2) j) (hz : C 900 2 ≠ 0 ∧ C 900 3 ≠ 0)
    (kk : q_E X pc ls st (q_uk (q_uk (q_uk K q (1, 0, t)) a (20, 12, t + 1)) b (20, 12, t + 2)) M C c s Q) : q_E X pc ls st K M C c s Q := fun v r hR => by
  have qa : q ≠ a := fun e => by rw [e, ha] at hq; cases hq
  have qb : q ≠ b := fun e => by rw [e, hb] at hq; cases hq
  have ab : a ≠ b := fun e => by rw [e, hb] at ha; exact absurd (congrArg (fun z => z.2.2) ha) (by decide)
  refine q_retag (retag_ok (t2 := t) hq) (q_retag (retag_ok (t2 := t + 1) (by rw [uk_n qa.symm]; exact ha)) (q_retag (retag_ok (t2 := t + 2) (by rw [uk_n ab.symm, uk_n qb.symm]; exact hb)) (kk v r (hR.fin3 hq ha hb ht hm (fun j hj => ?_) (fun j hj => ?_) (fun j hj => ?_) ?_))))
  · rw [mg_c (by omega), mg_c (by omega)]; exact hS j hj
  · rw [mg_c (by omega), mg_c (by omega)]; exact hS2 j hj
  · rw [mg_c (by omega), mg_c (by omega)]; exact hS3 j hj
  · rw [mg_c (by omega), mg_c (by omega)]; exact hz
theorem e_callI {Y : q_X} {idx n c1 s1 c2 s2 : Nat} {as rest : List q_V} {ls0 : q_Ls} {Q1 : q_Q2} {a : Nat} {kt : Nat × Nat × Int} (d : decode (q_b X) pc = .ok (.invokespecial idx, 3)) (hw : q_ok Y n) (hini : (q_y Y).name = "<init>") (hrt : q_rt Y = none) (hl : Cond.methodLink (q_y X).cls idx (q_y Y) ∈ q_tw ∨ ∃ host, Cond.methodLinkNest (q_y X).cls idx (q_y Y) host ∈ q_nest) (hst : Cond.instanceMethod (q_y Y) ∈ q_tw) (hka : K a = kt) (hkc : kt.1 ≠ 0) (hhY : q_hh Y = []) (hst2 : st = as.reverse ++ q_R a :: rest) (hln : as.length = n) (hls : q_ent (q_n Y) (q_R a :: as) = ls0) (hlz : (as.map q_cat).sum + 1 ≤ q_n Y) (hfit : q_fit X Y) (hcc : c1 + c2 ≤ c) (hss : s1 + s2 ≤ s) (hr8 : (rest.map q_cat).sum ≤ 8) (hnm : (q_y Y).name ≠ "law")
    (k1 : q_E Y 0 ls0 [] K M C c1 s1 Q1) (k2 : ∀ o K1 M1 C1, Q1 (Sum.inl o) K1 M1 C1 → q_E X (pc + 3) ls (o.toList ++ rest) K1 M1 C1 c2 s2 Q) (k3 : ∀ E K1 M1 C1, ¬ Q1 (Sum.inr E) K1 M1 C1) : q_E X pc ls st K M C c s Q := fun v r hR =>
  q_callI d hw hini hrt hl hst (by rw [hka]; exact hkc) hhY hst2 hln hls hlz hfit hcc hss hr8 hnm (k1 v r hR) (fun o K1 v1 r1 ⟨M1, C1, h1, h2⟩ => k2 o K1 M1 C1 h2 v1 r1 h1) (fun E K1 v1 r1 ⟨M1, C1, _, h2⟩ => k3 E K1 M1 C1 h2)
/-- System.arraycopy within the class -/
def q_cs (S : q_S) (ta sp tb dp n : Int) : q_S := fun t j => if t = tb ∧ dp ≤ j ∧ j < dp + n then S ta (sp + (j - dp)) else S t j
theorem q_cs_ap {S : q_S} {ta sp tb dp n t j : Int} : q_cs S ta sp tb dp n t j = if t = tb ∧ dp ≤ j ∧ j < dp + n then S ta (sp + (j - dp)) else S t j := rfl
theorem c_acopy {idx a b na nb : Nat} {sp dp n ta tb : Int} (h100 : 100 ≤ ta ∧ 100 ≤ tb) (htb : tb < 1000000) (d : decode (q_b X) pc = .ok (.invokestatic idx, 3)) (hl : Cond.methodLink (q_y X).cls idx arraycopyName ∈ q_tw) (hr8 : (st.map q_cat).sum ≤ 8) (hfr : 1 ≤ q_fr X ∧ 60 ≤ q_lo X) (ha : K a = (20, na, ta)) (hb : K b = (20, nb, tb)) (h1 : 0 ≤ sp ∧ sp + n ≤ (na : Int)) (h2 : 0 ≤ dp ∧ dp + n ≤ (nb : Int)) (h3 : 0 ≤ n)
    (k : q_E X (pc + 3) ls st K M (q_cs C ta sp tb dp n) c s Q) : q_E X pc ls (q_I n :: q_I dp :: q_R b :: q_I sp :: q_R a :: st) K M C c s Q := fun v r hR => by
  refine q_acopy d hl hr8 hfr (by rw [ha]) (by rw [hb]) (by rw [ha]; exact h1) (by rw [hb]; exact h2) h3 (k _ r ?_)
  refine ⟨fun q hq => ⟨fun j hj => ?_, fun j hj => ?_⟩, hR.2⟩
  · unfold q_cp
    by_cases e : q = b ∧ dp ≤ j ∧ j < dp + n
    · rw [if_pos e]
      have ea := hR.get ha (by decide : (20 : Nat) ≠ 0) (j := sp + (j - dp)) (by omega)
      rw [ea, e.1, hb]
      show mg M C ta _ = mg M (q_cs C ta sp tb dp n) tb j
      rw [mg_c h100.1, mg_c h100.2, q_cs_ap, if_pos ⟨rfl, e.2⟩]
    · rw [if_neg e, (hR.1 q hq).1 j hj]
      by_cases e2 : (K q).2.2 = tb
      · have e3 : q = b := hR.2 q b hq (by rw [hb]; exact (by decide : (20 : Nat) ≠ 0)) (by rw [e2, hb]) (by rw [e2]; exact htb)
        rw [e2, mg_c h100.2, mg_c h100.2, q_cs_ap, if_neg (fun g => e ⟨e3, g.2⟩)]
      · unfold mg
        split
        · rfl
        · rw [q_cs_ap, if_neg (fun g => e2 g.1)]
  · have hqb : q ≠ b := fun e => by rw [e, hb] at hj; exact q_isr_no (Nat.le_of_ble_eq_true rfl) (Nat.le_of_ble_eq_true rfl) hj
    have ev : q_cp v a sp b dp n q j = v q j := if_neg (fun g => hqb g.1)
    rw [ev]; exact (hR.1 q hq).2 j hj
/-- the end of a method that answers with a cell -/
def e_rf (kt : Nat × Nat × Int) (K : q_K) (M C : q_S) : q_Q2 := fun o2 K2 M2 C2 => (∃ q, o2 = Sum.inl (some (q_R q)) ∧ K q = kt) ∧ K2 = K ∧ M2 = M ∧ C2 = C
theorem e_rok {q : Nat} {kt : Nat × Nat × Int} (h : K q = kt) : e_rf kt K M C (Sum.inl (some (q_R q))) K M C := ⟨⟨q, rfl, h⟩, rfl, rfl, rfl⟩
theorem e_cVR {Y : q_X} {idx n : Nat} {as rest : List q_V} {M1 C1 : q_S} {a ci : Nat} {kt kr : Nat × Nat × Int} (d : decode (q_b X) pc = .ok (.invokevirtual idx, 3)) (hw : q_ok Y n) (hl : Cond.methodLink (q_y X).cls idx (q_y Y) ∈ q_tw) (hst : Cond.instanceMethod (q_y Y) ∈ q_tw) (hse : Cond.selects (q_y Y).cls (q_y Y) (q_y Y) ∈ q_tw) (hka : K a = kt) (hkc : kt.1 = ci + 1) (hci : ci < 12) (hcl : ∃ T N, vwCl[ci]? = some ((q_y Y).cls, T, N)) (hx : q_hh X = []) (hhY : q_hh Y = []) (hst2 : st = as.reverse ++ q_R a :: rest) (hln : as.length = n) (hlz : (as.map q_cat).sum + 1 ≤ q_n Y) (hfit : q_fit X Y) (hr8 : (rest.map q_cat).sum ≤ 8) (hnm : (q_y Y).name ≠ "law")
    (k1 : q_E Y 0 (q_ent (q_n Y) (q_R a :: as)) [] K M C 0 0 (e_rf kr K M1 C1)) (k2 : ∀ q, K q = kr → q_E X (pc + 3) ls (q_R q :: rest) K M1 C1 c s Q) : q_E X pc ls st K M C c s Q :=
  e_callV d hw hl hst hse hka hkc hci hcl hx hhY hst2 hln rfl hlz hfit (Nat.le_of_eq (Nat.zero_add c)) (Nat.le_of_eq (Nat.zero_add s)) hr8 hnm k1 (fun o2 K2 M2 C2 h => by
    obtain ⟨⟨q, h1, h2⟩, rfl, rfl, rfl⟩ := h
    cases h1; exact k2 q h2) (fun E K2 M2 C2 h => by
    obtain ⟨⟨q, h1, -⟩, -⟩ := h
    cases h1)
/-- the end of a method that throws -/
def e_th (E : String) (K : q_K) (M C : q_S) : q_Q2 := fun o2 K2 M2 C2 => o2 = Sum.inr E ∧ K2 = K ∧ M2 = M ∧ C2 = C
theorem e_tok {E : String} : e_th E K M C (Sum.inr E) K M C := ⟨rfl, rfl, rfl, rfl⟩
theorem e_cST {Y : q_X} {idx n : Nat} {as rest : List q_V} {E : String} {M1 C1 : q_S} (d : decode (q_b X) pc = .ok (.invokestatic idx, 3)) (hw : q_ok Y n) (hl : Cond.methodLink (q_y X).cls idx (q_y Y) ∈ q_tw) (hst : Cond.static (q_y Y) ∈ q_tw) (hown : (q_y Y).cls = (q_y X).cls) (hx : q_hh X = []) (hst2 : st = as.reverse ++ rest) (hln : as.length = n) (hlz : (as.map q_cat).sum ≤ q_n Y) (hfit : q_fit X Y) (hr8 : (rest.map q_cat).sum ≤ 8) (hnm : (q_y Y).name ≠ "law")
    (k1 : q_E Y 0 (q_ent (q_n Y) as) [] K M C c s (e_th E K M1 C1)) (k2 : Q (Sum.inr E) K M1 C1) : q_E X pc ls st K M C c s Q :=
  e_callS d hw hl hst hown hx hst2 hln rfl hlz hfit (Nat.le_of_eq (Nat.add_zero c)) (Nat.le_of_eq (Nat.add_zero s)) hr8 hnm k1 (fun o2 K2 M2 C2 h => by
    obtain ⟨h1, -⟩ := h
    cases h1) (fun E2 K2 M2 C2 h => by
    obtain ⟨h1, rfl, rfl, rfl⟩ := h
    cases h1; exact k2)
theorem e_cVT {Y : q_X} {idx n : Nat} {as rest : List q_V} {E : String} {M1 C1 : q_S} {a ci : Nat} {kt : Nat × Nat × Int} (d : decode (q_b X) pc = .ok (.invokevirtual idx, 3)) (hw : q_ok Y n) (hl : Cond.methodLink (q_y X).cls idx (q_y Y) ∈ q_tw) (hst : Cond.instanceMethod (q_y Y) ∈ q_tw) (hse : Cond.selects (q_y Y).cls (q_y Y) (q_y Y) ∈ q_tw) (hka : K a = kt) (hkc : kt.1 = ci + 1) (hci : ci < 12) (hcl : ∃ T N, vwCl[ci]? = some ((q_y Y).cls, T, N)) (hx : q_hh X = []) (hhY : q_hh Y = []) (hst2 : st = as.reverse ++ q_R a :: rest) (hln : as.length = n) (hlz : (as.map q_cat).sum + 1 ≤ q_n Y) (hfit : q_fit X Y) (hr8 : (rest.map q_cat).sum ≤ 8) (hnm : (q_y Y).name ≠ "law")
    (k1 : q_E Y 0 (q_ent (q_n Y) (q_R a :: as)) [] K M C c s (e_th E K M1 C1)) (k2 : Q (Sum.inr E) K M1 C1) : q_E X pc ls st K M C c s Q :=
  e_callV d hw hl hst hse hka hkc hci hcl hx hhY hst2 hln rfl hlz hfit (Nat.le_of_eq (Nat.add_zero c)) (Nat.le_of_eq (Nat.add_zero s)) hr8 hnm k1 (fun o2 K2 M2 C2 h => by
    obtain ⟨h1, -⟩ := h
    cases h1) (fun E2 K2 M2 C2 h => by
    obtain ⟨h1, rfl, rfl, rfl⟩ := h
    cases h1; exact k2)
end EM3

