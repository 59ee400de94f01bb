/-! THE LAW'S BODY: the script is the machine's cell 0 (q_R 0); no callee changes it; lz_ rules: a row an instruction, at the soundness level -/
theorem so_scr {l : Launch} {D : va_G} {B sb : Nat} {X : q_X} {pc : Nat} {ls : q_Ls} {st : List q_V} {K : q_K} {v : q_N} {r : q_A} {c s : Nat} {Q : q_Q} (k1 : q_C l D B sb X pc ls st K v r c s Q) :
    q_C l D B sb X pc ls st K v r c s (fun o K1 v1 r1 => Q o K1 v1 r1 ∧ (K1 0).2.1 = (K 0).2.1 ∧ ∀ j : Nat, j < (K 0).2.1 → v1 0 j = v 0 j) := by
  intro p e R s0 m args below meth cd H locs cells slots arr C9 hH9 hS9 hl9 hc9 hs9
  have same : ∀ (t : State) (K1 : q_K) (v1 : q_N) (r1 : q_A), va_F (fun q => B ≤ q) s0 t → q_heap D B sb K1 v1 r1 t t.heap → (K1 0).2.1 = (K 0).2.1 ∧ ∀ j : Nat, j < (K 0).2.1 → v1 0 j = v 0 j := by
    intro t K1 v1 r1 hF hH
    obtain ⟨hx8, hb8, hml8, hrt8, hown8, htw8, hlk8, hnm8, htab8, hw8, hB8, hBs8, hRf8, hRl8, hsb8, hst8⟩ := id C9
    obtain ⟨ws, tys, hK, hP, hD, hA, hM, h0, xs, hX, hxs⟩ := id hH9
    obtain ⟨ws1, tys1, hK1, hP1, hD1, hA1, hM1, h01, xs1, hX1, hxs1⟩ := hH
    obtain ⟨scr, a1, a2, a3, a4, a5⟩ := hX
    obtain ⟨scr1, b1, b2, b3, b4, b5⟩ := hX1
    have hnB : ¬ (fun q : Nat => B ≤ q) sb := Nat.not_le.mpr hsb8
    have e1 : t.heap[sb]? = s0.heap[sb]? := hF.2 sb (Nat.lt_of_lt_of_le hsb8 hBs8) hnB
    have e2 : H[sb]? = s0.heap[sb]? := hS9.2.1 sb (Nat.lt_of_lt_of_le hsb8 hBs8) hnB
    have e3 : scr1 = scr := by
      rw [e1, ← e2, a1] at b1
      exact (Option.some.inj b1).symm
    subst e3
    have e4 : (K1 0).2.1 = (K 0).2.1 := b4.symm.trans a4
    refine ⟨e4, fun j hj => ?_⟩
    have h1 := a5 j hj
    have h2 := b5 j (by omega)
    rw [h1] at h2
    have h3 : xs j = xs1 j := by
      exact Value.int.inj (Option.some.inj h2)
    rw [hxs j hj, hxs1 j (by omega), h3]
  intro T hT X9
  obtain ⟨t, h1, o, h2, h3, h4⟩ := k1 p e R s0 m args below meth cd H locs cells slots arr C9 hH9 hS9 hl9 hc9 hs9 T hT X9
  refine ⟨t, h1, o, h2, h3, ?_⟩
  rcases h4 with ⟨⟨⟨ov, K1, v1, r1, g1, g2, g3⟩, g4⟩, g5⟩ | ⟨q, g1, E, ce, L, ⟨⟨K1, v1, r1, g2, g3⟩, g4⟩, g5⟩
  · exact Or.inl ⟨⟨⟨ov, K1, v1, r1, g1, ⟨g2, same _ K1 v1 r1 g4 g3⟩, g3⟩, g4⟩, g5⟩
  · exact Or.inr ⟨q, g1, E, ce, L, ⟨⟨K1, v1, r1, ⟨g2, same _ K1 v1 r1 g4 g3⟩, g3⟩, g4⟩, g5⟩
/-- the law's body goes on from here to its end and answers 1, over every memory that is M, C; the script is n ints Z -/
def q_F (l : Launch) (D : va_G) (B sb n : Nat) (Z : Int → Int) (pc : Nat) (ls : q_Ls) (st : List q_V) (K : q_K) (M C : q_S) (c s : Nat) : Prop :=
  ∀ (v : q_N) (r : q_A), Rep K v r (mg M C) → (K 0).2.1 = n → (∀ j : Nat, j < n → v 0 j = Z j) → q_C l D B sb mL_law pc ls st K v r c s (fun o _ _ _ => o = Sum.inl (some (q_I 1)))
section LZ
variable {l : Launch} {D : va_G} {B sb n : Nat} {Z : Int → Int} {pc : Nat} {ls : q_Ls} {st : List q_V} {K : q_K} {M C : q_S} {c s : Nat}
theorem lz_iconst {i : Int} (d : decode cL_law pc = .ok (.iconst i, 1)) (k : q_F l D B sb n Z (pc + 1) ls (q_I i :: st) K M C c s) : q_F l D B sb n Z pc ls st K M C c s := fun v r h1 h2 h3 => so_iconst d (k v r h1 h2 h3)
theorem lz_bipush {i : Int} (d : decode cL_law pc = .ok (.bipush i, 2)) (hn : -128 ≤ i ∧ i < 128) (k : q_F l D B sb n Z (pc + 2) ls (q_I i :: st) K M C c s) : q_F l D B sb n Z pc ls st K M C c s := fun v r h1 h2 h3 => so_bipush d hn (k v r h1 h2 h3)
theorem lz_lconst {i : Fin 2} {z : Int} (d : decode cL_law pc = .ok (.lconst i, 1)) (hn : ((i : Nat) : Int) = z) (k : q_F l D B sb n Z (pc + 1) ls (q_L z :: st) K M C c s) : q_F l D B sb n Z pc ls st K M C c s := fun v r h1 h2 h3 => so_lconst d hn (k v r h1 h2 h3)
theorem lz_iload {i : Nat} {z : Int} (d : decode cL_law pc = .ok (.iload i, 2)) (hl : ls[i]? = some (some (q_I z))) (k : q_F l D B sb n Z (pc + 2) ls (q_I z :: st) K M C c s) : q_F l D B sb n Z pc ls st K M C c s := fun v r h1 h2 h3 => so_iload d hl (k v r h1 h2 h3)
theorem lz_aload_n {i : Fin 4} {z : Nat} (d : decode cL_law pc = .ok (.aload_n i, 1)) (hl : ls[(i : Nat)]? = some (some (q_R z))) (k : q_F l D B sb n Z (pc + 1) ls (q_R z :: st) K M C c s) : q_F l D B sb n Z pc ls st K M C c s := fun v r h1 h2 h3 => so_aload_n d hl (k v r h1 h2 h3)
theorem lz_istore {i : Nat} {z : Int} {ls2 : q_Ls} (d : decode cL_law pc = .ok (.istore i, 2)) (hn : i < 7) (hl : q_set ls i (q_I z) = ls2) (k : q_F l D B sb n Z (pc + 2) ls2 st K M C c s) : q_F l D B sb n Z pc ls (q_I z :: st) K M C c s := fun v r h1 h2 h3 => so_istore d hn hl (k v r h1 h2 h3)
theorem lz_astore_n {i : Fin 4} {z : Nat} {ls2 : q_Ls} (d : decode cL_law pc = .ok (.astore_n i, 1)) (hn : (i : Nat) < 7) (hl : q_set ls (i : Nat) (q_R z) = ls2) (k : q_F l D B sb n Z (pc + 1) ls2 st K M C c s) : q_F l D B sb n Z pc ls (q_R z :: st) K M C c s := fun v r h1 h2 h3 => so_astore_n d hn hl (k v r h1 h2 h3)
theorem lz_iinc {i : Nat} {m z : Int} {ls2 : q_Ls} (d : decode cL_law pc = .ok (.iinc i m, 3)) (hi : ls[i]? = some (some (q_I z))) (hn : i < 7) (hl : q_set ls i (q_I (z + m)) = ls2) (k : q_F l D B sb n Z (pc + 3) ls2 st K M C c s) : q_F l D B sb n Z pc ls st K M C c s := fun v r h1 h2 h3 => so_iinc d hi hn hl (k v r h1 h2 h3)
theorem lz_iadd {x y : Int} (d : decode cL_law pc = .ok (.iadd, 1)) (k : q_F l D B sb n Z (pc + 1) ls (q_I (x + y) :: st) K M C c s) : q_F l D B sb n Z pc ls (q_I y :: q_I x :: st) K M C c s := fun v r h1 h2 h3 => so_iadd d (k v r h1 h2 h3)
theorem lz_isub {x y : Int} (d : decode cL_law pc = .ok (.isub, 1)) (k : q_F l D B sb n Z (pc + 1) ls (q_I (x - y) :: st) K M C c s) : q_F l D B sb n Z pc ls (q_I y :: q_I x :: st) K M C c s := fun v r h1 h2 h3 => so_isub d (k v r h1 h2 h3)
theorem lz_iand63 {x y : Int} (d : decode cL_law pc = .ok (.iand, 1)) (hy : y = 63) (hx : q_iI x) (k : q_F l D B sb n Z (pc + 1) ls (q_I (x % 64) :: st) K M C c s) : q_F l D B sb n Z pc ls (q_I y :: q_I x :: st) K M C c s := fun v r h1 h2 h3 => so_iand63 d hy hx (k v r h1 h2 h3)
theorem lz_i2l {x : Int} (d : decode cL_law pc = .ok (.i2l, 1)) (hx : q_iI x) (k : q_F l D B sb n Z (pc + 1) ls (q_L x :: st) K M C c s) : q_F l D B sb n Z pc ls (q_I x :: st) K M C c s := fun v r h1 h2 h3 => so_i2l d hx (k v r h1 h2 h3)
theorem q_cmp_self (x : Int) : q_cmp x x = 0 := by unfold q_cmp; rw [if_neg (Int.lt_irrefl x), if_pos rfl]
theorem lz_lcmp {x y : Int} (d : decode cL_law pc = .ok (.lcmp, 1)) (hy : q_iL y) (e : x = y) (k : q_F l D B sb n Z (pc + 1) ls (q_I 0 :: st) K M C c s) : q_F l D B sb n Z pc ls (q_L y :: q_L x :: st) K M C c s := fun v r h1 h2 h3 => by
  subst e
  exact so_lcmp d hy hy (by rw [q_cmp_self]; exact k v r h1 h2 h3)
theorem lz_if_eq {x off : Int} {tgt : Nat} (d : decode cL_law pc = .ok (.ifCond .eq off, 3)) (ht : (pc : Int) + off = (tgt : Int)) (hx : q_iI x) (k1 : x = 0 → q_F l D B sb n Z tgt ls st K M C c s) (k2 : ¬ x = 0 → q_F l D B sb n Z (pc + 3) ls st K M C c s) : q_F l D B sb n Z pc ls (q_I x :: st) K M C c s := fun v r h1 h2 h3 => so_if_eq d ht hx (fun y => k1 y v r h1 h2 h3) (fun y => k2 y v r h1 h2 h3)
theorem lz_if_ne {x off : Int} {tgt : Nat} (d : decode cL_law pc = .ok (.ifCond .ne off, 3)) (ht : (pc : Int) + off = (tgt : Int)) (hx : q_iI x) (k1 : ¬ x = 0 → q_F l D B sb n Z tgt ls st K M C c s) (k2 : x = 0 → q_F l D B sb n Z (pc + 3) ls st K M C c s) : q_F l D B sb n Z pc ls (q_I x :: st) K M C c s := fun v r h1 h2 h3 => so_if_ne d ht hx (fun y => k1 y v r h1 h2 h3) (fun y => k2 y v r h1 h2 h3)
theorem lz_icmp_eq {x y off : Int} {tgt : Nat} (d : decode cL_law pc = .ok (.if_icmp .eq off, 3)) (ht : (pc : Int) + off = (tgt : Int)) (hx : q_iI x) (e : x = y) (k : q_F l D B sb n Z tgt ls st K M C c s) : q_F l D B sb n Z pc ls (q_I y :: q_I x :: st) K M C c s := fun v r h1 h2 h3 => by
  subst e
  exact so_icmp_eq d ht hx hx (fun _ => k v r h1 h2 h3) (fun z => absurd rfl z)
theorem lz_icmp_gt {x y off : Int} {tgt : Nat} (d : decode cL_law pc = .ok (.if_icmp .gt off, 3)) (ht : (pc : Int) + off = (tgt : Int)) (hx : q_iI x) (hy : q_iI y) (k1 : y < x → q_F l D B sb n Z tgt ls st K M C c s) (k2 : ¬ y < x → q_F l D B sb n Z (pc + 3) ls st K M C c s) : q_F l D B sb n Z pc ls (q_I y :: q_I x :: st) K M C c s := fun v r h1 h2 h3 => so_icmp_gt d ht hx hy (fun y => k1 y v r h1 h2 h3) (fun y => k2 y v r h1 h2 h3)
theorem lz_goto {off : Int} {tgt : Nat} (d : decode cL_law pc = .ok (.goto off, 3)) (ht : (pc : Int) + off = (tgt : Int)) (k : q_F l D B sb n Z tgt ls st K M C c s) : q_F l D B sb n Z pc ls st K M C c s := fun v r h1 h2 h3 => so_goto d ht (k v r h1 h2 h3)
theorem lz_tsIn {dflt lo hi : Int} {offs : Array Int} {len : Nat} {x off : Int} {j tgt : Nat} (d : decode cL_law pc = .ok (.tableswitch dflt lo hi offs, len)) (hx : q_iI x) (hj : x = lo + (j : Int)) (hh : x ≤ hi) (ho : offs[j]? = some off) (ht : (pc : Int) + off = (tgt : Int)) (k : q_F l D B sb n Z tgt ls st K M C c s) : q_F l D B sb n Z pc ls (q_I x :: st) K M C c s := fun v r h1 h2 h3 => so_tsIn d hx hj hh ho ht (k v r h1 h2 h3)
theorem lz_tsOut {dflt lo hi : Int} {offs : Array Int} {len : Nat} {x : Int} {tgt : Nat} (d : decode cL_law pc = .ok (.tableswitch dflt lo hi offs, len)) (hx : q_iI x) (hh : x < lo ∨ hi < x) (ht : (pc : Int) + dflt = (tgt : Int)) (k : q_F l D B sb n Z tgt ls st K M C c s) : q_F l D B sb n Z pc ls (q_I x :: st) K M C c s := fun v r h1 h2 h3 => so_tsOut d hx hh ht (k v r h1 h2 h3)
theorem lz_dup {x : Nat} (d : decode cL_law pc = .ok (.dup, 1)) (k : q_F l D B sb n Z (pc + 1) ls (q_R x :: q_R x :: st) K M C c s) : q_F l D B sb n Z pc ls (q_R x :: st) K M C c s := fun v r h1 h2 h3 => so_dup d rfl (k v r h1 h2 h3)
theorem lz_sald {i : Int} (d : decode cL_law pc = .ok (.iaload, 1)) (hn : n ≤ 2560) (hi : 0 ≤ i) (hb : i < (n : Int)) (k : q_iI (Z i) → q_F l D B sb n Z (pc + 1) ls (q_I (Z i) :: st) K M C c s) : q_F l D B sb n Z pc ls (q_I i :: q_R 0 :: st) K M C c s := fun v r h1 h2 h3 => by
  have e := h3 i.toNat (by omega)
  rw [Int.toNat_of_nonneg hi] at e
  refine so_sald d hi (by omega) (by rw [h2]; exact hb) (fun x => ?_)
  rw [e] at x ⊢
  exact k x v r h1 h2 h3
theorem lz_slen (d : decode cL_law pc = .ok (.arraylength, 1)) (hn : n ≤ 2560) (k : q_F l D B sb n Z (pc + 1) ls (q_I (n : Int) :: st) K M C c s) : q_F l D B sb n Z pc ls (q_R 0 :: st) K M C c s := fun v r h1 h2 h3 => by
  refine so_slen d (by rw [h2]; omega) ?_
  rw [h2]
  exact k v r h1 h2 h3
theorem lz_lald {a m : Nat} {i tg : Int} (h100 : 100 ≤ tg) (d : decode cL_law pc = .ok (.laload, 1)) (hk : K a = (21, m, tg)) (hi : 0 ≤ i) (hn : i < (m : Int)) (k : q_F l D B sb n Z (pc + 1) ls (q_L (C tg i) :: st) K M C c s) : q_F l D B sb n Z pc ls (q_I i :: q_R a :: st) K M C c s := fun v r hR h2 h3 => by
  have e := hR.get hk (by decide : (21 : Nat) ≠ 0) hi
  refine so_lald d (by rw [hk]) hi (by rw [hk]; exact hn) ?_
  rw [e, mg_c h100]; exact k v r hR h2 h3
theorem lz_new {idx ci c2 s2 : Nat} {t : Int} (h100 : 100 ≤ t) (hf : q_fre K t) (hu : q_uf t ∨ ∀ j, ¬ q_isr (ci + 1, 0, t) j) (d : decode cL_law pc = .ok (.new idx, 3)) (hw : q_nw (q_y mL_law).cls idx ci) (hc : c2 + 1 ≤ c) (hs : s2 + q_sz ci ≤ s) (k : ∀ q, q ≠ 0 → (K q).1 = 0 → q_F l D B sb n Z (pc + 3) ls (q_R q :: st) (q_uk K q (ci + 1, 0, t)) M (q_zt C t) c2 s2) : q_F l D B sb n Z pc ls st K M C c s := fun v r hR h2 h3 =>
  so_new d hw hc hs (fun q h0 hq => k q h0 hq _ _ (by rw [← mg_zc h100]; exact hR.new hq hf hu) (by rw [uk_n (Ne.symm h0)]; exact h2) (fun j hj => by
    show (if (0 : Nat) = q then (0 : Int) else v 0 j) = Z j
    rw [if_neg (Ne.symm h0)]; exact h3 j hj))
theorem lz_newL {z : Int} {m c2 s2 : Nat} {t : Int} (h100 : 100 ≤ t) (hf : q_fre K t) (d : decode cL_law pc = .ok (.newarray .long, 2)) (hw : Cond.arrayClass (newarray.typeOf .long) ∈ q_tw) (hz : z = (m : Int)) (hn : m ≤ 67108864) (hc : c2 + 1 ≤ c) (hs : s2 + m ≤ s) (k : ∀ q, q ≠ 0 → (K q).1 = 0 → q_F l D B sb n Z (pc + 2) ls (q_R q :: st) (q_uk K q (21, m, t)) M (q_zt C t) c2 s2) : q_F l D B sb n Z pc ls (q_I z :: st) K M C c s := fun v r hR h2 h3 =>
  so_newL d hw hz hn hc hs (fun q h0 hq => k q h0 hq _ _ (by rw [← mg_zc h100]; exact hR.new hq hf (Or.inr (fun j => q_isr_no (Nat.le_of_ble_eq_true rfl) (Nat.le_of_ble_eq_true rfl)))) (by rw [uk_n (Ne.symm h0)]; exact h2) (fun j hj => by
    show (if (0 : Nat) = q then (0 : Int) else v 0 j) = Z j
    rw [if_neg (Ne.symm h0)]; exact h3 j hj))
theorem lz_callS {Y : q_X} {idx m c1 s1 c2 s2 : Nat} {as rest : List q_V} {ls0 : q_Ls} {Q1 : q_Q2} (d : decode cL_law pc = .ok (.invokestatic idx, 3)) (hw : q_ok Y m) (hl : Cond.methodLink (q_y mL_law).cls idx (q_y Y) ∈ q_tw) (hst : Cond.static (q_y Y) ∈ q_tw) (hown : (q_y Y).cls = (q_y mL_law).cls) (hst2 : st = as.reverse ++ rest) (hln : as.length = m) (hls : q_ent (q_n Y) as = ls0) (hlz : (as.map q_cat).sum ≤ q_n Y) (hfit : q_fit mL_law Y) (hcc : c1 + c2 ≤ c) (hss : s1 + s2 ≤ s) (hr8 : (rest.map q_cat).sum ≤ 8) (hnm : (q_y Y).name ≠ "law")
    (k1 : q_E Y 0 ls0 [] K M C c1 s1 Q1) (k2 : ∀ o K1 M1 C1, Q1 (Sum.inl o) K1 M1 C1 → q_F l D B sb n Z (pc + 3) ls (o.toList ++ rest) K1 M1 C1 c2 s2) (k3 : ∀ E K1 M1 C1, ¬ Q1 (Sum.inr E) K1 M1 C1) : q_F l D B sb n Z pc ls st K M C c s := fun v r hR h2 h3 =>
  so_callS d hw hl hst hown rfl hst2 hln hls hlz hfit hcc hss hr8 hnm (so_scr ((k1 v r hR) _ so_closed)) (fun o K1 v1 r1 g => by
    obtain ⟨⟨M1, C1, g1, g2⟩, g3, g4⟩ := g
    exact k2 o K1 M1 C1 g2 v1 r1 g1 (g3.trans h2) (fun j hj => (g4 j (by rw [h2]; exact hj)).trans (h3 j hj))) (fun E K1 v1 r1 g => by
    obtain ⟨⟨M1, C1, g1, g2⟩, -⟩ := g
    exact absurd g2 (k3 E K1 M1 C1))
theorem lz_callV {Y : q_X} {idx m c1 s1 c2 s2 : Nat} {as rest : List q_V} {ls0 : q_Ls} {Q1 : q_Q2} {a ci : Nat} {kt : Nat × Nat × Int} (d : decode cL_law pc = .ok (.invokevirtual idx, 3)) (hw : q_ok Y m) (hl : Cond.methodLink (q_y mL_law).cls idx (q_y Y) ∈ q_tw) (hst : Cond.instanceMethod (q_y Y) ∈ q_tw) (hse : Cond.selects (q_y Y).cls (q_y Y) (q_y Y) ∈ q_tw) (hka : K a = kt) (hkc : kt.1 = ci + 1) (hci : ci < 12) (hcl : ∃ T N, vwCl[ci]? = some ((q_y Y).cls, T, N)) (hhY : q_hh Y = []) (hst2 : st = as.reverse ++ q_R a :: rest) (hln : as.length = m) (hls : q_ent (q_n Y) (q_R a :: as) = ls0) (hlz : (as.map q_cat).sum + 1 ≤ q_n Y) (hfit : q_fit mL_law Y) (hcc : c1 + c2 ≤ c) (hss : s1 + s2 ≤ s) (hr8 : (rest.map q_cat).sum ≤ 8) (hnm : (q_y Y).name ≠ "law")
    (k1 : q_E Y 0 ls0 [] K M C c1 s1 Q1) (k2 : ∀ o K1 M1 C1, Q1 (Sum.inl o) K1 M1 C1 → q_F l D B sb n Z (pc + 3) ls (o.toList ++ rest) K1 M1 C1 c2 s2) (k3 : ∀ E K1 M1 C1, ¬ Q1 (Sum.inr E) K1 M1 C1) : q_F l D B sb n Z pc ls st K M C c s := fun v r hR h2 h3 =>
  so_callV d hw hl hst hse (by rw [hka]; exact hkc) hci hcl rfl hhY hst2 hln hls hlz hfit hcc hss hr8 hnm (so_scr ((k1 v r hR) _ so_closed)) (fun o K1 v1 r1 g => by
    obtain ⟨⟨M1, C1, g1, g2⟩, g3, g4⟩ := g
    exact k2 o K1 M1 C1 g2 v1 r1 g1 (g3.trans h2) (fun j hj => (g4 j (by rw [h2]; exact hj)).trans (h3 j hj))) (fun E K1 v1 r1 g => by
    obtain ⟨⟨M1, C1, g1, g2⟩, -⟩ := g
    exact absurd g2 (k3 E K1 M1 C1))
theorem lz_callI {Y : q_X} {idx m c1 s1 c2 s2 : Nat} {as rest : List q_V} {ls0 : q_Ls} {Q1 : q_Q2} {a : Nat} {kt : Nat × Nat × Int} (d : decode cL_law pc = .ok (.invokespecial idx, 3)) (hw : q_ok Y m) (hini : (q_y Y).name = "<init>") (hrt : q_rt Y = none) (hl : Cond.methodLink (q_y mL_law).cls idx (q_y Y) ∈ q_tw) (hst : Cond.instanceMethod (q_y Y) ∈ q_tw) (hka : K a = kt) (hkc : kt.1 ≠ 0) (hhY : q_hh Y = []) (hst2 : st = as.reverse ++ q_R a :: rest) (hln : as.length = m) (hls : q_ent (q_n Y) (q_R a :: as) = ls0) (hlz : (as.map q_cat).sum + 1 ≤ q_n Y) (hfit : q_fit mL_law Y) (hcc : c1 + c2 ≤ c) (hss : s1 + s2 ≤ s) (hr8 : (rest.map q_cat).sum ≤ 8) (hnm : (q_y Y).name ≠ "law")
    (k1 : q_E Y 0 ls0 [] K M C c1 s1 Q1) (k2 : ∀ o K1 M1 C1, Q1 (Sum.inl o) K1 M1 C1 → q_F l D B sb n Z (pc + 3) ls (o.toList ++ rest) K1 M1 C1 c2 s2) (k3 : ∀ E K1 M1 C1, ¬ Q1 (Sum.inr E) K1 M1 C1) : q_F l D B sb n Z pc ls st K M C c s := fun v r hR h2 h3 =>
  so_callI d hw hini hrt (Or.inl hl) hst (by rw [hka]; exact hkc) hhY hst2 hln hls hlz hfit hcc hss hr8 hnm (so_scr ((k1 v r hR) _ so_closed)) (fun o K1 v1 r1 g => by
    obtain ⟨⟨M1, C1, g1, g2⟩, g3, g4⟩ := g
    exact k2 o K1 M1 C1 g2 v1 r1 g1 (g3.trans h2) (fun j hj => (g4 j (by rw [h2]; exact hj)).trans (h3 j hj))) (fun E K1 v1 r1 g => by
    obtain ⟨⟨M1, C1, g1, g2⟩, -⟩ := g
    exact k3 E K1 M1 C1 g2)
/-- a method of the reference: it changes the memory M alone -/
theorem lz_cV {Y : q_X} {idx m : Nat} {as rest : List q_V} {o : Option q_V} {M1 C1 : q_S} {a ci : Nat} {kt : Nat × Nat × Int} (d : decode cL_law pc = .ok (.invokevirtual idx, 3)) (hw : q_ok Y m) (hl : Cond.methodLink (q_y mL_law).cls idx (q_y Y) ∈ q_tw) (hst : Cond.instanceMethod (q_y Y) ∈ q_tw) (hse : Cond.selects (q_y Y).cls (q_y Y) (q_y Y) ∈ q_tw) (hka : K a = kt) (hkc : kt.1 = ci + 1) (hci : ci < 12) (hcl : ∃ T N, vwCl[ci]? = some ((q_y Y).cls, T, N)) (hhY : q_hh Y = []) (hst2 : st = as.reverse ++ q_R a :: rest) (hln : as.length = m) (hlz : (as.map q_cat).sum + 1 ≤ q_n Y) (hfit : q_fit mL_law Y) (hr8 : (rest.map q_cat).sum ≤ 8) (hnm : (q_y Y).name ≠ "law")
    (k1 : q_E Y 0 (q_ent (q_n Y) (q_R a :: as)) [] K M C 0 0 (e_is o K M1 C1)) (k2 : q_F l D B sb n Z (pc + 3) ls (o.toList ++ rest) K M1 C1 c s) : q_F l D B sb n Z pc ls st K M C c s :=
  lz_callV d hw hl hst hse hka hkc hci hcl hhY hst2 hln rfl hlz hfit (Nat.le_of_eq (Nat.zero_add c)) (Nat.le_of_eq (Nat.zero_add s)) hr8 hnm k1 (fun o2 K2 M2 C2 h => by
    obtain ⟨h1, rfl, rfl, rfl⟩ := h
    cases h1; exact k2) (fun E K2 M2 C2 h => by
    obtain ⟨h1, -⟩ := h
    cases h1)
theorem lz_iret (d : decode cL_law pc = .ok (.ireturn, 1)) : q_F l D B sb n Z pc ls [q_I 1] K M C c s := fun v r h1 h2 h3 => so_iret d (Or.inr ⟨rfl, Or.inr rfl⟩) rfl
theorem lz_room {c1 s1 : Nat} (hc : c1 ≤ c) (hs : s1 ≤ s) (k : q_F l D B sb n Z pc ls st K M C c1 s1) : q_F l D B sb n Z pc ls st K M C c s := fun v r h1 h2 h3 => so_room hc hs (k v r h1 h2 h3)
end LZ
/-- what holds at the loop's head after k calls: the class's object x, the reference's m, the array o -/
def q_LI (K : q_K) (M C : q_S) (x m o : Nat) (k : Int) : Prop := K x = (11, 0, 100) ∧ K m = (12, 0, 50) ∧ K o = (21, 1, 280) ∧ q_tb K (M 50 16) ∧ RC M C ∧ OKC M k
theorem iI_41 {M : q_S} (h : WR M) : q_iI (M 50 41) := by
  have := rs_41 h
  exact ⟨by omega, by omega⟩
theorem iL_I {x : Int} (h : q_iI x) : q_iL x := ⟨by have := h.1; omega, by have := h.2; omega⟩
theorem t0_release (M : q_S) : (releaseF M).2 50 41 = 0 := rfl
theorem t0_time (M : q_S) : (timeF M).2 50 41 = 0 := rfl
theorem t0_versions (M : q_S) : (versionsF M).2 50 41 = 0 := rfl
theorem dr_41 (S : q_S) : dropsF S 50 41 = S 50 41 := dropsF_o (by decide) (by decide) (by decide) (by decide) (by decide) (by decide)
theorem th_41 (S : q_S) (k : Nat) : (thF S k).2 50 41 = S 50 41 := thF_o (by decide) k
theorem t0_thin (M : q_S) : (thinF M).2 50 41 = 0 := by
  unfold thinF
  dsimp only
  rw [dr_41, th_41]
  exact us_eq
theorem sr_41 (S : q_S) (k : Nat) : (srF S k).2 50 41 = S 50 41 := by
  rw [srF_sp]
  show pwC S 32 0 (mdg S) k 50 41 = S 50 41
  rw [pw_o (Or.inl (by decide))]
theorem sc_e (M : q_S) : scrubF M = srF (thr M 0) 20000 := rfl
theorem t0_scrub (M : q_S) : (scrubF M).2 50 41 = 0 := by
  rw [sc_e]
  generalize 20000 = k
  rw [sr_41]
  exact us_eq
theorem t0_lost (M : q_S) : (lostF M).2 50 41 = 0 := by
  unfold lostF
  rw [ltF_o (by decide)]
  exact us_eq
