/-! the bound on packs: an upload -/
theorem look2_gr (S : q_S) (p lat : Int) : (look2 S p lat).2 50 37 ≤ S 50 37 + 1 ∧ (look2 S p lat).2 50 38 ≤ S 50 38 + 1 := by
  have c37 : cflF S p lat 50 37 ≤ S 50 37 + 1 := by unfold cflF; rw [us_eq]; split <;> omega
  have c38 : cflF S p lat 50 38 = S 50 38 := rfl
  unfold look2
  split
  · exact ⟨(by show S 50 37 ≤ _; omega), (by show S 50 38 ≤ _; omega)⟩
  · split
    · exact ⟨(by show cflF S p lat 50 37 ≤ _; omega), (by show cflF S p lat 50 38 ≤ _; omega)⟩
    · split
      · exact ⟨(by show becomesF (cflF S p lat) p lat 50 37 ≤ _; rw [bec_o (by omega)]; omega), (by show becomesF (cflF S p lat) p lat 50 38 ≤ _; rw [bec_o (by omega)]; omega)⟩
      · generalize cflF S p lat = N at *
        unfold keepsF
        split
        · exact ⟨(by show N 50 37 ≤ _; omega), (by show N 50 38 + 1 ≤ _; omega)⟩
        · refine ⟨?_, ?_⟩
          · refine Int.le_trans (Int.le_of_eq (bec_o (by omega))) ?_
            show N 50 37 ≤ _; omega
          · refine Int.le_trans (Int.le_of_eq (bec_o (by omega))) ?_
            show N 50 38 ≤ _; omega
theorem up_ar {U1 z1 w1 i U0 e ts tw t39 : Int} (hi : i ≤ 16) (hw : w1 ≤ 2 * z1) (h1 : tw ≤ w1 + 8 * i) (h3 : 2 * ts - 20 ≤ tw) (h4 : t39 = U1 + (ts - z1)) (hU : U1 + 74 ≤ U0 + 74 * e) : t39 ≤ U0 + 74 * e ∧ t39 ≤ U1 + 74 := by omega
theorem ua_up {U1 z1 w1 i : Int} {S : q_S} (h : UA U1 z1 w1 i S) : UA U1 z1 w1 (i + 1) S := ⟨h.1, Int.le_trans h.2 (by omega)⟩
theorem ua_o {U1 z1 w1 i : Int} {S T : q_S} (h : UA U1 z1 w1 i S) (h31 : ∀ x, T 31 x = S 31 x) (h39 : T 50 39 = S 50 39) : UA U1 z1 w1 i T := by
  unfold UA
  rw [h39, sz_o h31, st_o h31]
  exact h
theorem ct_wr {S : q_S} (h : WR S) : CT S := ⟨(rs_34 h).2, (rs_37 h).2, (rs_38 h).2, (rs_39 h).2, (rs_16 h).2⟩
/-- the counters of a call -/
def UC (q36 q9 q13 nq a37 a38 i : Int) (S : q_S) : Prop := (S 50 36 = q36 ∧ S 50 9 = q9 ∧ S 50 13 = q13) ∧ (S 50 16 ≤ 100 + i ∧ q36 ≤ S 50 16) ∧ nqF S ≤ nq + i ∧ S 50 37 ≤ a37 + i ∧ S 50 38 ≤ a38 + i
section UNS
variable {X : Int → Bool} {A Wd s th u e G0 E0 E20 U0 c0 k U1 z1 w1 q36 q9 q13 nq a37 a38 : Int}
def LI (X : Int → Bool) (A Wd s th u e G0 E0 E20 U0 c0 k U1 z1 w1 q36 q9 q13 nq a37 a38 i : Int) (S : q_S) : Prop := UN X A Wd s th u e G0 E0 E20 U0 c0 k S ∧ (WR S ∧ PMI S ∧ MI S ∧ KI S) ∧ UA U1 z1 w1 i S ∧ UC q36 q9 q13 nq a37 a38 i S
/-- a look, the note goes -/
theorem li_looks {S : q_S} {m f i : Int} (hm : 0 ≤ m ∧ m ≤ 2) (hf : 0 ≤ f ∧ f ≤ 15) (hi : 0 ≤ i ∧ i ≤ 15) (h37 : a37 ≤ 900000) (h38 : a38 ≤ 900000)
    (h : UN X A Wd s th u e G0 E0 E20 U0 c0 k S) (hW : WR S) (hP : PMI S) (hI : MI S) (hK : KI S) (hA : UA U1 z1 w1 (i + 1) S) (hC : UC q36 q9 q13 nq a37 a38 i S) (ho : isOtherP S (16 * m + f)) (hin : S 2 (16 * m + f) = 0 ∨ ∀ j, 0 ≤ j → j < ncut (S 3 (16 * m + f)) → ¬ S 31 (pce (S 3 (16 * m + f)) j) = 0) :
    LI X A Wd s th u e G0 E0 E20 U0 c0 k U1 z1 w1 q36 q9 q13 nq a37 a38 (i + 1) (looksF S (16 * m + f)).2 := by
  have hp : 0 ≤ 16 * m + f ∧ 16 * m + f < 48 := by omega
  have un := un_looks (p := 16 * m + f) h hW hp hin
  have gr := look2_gr (q_us S 8 (16 * m + f) 0) (16 * m + f) (latestOf S ((16 * m + f) % 16))
  have g16 := look2_16 (q_us S 8 (16 * m + f) 0) (16 * m + f) (latestOf S ((16 * m + f) % 16))
  have g1 := look2_1 (q_us S 8 (16 * m + f) 0) (16 * m + f) (latestOf S ((16 * m + f) % 16))
  have fo : ∀ t j : Int, ¬ (2 ≤ t ∧ t ≤ 5) → ¬ (17 ≤ t ∧ t ≤ 22) → t ≠ 8 → ¬ (t = 50 ∧ (j = 16 ∨ j = 37 ∨ j = 38)) → (looksF S (16 * m + f)).2 t j = S t j := fun t j a b d g => by
    unfold looksF
    rw [look2_o ⟨a, b⟩ g, us_nn (by omega)]
  have f8 : ∀ j, (looksF S (16 * m + f)).2 8 j = q_us S 8 (16 * m + f) 0 8 j := fun j => by unfold looksF; rw [look2_8]
  have e : (looksF S (16 * m + f)).2 = (look2 (q_us S 8 (16 * m + f) 0) (16 * m + f) (latestOf S ((16 * m + f) % 16))).2 := rfl
  rw [← e] at gr g16
  rw [show q_us S 8 (16 * m + f) 0 50 37 = S 50 37 from rfl, show q_us S 8 (16 * m + f) 0 50 38 = S 50 38 from rfl] at gr
  rw [show q_us S 8 (16 * m + f) 0 50 16 = S 50 16 from rfl] at g16
  have r34 := rs_34 hW
  have r39 := rs_39 hW
  have hct : CT (looksF S (16 * m + f)).2 := ⟨by rw [fo 50 34 (by omega) (by omega) (by omega) (by omega)]; exact r34.2, by have := hC.2.2.2.1; omega, by have := hC.2.2.2.2; omega, by rw [fo 50 39 (by omega) (by omega) (by omega) (by omega)]; exact r39.2, by have := hC.2.1.1; omega⟩
  have lk := looks_lk hI hW hm hf ho
  have wl := wr_lk hI hW hm hf ho hct
  have ll := lk_ok hI hW hK hm hf (by
    have c := hct
    rw [lk.1] at c
    exact c)
  have lu := un_ok ll.1 wl.2 ll.2 (16 * m + f)
  rw [← lk.1] at lu
  have nq1 : nqF (looksF S (16 * m + f)).2 ≤ nqF S + 1 := by
    have c1 : czF (looksF S (16 * m + f)).2 = czF (q_us S 8 (16 * m + f) 0) := cz_o f8
    have c2 := cz_us (M := S) hp 0
    have c3 : (looksF S (16 * m + f)).2 50 10 = S 50 10 := fo 50 10 (by omega) (by omega) (by omega) (by omega)
    unfold nqF
    rw [c1, c2, c3, if_pos rfl]
    split <;> omega
  have o36 := fo 50 36 (by omega) (by omega) (by omega) (by omega)
  have o9 := fo 50 9 (by omega) (by omega) (by omega) (by omega)
  have o13 := fo 50 13 (by omega) (by omega) (by omega) (by omega)
  have hP2 : PMI (looksF S (16 * m + f)).2 := pmi_looks hP _
  have ua := ua_o hA (fun x => fo 31 x (by omega) (by omega) (by omega) (by omega)) (fo 50 39 (by omega) (by omega) (by omega) (by omega))
  generalize (looksF S (16 * m + f)).2 = T at *
  refine ⟨un, ⟨wl.1, hP2, lu.1, lu.2⟩, ua, ?_⟩
  obtain ⟨⟨c1, c2, c3⟩, ⟨c4, c5⟩, c6, c7, c8⟩ := hC
  exact ⟨⟨o36.trans c1, o9.trans c2, o13.trans c3⟩, ⟨by omega, by omega⟩, by omega, by omega, by omega⟩
theorem up_loop {m : Int} (hm : 0 ≤ m ∧ m ≤ 2) (hk : k ≤ 512) (hw : w1 ≤ 2 * z1) (hU : U1 + 74 ≤ U0 + 74 * e) (hU1 : U1 ≤ 900000) (h37 : a37 ≤ 900000) (h38 : a38 ≤ 900000) : ∀ (r : Nat) (n l i : Int) (S : q_S), (-1 ≤ l ∧ l ≤ 100) → 0 ≤ i → LI X A Wd s th u e G0 E0 E20 U0 c0 k U1 z1 w1 q36 q9 q13 nq a37 a38 i S → ntF S m 16 + i ≤ 16 → ∃ j, (0 ≤ j ∧ j ≤ 16) ∧ LI X A Wd s th u e G0 E0 E20 U0 c0 k U1 z1 w1 q36 q9 q13 nq a37 a38 j (upF m r n l S).2 := by
  intro r
  induction r with
  | zero => intro n l i S hl hi h hn; have := ntF_rg S m 16; exact ⟨i, ⟨hi, by omega⟩, h⟩
  | succ r ih =>
    intro n l i S hl hi h hn
    have gn := ntF_rg S m 16
    have sp := fnF_sp S m 16
    by_cases e0 : fnF S m 16 = -1 ∨ l = -1
    · simp only [upF]
      rw [if_pos e0]
      exact ⟨i, ⟨hi, by omega⟩, h⟩
    · have sp2 := sp.resolve_left (fun g => e0 (Or.inl g))
      obtain ⟨p9, hp9⟩ : ∃ p9, fnF S m 16 = p9 := ⟨_, rfl⟩
      rw [hp9] at sp2
      have l0 : 0 ≤ l := by have := fun g => e0 (Or.inr g); omega
      have hp : 0 ≤ p9 ∧ p9 < 48 := by omega
      have nu := ntF_us (m := m) (p := p9) (S := S) sp2.1 sp2.2.2 16
      rw [if_pos (show p9 < 16 * m + ((16 : Nat) : Int) from sp2.2.1)] at nu
      have gn2 := ntF_rg (q_us S 8 p9 0) m 16
      have i15 : i ≤ 15 := by omega
      obtain ⟨un, ⟨hW, hP, hI, hK⟩, hA, hC⟩ := h
      obtain ⟨f, hf, ef⟩ : ∃ f, (0 ≤ f ∧ f ≤ 15) ∧ p9 = 16 * m + f := ⟨p9 - 16 * m, by omega, by omega⟩
      have c3 := (hI.2.1 p9 hp.1 hp.2).1
      by_cases eo : ¬ isOtherP S p9
      · rw [up_skip (m := m) (n := n) (l := l) hp.1 hp9 l0 eo r]
        refine ih n l (i + 1) _ hl (by omega) ⟨?_, ⟨WR.up hW ⟨(show (0 : Int) ≤ 0 by decide), (show (0 : Int) ≤ 1000000 by decide)⟩, hP.us (by decide) (by decide) (fun g => absurd g (by decide)), (un_ok hI hW hK p9).1, (un_ok hI hW hK p9).2⟩, ua_up (ua_o hA (fun _ => rfl) rfl), ?_⟩ (by omega)
        · obtain ⟨a, Z, b, d⟩ := un
          refine ⟨⟨a.1, a.2.1, a.2.2⟩, Z, fun q x y c d i e f => b q x y (by
            rw [show q_us S 8 p9 0 8 q = if q = p9 then 0 else S 8 q by simp only [q_us_ap, true_and]] at c
            split at c
            · omega
            · exact c) d i e f, d⟩
        · obtain ⟨c1, c4, c6, c7, c8⟩ := hC
          have nq1 : nqF (q_us S 8 p9 0) ≤ nqF S + 1 := by
            have c2 := cz_us (M := S) hp 0
            unfold nqF
            rw [c2, if_pos rfl, show q_us S 8 p9 0 50 10 = S 50 10 from rfl]
            split <;> omega
          exact ⟨c1, ⟨by show S 50 16 ≤ _; omega, c4.2⟩, by omega, by show S 50 37 ≤ _; omega, by show S 50 38 ≤ _; omega⟩
      · have ho : isOtherP S p9 := Decidable.of_not_not eo
        simp only [upF]
        rw [if_neg e0, hp9, if_neg eo]
        by_cases e2 : S 2 p9 = 2
        · rw [if_pos e2]
          have sd := send_ok (l := l) (c := S 3 p9) un hW hP hk hp sp2.2.2 e2 rfl (vcode_len c3).2 hA i15 hw hU hU1
          have so : ∀ t j : Int, (t ≠ 31 ∧ t ≠ 32 ∧ t ≠ 35 ∧ t ≠ 40) → ¬ (t = 50 ∧ (j = 34 ∨ j = 39)) → (sendsF S (S 3 p9) l).2 t j = S t j := fun t j a b => sends_o a b
          have mi := mi_sends hI (S 3 p9) l
          have ki : KI (sendsF S (S 3 p9) l).2 := ki_o hK (fun t j g => so t j (by omega) (by omega))
          have sl := sendsF_rg S (p := l) ⟨l0, hl.2⟩ (S 3 p9)
          have all : ¬ (sendsF S (S 3 p9) l).1 = -1 → ¬ haI (sendsF S (S 3 p9) l).2 (S 3 p9) (ncut (S 3 p9)).toNat = 0 := by
            have g34 : 0 ≤ cutS S (S 3 p9) 50 34 := by rw [cutS_o (by decide)]; exact (rs_34 hW).1
            exact (seF_all (S := cutS S (S 3 p9)) g34 l (S 3 p9) (ncut (S 3 p9)).toNat).1
          have uc : UC q36 q9 q13 nq a37 a38 i (sendsF S (S 3 p9) l).2 := by
            unfold UC
            rw [so 50 36 (by omega) (by omega), so 50 9 (by omega) (by omega), so 50 13 (by omega) (by omega), so 50 16 (by omega) (by omega), so 50 37 (by omega) (by omega), so 50 38 (by omega) (by omega), nq_o (B := S) (fun q => so 8 q (by omega) (by omega)) (so 50 10 (by omega) (by omega))]
            exact hC
          have ncg := ncut_rg (S 3 p9)
          generalize hq : sendsF S (S 3 p9) l = q at *
          obtain ⟨sl1, T⟩ := q
          simp only at *
          by_cases e3 : sl1 = -1
          · rw [if_pos e3]
            obtain ⟨c1, c4, c6, c7, c8⟩ := uc
            have uc2 : UC q36 q9 q13 nq a37 a38 (i + 1) T := ⟨c1, ⟨by omega, c4.2⟩, by omega, by omega, by omega⟩
            exact ⟨i + 1, ⟨by omega, by omega⟩, sd.1, ⟨sd.2.1, sd.2.2.1, mi, ki⟩, sd.2.2.2, uc2⟩
          · rw [if_neg e3]
            have t3 := so 3 p9 (by omega) (by omega)
            have ot : isOtherP T p9 := by
              unfold isOtherP isAsP at ho ⊢
              rw [so 2 p9 (by omega) (by omega), so 5 p9 (by omega) (by omega), t3, so 4 p9 (by omega) (by omega), so 20 _ (by omega) (by omega), so 21 _ (by omega) (by omega)]
              exact ho
            have hin := haI_in _ (all e3)
            have nl := ntF_looks (S := T) (m := m) (p := p9) ⟨sp2.1, sp2.2.1⟩ (by rw [so 8 p9 (by omega) (by omega)]; exact sp2.2.2)
            rw [ntF_congr (A := T) (B := S) (fun q => so 8 q (by omega) (by omega))] at nl
            subst ef
            refine ih _ sl1 (i + 1) _ sl (by omega) (li_looks hm hf ⟨hi, i15⟩ h37 h38 sd.1 sd.2.1 sd.2.2.1 mi ki sd.2.2.2 uc ot (Or.inr ?_)) (by omega)
            rw [t3]
            exact fun j a b => hin j a (by omega)
        · rw [if_neg e2]
          have z2 : S 2 p9 = 0 := by
            have g2 : 0 ≤ S 2 p9 ∧ S 2 p9 ≤ 2 := hW 2 p9
            have : ¬ S 2 p9 = 1 := fun g => ho (hK p9 hp.1 hp.2 g)
            omega
          have nl := ntF_looks (S := S) (m := m) (p := p9) ⟨sp2.1, sp2.2.1⟩ sp2.2.2
          subst ef
          exact ih _ l (i + 1) _ hl (by omega) (li_looks hm hf ⟨hi, i15⟩ h37 h38 un hW hP hI hK (ua_up hA) hC ho (Or.inl z2)) (by omega)
end UNS
/-- the store is small -/
theorem gi_sz {M : q_S} {k : Int} (h : GI M k) (hk : k ≤ 512) : szF M ≤ 300 := by
  obtain ⟨X, Z, A, Wd, s, th, u, e, G0, E0, E20, U0, c0, ⟨a, b⟩, d, f⟩ := h
  obtain ⟨⟨h1, h5⟩, ⟨h2, h6, h7⟩, h3, h4⟩ := d
  generalize nB X = P at *
  generalize wB X = W at *
  generalize szF M = sz at *
  generalize nB Z = z at *
  generalize P * s = T at *
  omega
theorem ct_thr {M : q_S} (h : WR M) {z : Int} (hz : 0 ≤ z ∧ z ≤ 3) : CT (thr M z) := ct_wr (h.thr hz)
theorem inv_upload {M : q_S} {k : Int} (h : INV M k) (g : GI M k) (hk : 0 ≤ k ∧ k < 512) (m p : Int) : INV (uploadF M m p).2 (k + 1) ∧ GI (uploadF M m p).2 (k + 1) ∧ CT (uploadF M m p).2 := by
  unfold uploadF
  split
  · exact ⟨inv_thr h (by decide), gi_thr g _, ct_thr h.1 (by decide)⟩
  · split
    · exact ⟨inv_thr h (by decide), gi_thr g _, ct_thr h.1 (by decide)⟩
    · split
      · exact ⟨inv_thr h (by decide), gi_thr g _, ct_thr h.1 (by decide)⟩
      next e1 e2 e3 =>
        have hN := h.2.2.2.2
        have nq0 := nq_le M
        have r10 := rs_10 h.1
        unfold NB at hN
        obtain ⟨X, Z, A, Wd, s, th, u, e, G0, E0, E20, U0, c0, ⟨a, b⟩, d, f⟩ := g
        have s20 := st_20 M
        have nt := ntF_rg (thr M 0) m 16
        have st : LI X A Wd s th (u + 1) (e + 1) G0 E0 E20 U0 c0 (k + 1) (M 50 39) (szF M) (stW M) (M 50 36) (M 50 9) (M 50 13) (nqF M) (M 50 37) (M 50 38) 0 (thr M 0) :=
          ⟨⟨covX_thr a 0, Z, zcov_thr b 0, num_up d⟩, ⟨h.1.thr (by decide), h.2.1.of (fun _ => rfl) (fun _ => rfl) rfl, mi_thr h.2.2.1 0, ki_o h.2.2.2.1 (fun t j g => us_nn (by omega))⟩, ⟨(by show M 50 39 = M 50 39 + (szF M - szF M); rw [Int.sub_self, Int.add_zero]), (by show stW M ≤ stW M + 8 * 0; exact Int.le_of_eq (by rw [Int.mul_zero, Int.add_zero]))⟩, ⟨rfl, rfl, rfl⟩, ⟨(by show M 50 16 ≤ 100 + 0; omega), (by show M 50 36 ≤ M 50 16; omega)⟩, (by show nqF (thr M 0) ≤ nqF M + 0; rw [nq_o (A := thr M 0) (B := M) (fun _ => rfl) rfl]; omega), (by show M 50 37 ≤ M 50 37 + 0; omega), (by show M 50 38 ≤ M 50 38 + 0; omega)⟩
        obtain ⟨j, hj, L⟩ := up_loop (m := m) (by omega) (by omega) s20.2 (by omega) (by omega) (by omega) (by omega) 17 0 p 0 (thr M 0) ⟨by omega, by omega⟩ (Int.le_refl 0) st (by omega)
        generalize (upF m 17 0 p (thr M 0)).2 = T at *
        obtain ⟨⟨ta, Z2, tb, td⟩, ⟨tW, tP, tI, tK⟩, tA, ⟨t1, t2, t3⟩, ⟨t4, t5⟩, t6, t7, t8⟩ := L
        have ar := up_ar hj.2 s20.2 tA.2 (st_20 T).1 tA.1 (e := e + 1) (U0 := U0) (by omega)
        have nb : NB T (k + 1) := by
          unfold NB
          have ar2 := ar.2
          rw [t1, t2, t3]
          omega
        exact ⟨⟨tW, tP, tI, tK, nb⟩, ⟨X, Z2, A, Wd, s, th, u + 1, e + 1, G0, E0, E20, U0, c0, ⟨ta, tb⟩, td, ar.1⟩, ct_wr tW⟩
theorem gi_ini : GI m0 0 := by
  refine ⟨fun _ => false, fun _ => false, 0, 0, 0, 0, 0, 0, 0, 0, 0, 0, 0, ⟨⟨fun p a b => ?_, fun v a b => ?_, fun x a b g => absurd (m0_z (by decide)) g⟩, fun p a b g => ?_⟩, ?_, ?_⟩
  · rw [m0_z (by decide)]; exact inC_0 _
  · rw [m0_z (by decide)]; exact inC_0 _
  · rw [m0_z (by decide)] at g; exact absurd g (by decide)
  · have n0 : nB (fun _ => false) = 0 := sumF_zero _ (fun k a b => if_neg Bool.false_ne_true)
    have w0 : wB (fun _ => false) = 0 := sumF_zero _ (fun k a b => if_neg Bool.false_ne_true)
    have e34 : m0 50 34 = 0 := by rw [m0_s]; rfl
    have eg : gP m0 = 0 := by unfold gP; rw [if_pos e34]
    have ec : cP m0 = 0 := by unfold cP; rw [if_pos e34]
    rw [n0, w0, sz_ini, eg, ec, show m0 50 39 = 0 by rw [m0_s]; rfl, show m0 50 0 = 0 by rw [m0_s]; rfl, mlen_0]
    refine ⟨⟨by decide, by decide⟩, ⟨⟨by decide, by decide, by decide, by decide, by decide, fun g => absurd g (by decide)⟩, by decide, by decide⟩, ⟨fun q a b => by omega, fun q a b => by omega, fun _ => by decide, fun _ => by decide⟩, by decide⟩
  · rw [show m0 50 39 = 0 by rw [m0_s]; rfl]; decide
theorem inv_ini : INV m0 0 := by
  refine ⟨wr_ini, pmi_ini, mi_ini, ki_ini, ?_⟩
  have c := cz_rg m0
  have z : ∀ j : Int, (j = 9 ∨ j = 10 ∨ j = 13 ∨ j = 16 ∨ j = 36 ∨ j = 37 ∨ j = 38 ∨ j = 39) → m0 50 j = 0 := fun j h => by
    rw [m0_s]
    rcases h with rfl | rfl | rfl | rfl | rfl | rfl | rfl | rfl <;> rfl
  unfold NB nqF
  rw [z 9 (by omega), z 10 (by omega), z 13 (by omega), z 16 (by omega), z 36 (by omega), z 37 (by omega), z 38 (by omega), z 39 (by omega)]
  omega
