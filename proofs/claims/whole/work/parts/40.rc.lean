/-! THE CLASS AND THE REFERENCE: how the class's memory C stands to the reference's M -/
def vcode (c : Int) : Prop := 0 ≤ c ∧ c ≤ 9999999999999 ∧ (c = 0 ∨ 1 ≤ mlen c ∧ c / 10 ^ (mlen c).toNat = 1)
def vtag (v : Int) : Int := if v = -1 then 999 else 1000 + v
theorem vtag_rg {v : Int} (h : -1 ≤ v) : 999 ≤ vtag v ∧ vtag v = 1000 + v := by unfold vtag; split <;> omega
def vfo (M : q_S) (v : Int) : Int := if v = -1 ∨ M 21 v = 0 then -1 else M 20 v
def vco (M : q_S) (v : Int) : Int := if v = -1 then 0 else M 21 v
def cfo (M : q_S) (p : Int) : Int := if M 2 p = 0 then -1 else M 4 p
/-- the contents -/
def CC (C : q_S) : Prop := ∀ c, vcode c → C ((1000000 + 3 * c)) 0 = mlen c ∧ C ((1000000 + 3 * c)) 1 = ncut c ∧ (∀ i, 0 ≤ i → C ((1000000 + 3 * c) + 1) i = if i < mlen c then fig c i else 0) ∧ (∀ i, 0 ≤ i → C ((1000000 + 3 * c) + 2) i = if i < ncut c then pce c i else 0) ∧ C ((1000000 + 3 * c)) 2 = 1 ∧ C ((1000000 + 3 * c)) 3 = 1 ∧ ∀ j, 4 ≤ j → C ((1000000 + 3 * c)) j = 0
/-- the numbers -/
def RS (M C : q_S) : Prop := C 100 9 = M 50 1 ∧ C 100 10 = M 50 9 ∧ C 100 11 = M 50 37 ∧ C 100 12 = M 50 38 ∧ C 100 13 = M 50 36 ∧ C 104 0 = M 50 16 ∧ C 108 0 = M 50 27 ∧ C 105 1 = M 50 34 ∧ C 105 2 = M 50 39
/-- the draft -/
def RD (M C : q_S) : Prop := C 100 8 = mlen (M 50 0) ∧ ∀ i, 0 ≤ i → i < mlen (M 50 0) → C 101 i = fig (M 50 0) i
/-- the copies -/
def RP (M C : q_S) : Prop := ∀ p, 0 ≤ p → p < 48 → C (200 + p) 0 = M 2 p ∧ C (200 + p) 1 = cfo M p ∧ C (200 + p) 2 = (1000000 + 3 * (M 3 p)) ∧ C (200 + p) 3 = M 5 p - 1 ∧ C (200 + p) 4 = M 6 p ∧ C (200 + p) 5 = M 7 p
/-- the machines -/
def RM (M C : q_S) : Prop := ∀ m, 0 ≤ m → m ≤ 2 → C (110 + m) 3 = M 11 m ∧ C (110 + m) 4 = M 12 m
/-- the lines -/
def RLn (M C : q_S) : Prop := ∀ m, 0 ≤ m → m ≤ 2 → C (110 + m) 2 = ntF M m 16 ∧ (∀ i, 0 ≤ i → i < ntF M m 16 → (0 ≤ C (150 + m) i ∧ C (150 + m) i ≤ 15) ∧ 0 < M 8 (16 * m + C (150 + m) i)) ∧
  (∀ i j, 0 ≤ i → i < j → j < ntF M m 16 → M 8 (16 * m + C (150 + m) i) < M 8 (16 * m + C (150 + m) j)) ∧ ∀ f, 0 ≤ f → f ≤ 15 → 0 < M 8 (16 * m + f) → ∃ i, (0 ≤ i ∧ i < ntF M m 16) ∧ C (150 + m) i = f
/-- the versions -/
def RV (M C : q_S) : Prop := (∀ v, 0 ≤ v → v < M 50 16 → C 125 v = 1000 + v ∧ C (1000 + v) 0 = M 17 v ∧ C (1000 + v) 1 = M 18 v ∧ C (1000 + v) 2 = M 19 v ∧ C (1000 + v) 3 = vfo M v ∧ C (1000 + v) 4 = (1000000 + 3 * (M 21 v)) ∧ C (1000 + v) 5 = 1 - M 22 v) ∧
  (C 999 0 = -1 ∧ C 999 1 = 0 ∧ C 999 2 = -1 ∧ C 999 3 = -1 ∧ C 999 4 = 1000000 ∧ C 999 5 = 1) ∧ ∀ f, 0 ≤ f → f ≤ 15 → C 124 f = latestOf M f
/-- locks -/
def RK (M C : q_S) : Prop := ∀ f, 0 ≤ f → f ≤ 15 → ((-1 ≤ C 131 f ∧ C 131 f ≤ 2) ∧ 0 ≤ C 132 f ∧ C 132 f ≤ 2100) ∧ ∀ t, M 50 1 ≤ t → (if t < C 132 f then C 131 f else -1) = (if 0 < M 23 f ∧ t < M 24 f then M 23 f - 1 else -1)
/-- shares -/
def RH (M C : q_S) : Prop := ∀ k, 0 ≤ k → k < 12 → C 133 k = M 25 k ∧ C 134 k = M 26 k
/-- holds -/
def RO (M C : q_S) : Prop := ∀ i, 0 ≤ i → i < M 50 27 → C 135 i = M 28 i ∧ C 136 i = M 29 i ∧ C 137 i = M 30 i
/-- the store -/
def RT (M C : q_S) : Prop := (0 ≤ C 105 0 ∧ C 105 0 ≤ 512) ∧ (∀ i, 0 ≤ i → i < C 105 0 → (0 ≤ C 126 i ∧ C 126 i < 20000) ∧ M 31 (C 126 i) = C 127 i + 1 ∧ 0 ≤ C 127 i ∧ M 32 (C 126 i) = C 128 i ∧ M 33 (C 126 i) = C 129 i) ∧
  (∀ i j, 0 ≤ i → i < j → j < C 105 0 → C 126 i ≠ C 126 j) ∧ (∀ x, 0 ≤ x → x < 20000 → M 31 x ≠ 0 → ∃ i, (0 ≤ i ∧ i < C 105 0) ∧ C 126 i = x) ∧ ∀ x, 0 ≤ x → x < 20000 → M 31 x = 0 → M 32 x = 0 ∧ M 33 x = 0
/-- the events -/
def RE (M C : q_S) : Prop := (0 ≤ C 103 3 ∧ C 103 3 ≤ M 50 13) ∧ ∃ e : Int → Int, (∀ i, 0 ≤ i → i < C 103 3 → (0 ≤ e i ∧ e i < M 50 13) ∧ M 14 (e i) = 16 * C 121 i + C 122 i ∧ (0 ≤ C 121 i ∧ C 121 i ≤ 2) ∧ (0 ≤ C 122 i ∧ C 122 i ≤ 15) ∧ M 15 (e i) = C 123 i ∧ 0 < C 123 i) ∧
  (∀ i j, 0 ≤ i → i < j → j < C 103 3 → C 123 i < C 123 j ∨ C 123 i = C 123 j ∧ e i < e j) ∧ ∀ k, 0 ≤ k → k < M 50 13 → 0 < M 15 k → ∃ i, (0 ≤ i ∧ i < C 103 3) ∧ e i = k
def RC (M C : q_S) : Prop := RS M C ∧ RD M C ∧ RP M C ∧ RM M C ∧ RLn M C ∧ RV M C ∧ RK M C ∧ RH M C ∧ RO M C ∧ RT M C ∧ RE M C ∧ CC C
/-- what holds of the reference by itself: codes, copies, sights, the last version of a file is kept, notes and events -/
def MI (M : q_S) : Prop := vcode (M 50 0) ∧ (∀ p, 0 ≤ p → p < 48 → vcode (M 3 p) ∧ (M 2 p = 0 ↔ M 3 p = 0) ∧ M 5 p ≤ M 50 16 ∧ (0 < M 5 p → M 17 (M 5 p - 1) = p % 16) ∧ M 8 p ≤ M 50 10) ∧ (∀ v, 0 ≤ v → v < M 50 16 → vcode (M 21 v) ∧ M 18 v ≤ M 50 1 ∧ v ≤ latestOf M (M 17 v)) ∧ ∀ k, 0 ≤ k → k < M 50 13 → M 15 k = 0 ∨ M 50 1 < M 15 k
theorem rs_now {M C : q_S} (h : RC M C) : C 100 9 = M 50 1 := h.1.1
theorem rs_opens {M C : q_S} (h : RC M C) : C 100 10 = M 50 9 := h.1.2.1
theorem rs_conf {M C : q_S} (h : RC M C) : C 100 11 = M 50 37 := h.1.2.2.1
theorem rs_refu {M C : q_S} (h : RC M C) : C 100 12 = M 50 38 := h.1.2.2.2.1
theorem rs_foll {M C : q_S} (h : RC M C) : C 100 13 = M 50 36 := h.1.2.2.2.2.1
theorem rs_made {M C : q_S} (h : RC M C) : C 104 0 = M 50 16 := h.1.2.2.2.2.2.1
theorem rs_holds {M C : q_S} (h : RC M C) : C 108 0 = M 50 27 := h.1.2.2.2.2.2.2.1
theorem rs_packs {M C : q_S} (h : RC M C) : C 105 1 = M 50 34 := h.1.2.2.2.2.2.2.2.1
theorem rs_upl {M C : q_S} (h : RC M C) : C 105 2 = M 50 39 := h.1.2.2.2.2.2.2.2.2
theorem rc_D {M C : q_S} (h : RC M C) : RD M C := h.2.1
theorem rc_P {M C : q_S} (h : RC M C) : RP M C := h.2.2.1
theorem rc_M {M C : q_S} (h : RC M C) : RM M C := h.2.2.2.1
theorem rc_L {M C : q_S} (h : RC M C) : RLn M C := h.2.2.2.2.1
theorem rc_V {M C : q_S} (h : RC M C) : RV M C := h.2.2.2.2.2.1
theorem rc_K {M C : q_S} (h : RC M C) : RK M C := h.2.2.2.2.2.2.1
theorem rc_H {M C : q_S} (h : RC M C) : RH M C := h.2.2.2.2.2.2.2.1
theorem rc_O {M C : q_S} (h : RC M C) : RO M C := h.2.2.2.2.2.2.2.2.1
theorem rc_T {M C : q_S} (h : RC M C) : RT M C := h.2.2.2.2.2.2.2.2.2.1
theorem rc_E {M C : q_S} (h : RC M C) : RE M C := h.2.2.2.2.2.2.2.2.2.2.1
theorem rc_C {M C : q_S} (h : RC M C) : CC C := h.2.2.2.2.2.2.2.2.2.2.2
theorem rs_dcn {M C : q_S} (h : RC M C) : C 100 8 = mlen (M 50 0) := (rc_D h).1
theorem rp_0 {M C : q_S} (h : RC M C) {p : Int} (hp : 0 ≤ p ∧ p < 48) : C (200 + p) 0 = M 2 p := (rc_P h p hp.1 hp.2).1
theorem rp_1 {M C : q_S} (h : RC M C) {p : Int} (hp : 0 ≤ p ∧ p < 48) : C (200 + p) 1 = cfo M p := (rc_P h p hp.1 hp.2).2.1
theorem rp_2 {M C : q_S} (h : RC M C) {p : Int} (hp : 0 ≤ p ∧ p < 48) : C (200 + p) 2 = (1000000 + 3 * (M 3 p)) := (rc_P h p hp.1 hp.2).2.2.1
theorem rp_3 {M C : q_S} (h : RC M C) {p : Int} (hp : 0 ≤ p ∧ p < 48) : C (200 + p) 3 = M 5 p - 1 := (rc_P h p hp.1 hp.2).2.2.2.1
theorem rp_4 {M C : q_S} (h : RC M C) {p : Int} (hp : 0 ≤ p ∧ p < 48) : C (200 + p) 4 = M 6 p := (rc_P h p hp.1 hp.2).2.2.2.2.1
theorem rp_5 {M C : q_S} (h : RC M C) {p : Int} (hp : 0 ≤ p ∧ p < 48) : C (200 + p) 5 = M 7 p := (rc_P h p hp.1 hp.2).2.2.2.2.2
theorem rm_3 {M C : q_S} (h : RC M C) {m : Int} (hm : 0 ≤ m ∧ m ≤ 2) : C (110 + m) 3 = M 11 m := (rc_M h m hm.1 hm.2).1
theorem rm_4 {M C : q_S} (h : RC M C) {m : Int} (hm : 0 ≤ m ∧ m ≤ 2) : C (110 + m) 4 = M 12 m := (rc_M h m hm.1 hm.2).2
theorem rm_2 {M C : q_S} (h : RC M C) {m : Int} (hm : 0 ≤ m ∧ m ≤ 2) : C (110 + m) 2 = ntF M m 16 := (rc_L h m hm.1 hm.2).1
theorem rw_v {M C : q_S} (h : RC M C) {v : Int} (hv : 0 ≤ v ∧ v < M 50 16) : C 125 v = vtag v := by
  rw [((rc_V h).1 v hv.1 hv.2).1]; unfold vtag; rw [if_neg (by omega)]
theorem rv_0 {M C : q_S} (h : RC M C) {v : Int} (hv : -1 ≤ v ∧ v < M 50 16) : C (vtag v) 0 = if v = -1 then -1 else M 17 v := by
  by_cases e : v = -1
  · rw [if_pos e, e]; exact (rc_V h).2.1.1
  · rw [if_neg e]; unfold vtag; rw [if_neg e]; exact ((rc_V h).1 v (by omega) hv.2).2.1
theorem rv_1 {M C : q_S} (h : RC M C) {v : Int} (hv : -1 ≤ v ∧ v < M 50 16) : C (vtag v) 1 = if v = -1 then 0 else M 18 v := by
  by_cases e : v = -1
  · rw [if_pos e, e]; exact (rc_V h).2.1.2.1
  · rw [if_neg e]; unfold vtag; rw [if_neg e]; exact ((rc_V h).1 v (by omega) hv.2).2.2.1
theorem rv_2 {M C : q_S} (h : RC M C) {v : Int} (hv : -1 ≤ v ∧ v < M 50 16) : C (vtag v) 2 = if v = -1 then -1 else M 19 v := by
  by_cases e : v = -1
  · rw [if_pos e, e]; exact (rc_V h).2.1.2.2.1
  · rw [if_neg e]; unfold vtag; rw [if_neg e]; exact ((rc_V h).1 v (by omega) hv.2).2.2.2.1
theorem rv_3 {M C : q_S} (h : RC M C) {v : Int} (hv : -1 ≤ v ∧ v < M 50 16) : C (vtag v) 3 = vfo M v := by
  by_cases e : v = -1
  · unfold vfo; rw [if_pos (Or.inl e), e]; exact (rc_V h).2.1.2.2.2.1
  · unfold vtag; rw [if_neg e]; exact ((rc_V h).1 v (by omega) hv.2).2.2.2.2.1
theorem rv_4 {M C : q_S} (h : RC M C) {v : Int} (hv : -1 ≤ v ∧ v < M 50 16) : C (vtag v) 4 = (1000000 + 3 * (vco M v)) := by
  by_cases e : v = -1
  · unfold vco; rw [if_pos e, e]; exact (rc_V h).2.1.2.2.2.2.1
  · unfold vco; rw [if_neg e]; unfold vtag; rw [if_neg e]; exact ((rc_V h).1 v (by omega) hv.2).2.2.2.2.2.1
theorem rv_5 {M C : q_S} (h : RC M C) {v : Int} (hv : -1 ≤ v ∧ v < M 50 16) : C (vtag v) 5 = if v = -1 then 1 else 1 - M 22 v := by
  by_cases e : v = -1
  · rw [if_pos e, e]; exact (rc_V h).2.1.2.2.2.2.2
  · rw [if_neg e]; unfold vtag; rw [if_neg e]; exact ((rc_V h).1 v (by omega) hv.2).2.2.2.2.2.2
theorem rv_l {M C : q_S} (h : RC M C) {f : Int} (hf : 0 ≤ f ∧ f ≤ 15) : C 124 f = latestOf M f := (rc_V h).2.2 f hf.1 hf.2
theorem rh_r {M C : q_S} (h : RC M C) {k : Int} (hk : 0 ≤ k ∧ k < 12) : C 133 k = M 25 k := (rc_H h k hk.1 hk.2).1
theorem rh_e {M C : q_S} (h : RC M C) {k : Int} (hk : 0 ≤ k ∧ k < 12) : C 134 k = M 26 k := (rc_H h k hk.1 hk.2).2
theorem ro_f {M C : q_S} (h : RC M C) {k : Int} (hk : 0 ≤ k ∧ k < M 50 27) : C 135 k = M 28 k := (rc_O h k hk.1 hk.2).1
theorem ro_a {M C : q_S} (h : RC M C) {k : Int} (hk : 0 ≤ k ∧ k < M 50 27) : C 136 k = M 29 k := (rc_O h k hk.1 hk.2).2.1
theorem ro_b {M C : q_S} (h : RC M C) {k : Int} (hk : 0 ≤ k ∧ k < M 50 27) : C 137 k = M 30 k := (rc_O h k hk.1 hk.2).2.2
theorem cc_0 {C : q_S} (h : CC C) {c : Int} (hc : vcode c) : C ((1000000 + 3 * c)) 0 = mlen c := (h c hc).1
theorem cc_1 {C : q_S} (h : CC C) {c : Int} (hc : vcode c) : C ((1000000 + 3 * c)) 1 = ncut c := (h c hc).2.1
theorem cc_n {C : q_S} (h : CC C) {c i : Int} (hc : vcode c) (hi : 0 ≤ i ∧ i < mlen c) : C ((1000000 + 3 * c) + 1) i = fig c i := by
  rw [(h c hc).2.2.1 i hi.1, if_pos hi.2]
theorem cc_p {C : q_S} (h : CC C) {c i : Int} (hc : vcode c) (hi : 0 ≤ i ∧ i < ncut c) : C ((1000000 + 3 * c) + 2) i = pce c i := by
  rw [(h c hc).2.2.2.1 i hi.1, if_pos hi.2]
theorem vcode_rg {c : Int} (h : vcode c) : 0 ≤ c ∧ c ≤ 9999999999999 := ⟨h.1, h.2.1⟩
theorem vcode_0 : vcode 0 := ⟨by decide, by decide, Or.inl rfl⟩
theorem vcode_len {c : Int} (h : vcode c) : 0 ≤ mlen c ∧ mlen c ≤ 12 := ⟨(mlen_nn c).1, mlen_12 ⟨h.1, h.2.1⟩⟩
theorem mlen_0 : mlen 0 = 0 := by unfold mlen; rw [if_neg (by decide)]
theorem vcode_z {c : Int} (h : vcode c) : mlen c = 0 ↔ c = 0 := by
  constructor
  · intro e; rcases h.2.2 with g | g
    · exact g
    · omega
  · intro e; rw [e]; exact mlen_0
/-- a content is what its numbers say -/
theorem vcode_ext {c d : Int} (hc : vcode c) (hd : vcode d) (hl : mlen c = mlen d) (hf : ∀ i, 0 ≤ i → i < mlen c → fig c i = fig d i) : c = d := by
  by_cases hz : mlen c = 0
  · rw [(vcode_z hc).mp hz, (vcode_z hd).mp (by omega)]
  · have h1 : c / 10 ^ (mlen c).toNat = 1 := hc.2.2.elim (fun e => absurd ((vcode_z hc).mpr e) hz) (fun g => g.2)
    have h2 : d / 10 ^ (mlen c).toNat = 1 := by rw [hl]; exact hd.2.2.elim (fun e => absurd ((vcode_z hd).mpr e) (by omega)) (fun g => g.2)
    have lp : ∀ k : Nat, k ≤ (mlen c).toNat → c / 10 ^ ((mlen c).toNat - k) = d / 10 ^ ((mlen c).toNat - k) := by
      intro k
      induction k with
      | zero => intro _; rw [Nat.sub_zero, h1, h2]
      | succ k ih =>
        intro hk
        have i := ih (by omega)
        have e1 : (mlen c).toNat - k = (mlen c).toNat - (k + 1) + 1 := by omega
        rw [e1, ← div_pow_s, ← div_pow_s] at i
        have f := hf k (by omega) (by omega)
        unfold fig at f
        rw [show (mlen c - 1 - (k : Int)).toNat = (mlen c).toNat - (k + 1) by omega, show (mlen d - 1 - (k : Int)).toNat = (mlen c).toNat - (k + 1) by omega] at f
        omega
    have := lp (mlen c).toNat (Nat.le_refl _)
    rw [Nat.sub_self, Int.pow_zero, Int.ediv_one, Int.ediv_one] at this
    exact this
/-- where the cells lead -/
theorem kl_m {m g : Int} (h : 0 ≤ m ∧ m ≤ 2) : kof (ln 102 m g) = (7, 0, 110 + m) := by
  have e : ln 102 m g = 110 + m := rfl
  rw [e]; unfold kof kk kkc
  rw [if_neg (by omega), if_neg (by omega), if_pos (by omega)]
  simp (config := {decide := true}) only [if_neg (show ¬ 110 + m = 100 by omega), if_neg (show ¬ 110 + m = 101 by omega), if_neg (show ¬ 110 + m = 102 by omega), if_neg (show ¬ 110 + m = 103 by omega), if_neg (show ¬ 110 + m = 104 by omega), if_neg (show ¬ 110 + m = 105 by omega), if_neg (show ¬ 110 + m = 106 by omega), if_neg (show ¬ 110 + m = 107 by omega), if_neg (show ¬ 110 + m = 108 by omega), if_pos (show 110 + m ≤ 112 by omega)]
theorem ln_m {m j g : Int} (h : 0 ≤ m ∧ m ≤ 2) : ln (110 + m) j g = 110 + m + 30 + 10 * j := by
  unfold ln ln0
  rw [if_neg (by omega), if_neg (by omega), if_neg (by omega), if_neg (by omega), if_neg (by omega), if_neg (by omega), if_neg (by omega), if_neg (by omega), if_neg (by omega), if_neg (by omega), if_pos (by omega)]
theorem kkc_hi {g : Int} (h : 113 ≤ g ∧ g ≤ 999999) (h2 : g ≠ 300 ∧ (g ≠ 301 ∧ g ≠ 502 ∧ g ≠ 525 ∧ ¬ (540 ≤ g ∧ g ≤ 542))) : kk g = if g ≤ 123 then (20, 512) else if g = 124 then (20, 16) else if g = 125 then (39, 120) else if g ≤ 127 then (20, 512) else if g ≤ 130 then (22, 512) else if g ≤ 132 then (20, 16) else if g ≤ 134 then (20, 12) else if g ≤ 137 then (20, 10) else if g ≤ 142 then (31, 16) else if g ≤ 152 then (20, 16) else if g ≤ 247 then (2, 0) else (10, 0) := by
  unfold kk kkc
  rw [if_neg (by omega), if_neg (by omega), if_pos (by omega), if_neg (by omega), if_neg (by omega), if_neg (by omega), if_neg (by omega), if_neg (by omega), if_neg (by omega), if_neg (by omega), if_neg (by omega), if_neg (by omega), if_neg (by omega)]
theorem kl_c {m g : Int} (h : 0 ≤ m ∧ m ≤ 2) : kof (ln (110 + m) 0 g) = (31, 16, 140 + m) := by
  rw [ln_m h, show 110 + m + 30 + 10 * 0 = 140 + m by omega]
  unfold kof
  rw [kkc_hi ⟨by omega, by omega⟩ ⟨by omega, by omega⟩, if_neg (by omega), if_neg (by omega), if_neg (by omega), if_neg (by omega), if_neg (by omega), if_neg (by omega), if_neg (by omega), if_neg (by omega), if_pos (by omega)]
theorem kl_l {m g : Int} (h : 0 ≤ m ∧ m ≤ 2) : kof (ln (110 + m) 1 g) = (20, 16, 150 + m) := by
  rw [ln_m h, show 110 + m + 30 + 10 * 1 = 150 + m by omega]
  unfold kof
  rw [kkc_hi ⟨by omega, by omega⟩ ⟨by omega, by omega⟩, if_neg (by omega), if_neg (by omega), if_neg (by omega), if_neg (by omega), if_neg (by omega), if_neg (by omega), if_neg (by omega), if_neg (by omega), if_neg (by omega), if_pos (by omega)]
theorem kl_p {m f g : Int} (h : 0 ≤ m ∧ m ≤ 2) (hf : 0 ≤ f ∧ f ≤ 15) : kof (ln (140 + m) f g) = (2, 0, 200 + (16 * m + f)) := by
  have e : ln (140 + m) f g = 200 + (16 * m + f) := by
    unfold ln ln0
    rw [if_neg (by omega), if_neg (by omega), if_neg (by omega), if_neg (by omega), if_neg (by omega), if_neg (by omega), if_neg (by omega), if_neg (by omega), if_neg (by omega), if_neg (by omega), if_neg (by omega), if_neg (by omega), if_pos (by omega)]
    omega
  rw [e]; unfold kof
  rw [kkc_hi ⟨by omega, by omega⟩ ⟨by omega, by omega⟩, if_neg (by omega), if_neg (by omega), if_neg (by omega), if_neg (by omega), if_neg (by omega), if_neg (by omega), if_neg (by omega), if_neg (by omega), if_neg (by omega), if_neg (by omega), if_pos (by omega)]
theorem kof_ct {c : Int} (hc : 0 ≤ c) : kof ((1000000 + 3 * c)) = (1, 0, (1000000 + 3 * c)) := by
  unfold kof kk
  rw [if_neg (by omega), if_neg (by omega), if_neg (by omega), if_pos (by omega)]
theorem ln_p {p j g : Int} (hp : 0 ≤ p ∧ p < 48) : ln (200 + p) j g = if j = 6 then 1000000 else g := by
  unfold ln ln0
  rw [if_neg (by omega), if_neg (by omega), if_neg (by omega), if_neg (by omega), if_neg (by omega), if_neg (by omega), if_neg (by omega), if_neg (by omega), if_neg (by omega), if_neg (by omega), if_neg (by omega), if_neg (by omega), if_neg (by omega), if_pos (by omega)]
theorem kl_pc {p c g : Int} (hp : 0 ≤ p ∧ p < 48) (hc : 0 ≤ c) (hg : g = (1000000 + 3 * c)) : kof (ln (200 + p) 2 g) = (1, 0, (1000000 + 3 * c)) := by
  rw [ln_p hp, if_neg (by decide), hg]; exact kof_ct hc
theorem kl_pe {p g : Int} (hp : 0 ≤ p ∧ p < 48) : kof (ln (200 + p) 6 g) = (1, 0, (1000000 + 3 * 0)) := by
  rw [ln_p hp, if_pos rfl]; exact kof_ct (c := 0) (by decide)
theorem ls_pc {p c : Int} (hp : 0 ≤ p ∧ p < 48) (hc : 0 ≤ c) : ¬ q_sc (ln (200 + p) 2 ((1000000 + 3 * c))) := by
  rw [ln_p hp, if_neg (by decide)]; omega
theorem kof_v {v : Int} (h : -1 ≤ v ∧ v < 900000) : kof (vtag v) = (10, 0, vtag v) := by
  have := vtag_rg h.1
  unfold kof
  rw [kkc_hi ⟨by omega, by omega⟩ ⟨by omega, by omega⟩, if_neg (by omega), if_neg (by omega), if_neg (by omega), if_neg (by omega), if_neg (by omega), if_neg (by omega), if_neg (by omega), if_neg (by omega), if_neg (by omega), if_neg (by omega), if_neg (by omega)]
theorem kl_r {v i g : Int} (h : -1 ≤ v ∧ v < 900000) (hg : g = vtag v) : kof (ln 125 i g) = (10, 0, vtag v) := by
  have e : ln 125 i g = g := rfl
  rw [e, hg]; exact kof_v h
theorem ln_v {v j g : Int} (h : -1 ≤ v ∧ v < 900000) : ln (vtag v) j g = g := by
  have := vtag_rg h.1
  unfold ln ln0
  rw [if_neg (by omega), if_neg (by omega), if_neg (by omega), if_neg (by omega), if_neg (by omega), if_neg (by omega), if_neg (by omega), if_neg (by omega), if_neg (by omega), if_neg (by omega), if_neg (by omega), if_neg (by omega), if_neg (by omega), if_neg (by omega), if_pos (by omega)]
theorem kl_vc {v c g : Int} (h : -1 ≤ v ∧ v < 900000) (hc : 0 ≤ c) (hg : g = (1000000 + 3 * c)) : kof (ln (vtag v) 4 g) = (1, 0, (1000000 + 3 * c)) := by
  rw [ln_v h, hg]; exact kof_ct hc
theorem ln_ct {c j g : Int} (hc : 0 ≤ c) : ln ((1000000 + 3 * c)) j g = (1000000 + 3 * c) + (j - 1) := by
  unfold ln ln0
  rw [if_neg (by omega), if_neg (by omega), if_neg (by omega), if_neg (by omega), if_neg (by omega), if_neg (by omega), if_neg (by omega), if_neg (by omega), if_neg (by omega), if_neg (by omega), if_neg (by omega), if_neg (by omega), if_neg (by omega), if_neg (by omega), if_neg (by omega)]
theorem kl_cn {c g : Int} (hc : 0 ≤ c) : kof (ln ((1000000 + 3 * c)) 2 g) = (20, 12, (1000000 + 3 * c) + 1) := by
  rw [ln_ct hc, show (1000000 + 3 * c) + (2 - 1) = (1000000 + 3 * c) + 1 by omega]
  unfold kof kk
  rw [if_neg (by omega), if_neg (by omega), if_neg (by omega), if_neg (by omega)]
theorem kl_cp {c g : Int} (hc : 0 ≤ c) : kof (ln ((1000000 + 3 * c)) 3 g) = (20, 12, (1000000 + 3 * c) + 2) := by
  rw [ln_ct hc, show (1000000 + 3 * c) + (3 - 1) = (1000000 + 3 * c) + 2 by omega]
  unfold kof kk
  rw [if_neg (by omega), if_neg (by omega), if_neg (by omega), if_neg (by omega)]
theorem vco_ok {M : q_S} (h : MI M) {v : Int} (hv : -1 ≤ v ∧ v < M 50 16) : vcode (vco M v) := by
  unfold vco; split
  · exact vcode_0
  · exact (h.2.2.1 v (by omega) hv.2).1
theorem mi_3 {M : q_S} (h : MI M) {p : Int} (hp : 0 ≤ p ∧ p < 48) : vcode (M 3 p) := (h.2.1 p hp.1 hp.2).1
theorem mi_2 {M : q_S} (h : MI M) {p : Int} (hp : 0 ≤ p ∧ p < 48) : M 2 p = 0 ↔ M 3 p = 0 := (h.2.1 p hp.1 hp.2).2.1
theorem mi_5 {M : q_S} (h : MI M) {p : Int} (hp : 0 ≤ p ∧ p < 48) : M 5 p ≤ M 50 16 := (h.2.1 p hp.1 hp.2).2.2.1
theorem isAs_eq {M : q_S} (h : MI M) (hW : WR M) {p v : Int} (hp : 0 ≤ p ∧ p < 48) (hv : -1 ≤ v ∧ v < M 50 16) : (vfo M v = cfo M p ∧ vco M v = M 3 p) ↔ isAsP M p v := by
  have h1 := mi_2 h hp
  have h2 : 0 ≤ M 4 p := (hW 4 p).1
  have h3 : 0 ≤ M 20 v := (hW 20 v).1
  unfold vfo vco cfo
  by_cases e1 : v = -1
  · rw [if_pos (Or.inl e1), if_pos e1]
    by_cases e2 : M 2 p = 0
    · rw [if_pos e2]; have := h1.mp e2; constructor
      · intro _; exact Or.inl ⟨Or.inl e1, e2⟩
      · intro _; exact ⟨rfl, by omega⟩
    · rw [if_neg e2]; constructor
      · intro g; omega
      · rintro (g | g)
        · exact absurd g.2 e2
        · exact absurd (Or.inl e1) g.1
  · rw [if_neg e1]
    by_cases e0 : M 21 v = 0
    · rw [if_pos (Or.inr e0)]
      by_cases e2 : M 2 p = 0
      · rw [if_pos e2]; have := h1.mp e2; constructor
        · intro _; exact Or.inl ⟨Or.inr e0, e2⟩
        · intro _; exact ⟨rfl, by omega⟩
      · rw [if_neg e2]; constructor
        · intro g; omega
        · rintro (g | g)
          · exact absurd g.2 e2
          · exact absurd (Or.inr e0) g.1
    · rw [if_neg (fun g => g.elim e1 e0)]
      by_cases e2 : M 2 p = 0
      · rw [if_pos e2]; constructor
        · intro g; omega
        · rintro (g | g)
          · exact absurd g.1 (fun g => g.elim e1 e0)
          · exact absurd e2 g.2.1
      · rw [if_neg e2]; constructor
        · intro g; exact Or.inr ⟨fun g => g.elim e1 e0, e2, g.2.symm, g.1.symm⟩
        · rintro (g | g)
          · exact absurd g.2 e2
          · exact ⟨g.2.2.2.symm, g.2.2.1.symm⟩
theorem cfo_rg {M : q_S} (h : WR M) (p : Int) : -1 ≤ cfo M p ∧ cfo M p ≤ 3 := by
  have : 0 ≤ M 4 p ∧ M 4 p ≤ 3 := h 4 p
  unfold cfo; split <;> omega
theorem vfo_rg {M : q_S} (h : WR M) (v : Int) : -1 ≤ vfo M v ∧ vfo M v ≤ 3 := by
  have : 0 ≤ M 20 v ∧ M 20 v ≤ 3 := h 20 v
  unfold vfo; split <;> omega
theorem vfo_isIn {M : q_S} (h : WR M) (v : Int) : vfo M v = -1 ↔ ¬ isInP M v := by
  have h1 : 0 ≤ M 20 v := (h 20 v).1
  have h2 : 0 ≤ M 21 v := (h 21 v).1
  unfold vfo isInP; split <;> omega
theorem vfo_in {M : q_S} {v : Int} (h : isInP M v) : vfo M v = M 20 v := by
  unfold vfo; rw [if_neg (fun g => by have := h.1; have := h.2; omega)]
/-- the last version of a file that is kept and of a span -/
def lsF (M : q_S) (f z : Int) : Nat → Int
  | 0 => -1
  | n + 1 => if M 17 n = f ∧ M 22 n = 0 ∧ M 18 n / 24 = z then (n : Int) else lsF M f z n
theorem lsF_rg (M : q_S) (f z : Int) : ∀ n : Nat, -1 ≤ lsF M f z n ∧ lsF M f z n < n := by
  intro n
  induction n with
  | zero => simp only [lsF]; omega
  | succ n ih => simp only [lsF]; split <;> omega
/-- what is held -/
def hldF (M : q_S) (f t : Int) : Nat → Int
  | 0 => 0
  | n + 1 => if M 28 n = f ∧ M 29 n ≤ t ∧ t ≤ M 30 n then 1 else hldF M f t n
theorem rw_0 {M C : q_S} (h : RC M C) {v : Int} (hv : 0 ≤ v ∧ v < M 50 16) : C (vtag v) 0 = M 17 v := by
  rw [rv_0 h ⟨by omega, hv.2⟩, if_neg (by omega)]
theorem rw_1 {M C : q_S} (h : RC M C) {v : Int} (hv : 0 ≤ v ∧ v < M 50 16) : C (vtag v) 1 = M 18 v := by
  rw [rv_1 h ⟨by omega, hv.2⟩, if_neg (by omega)]
theorem rw_2 {M C : q_S} (h : RC M C) {v : Int} (hv : 0 ≤ v ∧ v < M 50 16) : C (vtag v) 2 = M 19 v := by
  rw [rv_2 h ⟨by omega, hv.2⟩, if_neg (by omega)]
theorem rw_5 {M C : q_S} (h : RC M C) {v : Int} (hv : 0 ≤ v ∧ v < M 50 16) : C (vtag v) 5 = 1 - M 22 v := by
  rw [rv_5 h ⟨by omega, hv.2⟩, if_neg (by omega)]
