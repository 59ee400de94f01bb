
/-! THE SMALL MACHINE IS SOUND: the predicate 'the walk goes on from here' is closed under its rules -/
def q_wld (B : Nat) (s : State) (H : Heap) : Prop :=
  vx_Zq Bundle.tN "UNASSIGNED_STACK" Bundle.steD (fun q => B ≤ q) s H ∧ vx_Zq Bundle.tN "SUPPRESSED_SENTINEL" Bundle.listD (fun q => B ≤ q) s H ∧
  (∀ E ∈ q_exs, va_Nw (.castable E E) s) ∧ (∀ E ∈ q_exs, ∀ F ∈ q_exs, F ≠ E → va_Nc E F s) ∧ (∀ t ∈ q_strs, ∃ sa, vk_R t.1 t.2.1 t.2.2 sa s) ∧ (∀ w ∈ q_nest, va_Nw w s) ∧ (∀ C ∈ q_aoN, va_AO C s)
def q_fv (ci : Nat) (v : Int → Int) (r : Int → Nat) (k : Nat) : Value := match q_ft ci k with
  | 0 => .int (Int32.ofInt (v k))
  | 1 => .long (Int64.ofInt (v k))
  | 2 => .int (Int32.ofInt (v k))
  | _ => va_rf (if r k = 0 then none else some (r k))
def q_ob (ci : Nat) (v : Int → Int) (r : Int → Nat) : List Value := (List.range (q_sz ci)).map (q_fv ci v r)
def q_rel (tys : List (ClassId × FieldType)) (k : Nat × Nat × Int) (v : Int → Int) (r : Int → Nat) (e : va_E) : Prop :=
  (∃ ci, k.1 = ci + 1 ∧ ci < 12 ∧ e = .inr (ci, q_ob ci v r)) ∨
  (k.1 = 20 ∧ ∃ cA, (cA, FieldType.int) ∈ tys ∧ e = .inl (cA, k.2.1, .inl (fun j => Int32.ofInt (v j)))) ∨
  (k.1 = 21 ∧ ∃ cA, (cA, FieldType.long) ∈ tys ∧ e = .inl (cA, k.2.1, .inr (.inl (fun j => Int64.ofInt (v j))))) ∨
  (k.1 = 22 ∧ ∃ cA, (cA, FieldType.boolean) ∈ tys ∧ e = .inl (cA, k.2.1, .inl (fun j => Int32.ofInt (v j)))) ∨
  (∃ (ci : Nat) (C : String) (T : u_T) (N : Nat), k.1 = 30 + ci ∧ ci < 12 ∧ vwCl[ci]? = some (C, T, N) ∧ ∃ cA, (cA, FieldType.object C) ∈ tys ∧ e = .inl (cA, k.2.1, .inr (.inr (.inr (.inr (fun j => if r j = 0 then none else some (r j)))))))
def q_all (tys : List (ClassId × FieldType)) (ws : va_W) (K : q_K) (v : q_N) (r : q_A) : Prop := ∀ a, (K a).1 ≠ 0 → (K a).2.1 ≤ 67108864 ∧ ∃ (q0 : Nat) (e : va_E), ws[q0]? = some (a, e) ∧ q_rel tys (K a) (v a) (r a) e
def q_heap (D : va_G) (B sb : Nat) (K : q_K) (v : q_N) (r : q_A) (s : State) (H : Heap) : Prop := ∃ (ws : va_W) (tys : List (ClassId × FieldType)),
  va_K D vwCl tys s ∧ va_P D vwCl ws H ∧ va_D (fun q => B ≤ q) ws ∧ q_all tys ws K v r ∧ q_mem K v ∧ (K 0).1 = 0 ∧ ∃ xs : Nat → Int32, va_X sb (K 0).2.1 xs s H ∧ ∀ j : Nat, j < (K 0).2.1 → v 0 j = (xs j).toInt
def q_ctx (l : Launch) (B sb : Nat) (X : q_X) (p : Program) (R : Room) (s0 : State) (m : MethodId) (args : Array Value) (meth : Method) (cd : Code) : Prop :=
  p.tables.exec = Jvm.exec ∧ cd.code = q_b X ∧ cd.maxLocals = q_n X ∧ meth.sig.returnType = q_rt X ∧ s0.vm.findClass (q_y X).cls = some m.cls ∧ (∀ w ∈ q_tw, w.before args s0 = true) ∧ meth.locks = false ∧ meth.name = (q_y X).name ∧ cd.exceptionTable.toList = tableOf (q_hh X) ∧ q_wld B s0 s0.heap ∧ 0 < B ∧ B ≤ s0.heap.size ∧ R.frames = q_fr X ∧ R.locals = q_lo X ∧ sb < B ∧ l.stackTraces = false
def q_loc (sb nL : Nat) (arr : Array Slot) (ls : q_Ls) : Prop := arr.size = nL ∧ lv_wf arr ∧ ∀ (k : Nat) (x : q_V), ls[k]? = some (some x) → arr[k]? = some (.val (q_val sb x))
def q_Qc (D : va_G) (B sb : Nat) (Q : q_Q) : Array Value → State → Outcome → State → Prop := fun _ st o t =>
  (∃ (ov : Option q_V) (K : q_K) (v : q_N) (r : q_A), o = .returned (ov.map (q_val sb)) ∧ Q (.inl ov) K v r ∧ q_heap D B sb K v r t t.heap) ∧ va_F (fun q => B ≤ q) st t
def q_Xc (D : va_G) (B sb : Nat) (Q : q_Q) : String → State → State → Prop := fun E st t => (∃ (K : q_K) (v : q_N) (r : q_A), Q (.inr E) K v r ∧ q_heap D B sb K v r t t.heap) ∧ va_F (fun q => B ≤ q) st t
def q_C (l : Launch) (D : va_G) (B sb : Nat) : q_P := fun X pc ls st K v r c s Q =>
  ∀ (p : Program) (e : Env) (R : Room) (s0 : State) (m : MethodId) (args : Array Value) (below : List Frame) (meth : Method) (cd : Code) (H : Heap) (locs : List Loc) (cells slots : Nat) (arr : Array Slot),
    q_ctx l B sb X p R s0 m args meth cd → q_heap D B sb K v r s0 H → va_S (fun q => B ≤ q) s0.heap H locs → q_loc sb (q_n X) arr ls → cells + c ≤ R.cells → slots + s ≤ R.slots →
    W p l e R s0 m args below meth cd H locs cells slots (vx_MQ below (q_Qc D B sb Q) (q_Xc D B sb Q) args s0 R.cells R.slots (fun q => B ≤ q)) (F0 m pc arr (st.map (q_val sb)))
/-! numbers -/
theorem q_mn8 : Int8.minValue.toInt = -128 := by decide
theorem q_mx8 : Int8.maxValue.toInt = 127 := by decide
theorem q_mn16 : Int16.minValue.toInt = -32768 := by decide
theorem q_mx16 : Int16.maxValue.toInt = 32767 := by decide
theorem q_mnInt32 : Int32.minValue.toInt = -2147483648 := by decide
theorem q_mxInt32 : Int32.maxValue.toInt = 2147483647 := by decide
theorem q_mnInt64 : Int64.minValue.toInt = -9223372036854775808 := by decide
theorem q_mxInt64 : Int64.maxValue.toInt = 9223372036854775807 := by decide
theorem q_i32 {z : Int} (h : q_iI z) : (Int32.ofInt z).toInt = z := Int32.toInt_ofInt_of_le (by have := h.1; omega) (by have := h.2; omega)
theorem q_i64 {z : Int} (h : q_iL z) : (Int64.ofInt z).toInt = z := Int64.toInt_ofInt_of_le (by have := h.1; omega) (by have := h.2; omega)
theorem q_eq32 {x y : Int} (hx : q_iI x) (hy : q_iI y) : Int32.ofInt x = Int32.ofInt y ↔ x = y := ⟨fun h => by have := congrArg Int32.toInt h; rwa [q_i32 hx, q_i32 hy] at this, fun h => by rw [h]⟩
theorem q_lt32 {x y : Int} (hx : q_iI x) (hy : q_iI y) : Int32.ofInt x < Int32.ofInt y ↔ x < y := by rw [Int32.lt_iff_toInt_lt, q_i32 hx, q_i32 hy]
theorem q_le32 {x y : Int} (hx : q_iI x) (hy : q_iI y) : Int32.ofInt x ≤ Int32.ofInt y ↔ x ≤ y := by rw [Int32.le_iff_toInt_le, q_i32 hx, q_i32 hy]
theorem q_zero : q_iI 0 := by constructor <;> decide
theorem q_nat32 {z : Int} (h0 : 0 ≤ z) (h : z < 2147483648) : (Int32.ofInt z).toNatClampNeg = z.toNat := by
  rw [Int32.toNatClampNeg, q_i32 ⟨by omega, h⟩]
theorem q_neg32 {z : Int} (h0 : 0 ≤ z) (h : z < 2147483648) : ¬ (Int32.ofInt z) < 0 := by
  have : (0 : Int32) = Int32.ofInt 0 := rfl
  rw [this, q_lt32 ⟨by omega, h⟩ q_zero]; omega
theorem q_vp2 {z : Int} {n : Nat} (h0 : 0 ≤ z) (h : z < n) (hz : z < 2147483648) : vp_in (Int32.ofInt z) n := by
  intro h1
  rcases h1 with h1 | h1
  · exact q_neg32 h0 hz h1
  · rw [q_nat32 h0 hz] at h1; omega
theorem q_vp {z : Int} {n : Nat} (h0 : 0 ≤ z) (h : z < n) (hn : n ≤ 2147483648) : vp_in (Int32.ofInt z) n := by
  intro h1
  rcases h1 with h1 | h1
  · exact q_neg32 h0 (by omega) h1
  · rw [q_nat32 h0 (by omega)] at h1; omega
/-! locals -/
def q_lv (sb : Nat) (ls : q_Ls) : List (Nat × Value) := (List.range ls.length).filterMap fun k => match ls[k]? with
  | some (some x) => some (k, q_val sb x)
  | _ => none
theorem q_lv_mem {sb : Nat} {ls : q_Ls} {k : Nat} {w : Value} : (k, w) ∈ q_lv sb ls ↔ ∃ x, ls[k]? = some (some x) ∧ w = q_val sb x := by
  unfold q_lv
  rw [List.mem_filterMap]
  constructor
  · rintro ⟨a, ha, h⟩
    split at h
    next x hx => cases h; exact ⟨x, hx, rfl⟩
    next => cases h
  · rintro ⟨x, hx, rfl⟩
    refine ⟨k, List.mem_range.mpr (List.getElem?_eq_some_iff.mp hx).1, ?_⟩
    rw [hx]
theorem q_loc_has {sb nL : Nat} {arr : Array Slot} {ls : q_Ls} (h : q_loc sb nL arr ls) : lv_has arr nL (q_lv sb ls) := by
  refine ⟨h.1, h.2.1, fun q hq => ?_⟩
  obtain ⟨x, hx, hw⟩ := q_lv_mem.mp hq
  rw [hw]; exact h.2.2 _ _ hx
theorem q_cat_val {sb : Nat} {x : q_V} : (q_val sb x).category = q_cat x := by
  rcases x with z | z | a <;> rfl
theorem q_cats {sb : Nat} (st : List q_V) : ((st.map (q_val sb)).map fun v => v.category) = st.map q_cat := by
  rw [List.map_map]; exact List.map_congr_left (fun x _ => q_cat_val)
theorem q_kill_get {i k : Nat} {ls : q_Ls} {x : q_V} (h : (q_kill i ls)[k]? = some (some x)) : ls[k]? = some (some x) ∧ ¬ (k + 1 = i ∧ q_cat x = 2) := by
  cases i with
  | zero => exact ⟨h, by omega⟩
  | succ i =>
    simp only [q_kill] at h
    split at h
    next z hz =>
      rw [List.getElem?_set] at h
      by_cases hik : i = k
      · rw [if_pos hik] at h
        split at h <;> cases h
      · rw [if_neg hik] at h
        exact ⟨h, by omega⟩
    next hz =>
      refine ⟨h, fun hh => ?_⟩
      obtain ⟨h1, h2⟩ := hh
      have : k = i := by omega
      subst this
      rcases x with z | z | a
      · exact absurd (show (1 : Nat) = 2 from h2) (by decide)
      · exact hz z h
      · exact absurd (show (1 : Nat) = 2 from h2) (by decide)
theorem q_loc_set {sb nL i : Nat} {arr : Array Slot} {ls : q_Ls} {z : q_V} {w : Value} (hw : w = q_val sb z) (h : lv_has arr nL ((i, w) :: (q_lv sb ls).filter (fun q => !(q.1 == i) && !(q.1 + 1 == i && q.2.category == 2)))) : q_loc sb nL arr (q_set ls i z) := by
  refine ⟨h.1, h.2.1, fun k x hx => ?_⟩
  unfold q_set at hx
  rw [List.getElem?_set] at hx
  by_cases hik : i = k
  · rw [if_pos hik] at hx
    split at hx
    · cases hx; subst hik; subst hw; exact h.2.2 _ List.mem_cons_self
    · cases hx
  · rw [if_neg hik] at hx
    obtain ⟨h1, h2⟩ := q_kill_get hx
    refine h.2.2 (k, q_val sb x) (List.mem_cons_of_mem _ (List.mem_filter.mpr ⟨q_lv_mem.mpr ⟨x, h1, rfl⟩, ?_⟩))
    simp only [Bool.and_eq_true, Bool.not_eq_true', beq_eq_false_iff_ne, Bool.and_eq_false_iff, q_cat_val]
    refine ⟨fun e => hik e.symm, ?_⟩
    by_cases e : k + 1 = i
    · exact Or.inr (fun e2 => h2 ⟨e, e2⟩)
    · exact Or.inl e
theorem q_loc_setL {sb nL i : Nat} {arr : Array Slot} {ls : q_Ls} {z : q_V} {w : Value} (hw : w = q_val sb z) (h : lv_has arr nL ((i, w) :: (q_lv sb ls).filter (fun q => !(q.1 == i) && (!(q.1 == i + 1) && !(q.1 + 1 == i && q.2.category == 2))))) : q_loc sb nL arr (q_setL ls i z) := by
  refine ⟨h.1, h.2.1, fun k x hx => ?_⟩
  unfold q_setL at hx
  rw [List.getElem?_set] at hx
  by_cases hik2 : i + 1 = k
  · rw [if_pos hik2] at hx
    split at hx <;> cases hx
  rw [if_neg hik2, List.getElem?_set] at hx
  by_cases hik : i = k
  · rw [if_pos hik] at hx
    split at hx
    · cases hx; subst hik; subst hw; exact h.2.2 _ List.mem_cons_self
    · cases hx
  · rw [if_neg hik] at hx
    obtain ⟨h1, h2⟩ := q_kill_get hx
    refine h.2.2 (k, q_val sb x) (List.mem_cons_of_mem _ (List.mem_filter.mpr ⟨q_lv_mem.mpr ⟨x, h1, rfl⟩, ?_⟩))
    simp only [Bool.and_eq_true, Bool.not_eq_true', beq_eq_false_iff_ne, Bool.and_eq_false_iff, q_cat_val]
    refine ⟨fun e => hik e.symm, fun e => hik2 e.symm, ?_⟩
    by_cases e : k + 1 = i
    · exact Or.inr (fun e2 => h2 ⟨e, e2⟩)
    · exact Or.inl e
theorem q_loc_del {sb nL i : Nat} {arr : Array Slot} {ls : q_Ls} {w : Value} (h : lv_has arr nL ((i, w) :: (q_lv sb ls).filter (fun q => !(q.1 == i) && !(q.1 + 1 == i && q.2.category == 2)))) : q_loc sb nL arr (q_del ls i) := by
  refine ⟨h.1, h.2.1, fun k x hx => ?_⟩
  unfold q_del at hx
  rw [List.getElem?_set] at hx
  by_cases hik : i = k
  · rw [if_pos hik] at hx
    split at hx <;> cases hx
  · rw [if_neg hik] at hx
    obtain ⟨h1, h2⟩ := q_kill_get hx
    refine h.2.2 (k, q_val sb x) (List.mem_cons_of_mem _ (List.mem_filter.mpr ⟨q_lv_mem.mpr ⟨x, h1, rfl⟩, ?_⟩))
    simp only [Bool.and_eq_true, Bool.not_eq_true', beq_eq_false_iff_ne, Bool.and_eq_false_iff, q_cat_val]
    refine ⟨fun e => hik e.symm, ?_⟩
    by_cases e : k + 1 = i
    · exact Or.inr (fun e2 => h2 ⟨e, e2⟩)
    · exact Or.inl e
theorem q_ent_args {sb : Nat} (as : List q_V) : ∀ (n i k : Nat) (x : q_V), (q_ent n as)[k]? = some (some x) → (i + k, q_val sb x) ∈ lv_args i (as.map (q_val sb)) := by
  induction as with
  | nil =>
    intro n i k x h
    simp only [q_ent] at h
    rw [List.getElem?_replicate] at h
    split at h <;> cases h
  | cons a as ih =>
    intro n i k x h
    rcases a with z | z | z
    · simp only [q_ent] at h
      cases k with
      | zero => simp only [List.getElem?_cons_zero, Option.some.injEq] at h; subst h; exact List.mem_cons_self
      | succ k =>
        rw [List.getElem?_cons_succ] at h
        have := ih (n - 1) (i + 1) k x h
        rw [show i + 1 + k = i + (k + 1) by omega] at this
        exact List.mem_cons_of_mem _ this
    · simp only [q_ent] at h
      cases k with
      | zero => simp only [List.getElem?_cons_zero, Option.some.injEq] at h; subst h; exact List.mem_cons_self
      | succ k =>
        rw [List.getElem?_cons_succ] at h
        cases k with
        | zero => simp at h
        | succ k =>
          rw [List.getElem?_cons_succ] at h
          have := ih (n - 2) (i + 2) k x h
          rw [show i + 2 + k = i + (k + 1 + 1) by omega] at this
          exact List.mem_cons_of_mem _ this
    · simp only [q_ent] at h
      cases k with
      | zero => simp only [List.getElem?_cons_zero, Option.some.injEq] at h; subst h; exact List.mem_cons_self
      | succ k =>
        rw [List.getElem?_cons_succ] at h
        have := ih (n - 1) (i + 1) k x h
        rw [show i + 1 + k = i + (k + 1) by omega] at this
        exact List.mem_cons_of_mem _ this
section QS
variable {l : Launch} {D : va_G} {B sb : Nat}


theorem q_and63 {x : Int} (hx : q_iI x) : Int32.ofInt (x % 64) = Int32.ofInt x &&& Int32.ofInt 63 := by
  have h1 : ∀ y : Int32, (y &&& Int32.ofInt 63).toInt = y.toInt % 64 := by
    intro y
    have h63 : Int32.ofInt 63 = (63 : Int32) := rfl
    have hz : (y &&& (63 : Int32)) = Int32.ofBitVec (y.toBitVec &&& 63#32) := rfl
    rw [h63, hz]
    show (y.toBitVec &&& 63#32).toInt = y.toBitVec.toInt % 64
    generalize y.toBitVec = b
    rw [BitVec.toInt_eq_toNat_cond, BitVec.toInt_eq_toNat_cond, BitVec.toNat_and]
    have e63 : (63#32).toNat = 2 ^ 6 - 1 := by decide
    rw [e63, Nat.and_two_pow_sub_one_eq_mod]
    have hb := b.isLt
    have : b.toNat % 2 ^ 6 < 64 := Nat.mod_lt _ (by decide)
    split <;> split <;> omega
  apply Int32.toInt_inj.mp
  rw [h1, q_i32 hx, q_i32 ⟨by omega, by omega⟩]

theorem q_valR {sb a : Nat} (h : a ≠ 0) : q_val sb (q_R a) = .ref a := by simp [q_val, h]
theorem q_rel_obj {tys : List (ClassId × FieldType)} {k : Nat × Nat × Int} {v : Int → Int} {r : Int → Nat} {e : va_E} {ci : Nat} (h : q_rel tys k v r e) (hk : k.1 = ci + 1) (hci : ci < 12) : e = .inr (ci, q_ob ci v r) := by
  rcases h with ⟨c2, h1, h2, h3⟩ | ⟨h1, -⟩ | ⟨h1, -⟩ | ⟨h1, -⟩ | ⟨c2, -, -, -, h1, -⟩
  · obtain rfl : c2 = ci := by omega
    exact h3
  all_goals omega
theorem q_rel_i {tys : List (ClassId × FieldType)} {k : Nat × Nat × Int} {v : Int → Int} {r : Int → Nat} {e : va_E} (h : q_rel tys k v r e) (hk : k.1 = 20) : ∃ cA, (cA, FieldType.int) ∈ tys ∧ e = .inl (cA, k.2.1, .inl (fun j => Int32.ofInt (v j))) := by
  rcases h with ⟨c2, h1, h2, h3⟩ | ⟨h1, h2⟩ | ⟨h1, -⟩ | ⟨h1, -⟩ | ⟨c2, -, -, -, h1, -⟩
  · omega
  · exact h2
  all_goals omega
theorem q_rel_l {tys : List (ClassId × FieldType)} {k : Nat × Nat × Int} {v : Int → Int} {r : Int → Nat} {e : va_E} (h : q_rel tys k v r e) (hk : k.1 = 21) : ∃ cA, (cA, FieldType.long) ∈ tys ∧ e = .inl (cA, k.2.1, .inr (.inl (fun j => Int64.ofInt (v j)))) := by
  rcases h with ⟨c2, h1, h2, h3⟩ | ⟨h1, h2⟩ | ⟨h1, h2⟩ | ⟨h1, -⟩ | ⟨c2, -, -, -, h1, -⟩
  · omega
  · omega
  · exact h2
  all_goals omega
theorem q_rel_z {tys : List (ClassId × FieldType)} {k : Nat × Nat × Int} {v : Int → Int} {r : Int → Nat} {e : va_E} (h : q_rel tys k v r e) (hk : k.1 = 22) : ∃ cA, (cA, FieldType.boolean) ∈ tys ∧ e = .inl (cA, k.2.1, .inl (fun j => Int32.ofInt (v j))) := by
  rcases h with ⟨c2, h1, h2, h3⟩ | ⟨h1, h2⟩ | ⟨h1, h2⟩ | ⟨h1, h2⟩ | ⟨c2, -, -, -, h1, -⟩
  · omega
  · omega
  · omega
  · exact h2
  · omega
theorem q_rel_a {tys : List (ClassId × FieldType)} {k : Nat × Nat × Int} {v : Int → Int} {r : Int → Nat} {e : va_E} {ci : Nat} (h : q_rel tys k v r e) (hk : k.1 = 30 + ci) (hci : ci < 12) : ∃ (C : String) (T : u_T) (N : Nat), vwCl[ci]? = some (C, T, N) ∧ ∃ cA, (cA, FieldType.object C) ∈ tys ∧ e = .inl (cA, k.2.1, .inr (.inr (.inr (.inr (fun j => if r j = 0 then none else some (r j)))))) := by
  rcases h with ⟨c2, h1, h2, h3⟩ | ⟨h1, h2⟩ | ⟨h1, h2⟩ | ⟨h1, h2⟩ | ⟨c2, C, T, N, h1, h2, h3, h4⟩
  · omega
  · omega
  · omega
  · omega
  · obtain rfl : c2 = ci := by omega
    exact ⟨C, T, N, h3, h4⟩
theorem q_rel_mono {t1 t2 : List (ClassId × FieldType)} {k : Nat × Nat × Int} {v : Int → Int} {r : Int → Nat} {e : va_E} (hs : ∀ x ∈ t1, x ∈ t2) (h : q_rel t1 k v r e) : q_rel t2 k v r e := by
  rcases h with h | ⟨h1, cA, h2, h3⟩ | ⟨h1, cA, h2, h3⟩ | ⟨h1, cA, h2, h3⟩ | ⟨c2, C, T, N, h1, h2, h3, cA, h4, h5⟩
  · exact Or.inl h
  · exact Or.inr (Or.inl ⟨h1, cA, hs _ h2, h3⟩)
  · exact Or.inr (Or.inr (Or.inl ⟨h1, cA, hs _ h2, h3⟩))
  · exact Or.inr (Or.inr (Or.inr (Or.inl ⟨h1, cA, hs _ h2, h3⟩)))
  · exact Or.inr (Or.inr (Or.inr (Or.inr ⟨c2, C, T, N, h1, h2, h3, cA, hs _ h4, h5⟩)))
theorem q_ob_get {ci k : Nat} {v : Int → Int} {r : Int → Nat} (h : k < q_sz ci) : (q_ob ci v r)[k]? = some (q_fv ci v r k) := by
  simp [q_ob, h]
theorem q_ob_len {ci : Nat} {v : Int → Int} {r : Int → Nat} : (q_ob ci v r).length = q_sz ci := by simp [q_ob]
theorem q_ob_set {ci k : Nat} {v v2 : Int → Int} {r r2 : Int → Nat} {w : Value} (h : k < q_sz ci) (hw : w = q_fv ci v2 r2 k) (ho : ∀ j : Nat, j ≠ k → v2 j = v j ∧ r2 j = r j) : (q_ob ci v r).set k w = q_ob ci v2 r2 := by
  apply List.ext_getElem?
  intro j
  rw [List.getElem?_set]
  by_cases hj : k = j
  · subst hj
    rw [if_pos rfl, q_ob_len, if_pos h, q_ob_get h, hw]
  · rw [if_neg hj]
    by_cases hj2 : j < q_sz ci
    · rw [q_ob_get hj2, q_ob_get hj2]
      obtain ⟨h1, h2⟩ := ho j (fun e => hj e.symm)
      simp only [q_fv, h1, h2]
    · rw [List.getElem?_eq_none (by rw [q_ob_len]; omega), List.getElem?_eq_none (by rw [q_ob_len]; omega)]
theorem q_X_kept {b L : Nat} {xs : Nat → Int32} {U : State} {H H1 : Heap} (h : va_X b L xs U H) (e : H1[b]? = H[b]?) : va_X b L xs U H1 := by
  obtain ⟨scr, h1, h2⟩ := h
  exact ⟨scr, by rw [e]; exact h1, h2⟩
theorem q_sb {B sb : Nat} {H0 H H1 : Heap} {lo lo1 : List Loc} (h : va_S (fun q => B ≤ q) H0 H lo) (h1 : va_S (fun q => B ≤ q) H0 H1 lo1) (hb : B ≤ H0.size) (hs : sb < B) : H1[sb]? = H[sb]? := by
  rw [h.2.1 sb (by omega) (by show ¬ B ≤ sb; omega), h1.2.1 sb (by omega) (by show ¬ B ≤ sb; omega)]
theorem q_heap_set {D : va_G} {B sb : Nat} {K : q_K} {v v2 : q_N} {r r2 : q_A} {s : State} {H H1 : Heap} {ws : va_W} {tys : List (ClassId × FieldType)} {q0 a : Nat} {e0 e2 : va_E} {xs : Nat → Int32}
    (hK : va_K D vwCl tys s) (hA : q_all tys ws K v r) (h0 : (K 0).1 = 0) (hX : va_X sb (K 0).2.1 xs s H) (hx : ∀ j : Nat, j < (K 0).2.1 → v 0 j = (xs j).toInt) (hq : ws[q0]? = some (a, e0)) (ha : a ≠ 0)
    (hP1 : va_P D vwCl (ws.set q0 (a, e2)) H1) (hD1 : va_D (fun q => B ≤ q) (ws.set q0 (a, e2))) (hr : q_rel tys (K a) (v2 a) (r2 a) e2) (ho : ∀ b, b ≠ a → v2 b = v b ∧ r2 b = r b) (hM : q_mem K v2) (hH : H1[sb]? = H[sb]?) : q_heap D B sb K v2 r2 s H1 := by
  refine ⟨_, tys, hK, hP1, hD1, ?_, hM, h0, xs, q_X_kept hX hH, ?_⟩
  · intro b hb
    by_cases e : b = a
    · subst e
      exact ⟨(hA b hb).1, q0, e2, by rw [List.getElem?_set_self (List.getElem?_eq_some_iff.mp hq).1], hr⟩
    · obtain ⟨g0, q1, e1, g1, g2⟩ := hA b hb
      refine ⟨g0, q1, e1, ?_, by rw [(ho b e).1, (ho b e).2]; exact g2⟩
      rw [List.getElem?_set_ne (fun e9 => ?_)]
      · exact g1
      · subst e9
        rw [hq] at g1
        cases g1
        exact e rfl
  · intro j hj
    rw [(ho 0 (fun e => ha e.symm)).1]
    exact hx j hj
theorem q_up_o {v : q_N} {a b : Nat} {k x : Int} (h : b ≠ a) : q_up v a k x b = v b := by funext j; simp [q_up, h]
theorem q_ur_o {r : q_A} {a b : Nat} {k : Int} {x : Nat} (h : b ≠ a) : q_ur r a k x b = r b := by funext j; simp [q_ur, h]
theorem q_mem_up {K : q_K} {v : q_N} {a : Nat} {k x : Int} (hM : q_mem K v) (hx : q_okm (K a).1 k x) : q_mem K (q_up v a k x) := by
  intro b j hb hj
  unfold q_up
  split
  next h => rw [h.1, h.2]; exact hx
  next => exact hM b j hb hj
theorem q_okm_obj {ci k : Nat} {x : Int} {t : Nat} (hci : ci < 12) (ht : t = ci + 1) (h1 : q_ft ci k = 1 → q_iL x) (h2 : ¬ q_ft ci k = 1 → ¬ q_ft ci k = 3 → q_iI x) : q_okm t (k : Int) x := by
  subst ht
  unfold q_okm
  rw [if_neg (by omega), if_neg (by omega), if_neg (by omega), if_neg (by omega), Nat.add_sub_cancel, Int.toNat_natCast]
  by_cases e : q_ft ci k = 1
  · rw [if_pos e]; exact h1 e
  · rw [if_neg e]
    by_cases e2 : q_ft ci k = 3
    · rw [if_pos e2]; trivial
    · rw [if_neg e2]; exact h2 e e2
theorem q_tyb0 {ty : FieldType} (h : q_tyb 0 ty = true) : ty = .int := by cases ty <;> first | rfl | (exact absurd h (by simp [q_tyb]))
theorem q_tyb1 {ty : FieldType} (h : q_tyb 1 ty = true) : ty = .long := by cases ty <;> first | rfl | (exact absurd h (by simp [q_tyb]))
theorem q_tyb2 {ty : FieldType} (h : q_tyb 2 ty = true) : ty = .boolean := by cases ty <;> first | rfl | (exact absurd h (by simp [q_tyb]))
theorem q_tyb3 {ty : FieldType} (h : q_tyb 3 ty = true) : (∃ n, ty = .object n) ∨ ∃ x, ty = .array x := by cases ty <;> first | exact Or.inl ⟨_, rfl⟩ | exact Or.inr ⟨_, rfl⟩ | (exact absurd h (by simp [q_tyb]))
theorem q_narZ {z : Int} (h : z = 0 ∨ z = 1) : narrow .boolean (.int (Int32.ofInt z)) = .int (Int32.ofInt z) := by rcases h with rfl | rfl <;> decide
theorem q_fitZ {z : Int} (h : z = 0 ∨ z = 1) : fits .boolean (.int (Int32.ofInt z)) = true := by rcases h with rfl | rfl <;> decide
theorem q_fitR {ty : FieldType} {b : Nat} (h : (∃ n, ty = .object n) ∨ ∃ x, ty = .array x) : fits ty (.ref b) = true ∧ narrow ty (.ref b) = .ref b := by rcases h with ⟨n, rfl⟩ | ⟨n, rfl⟩ <;> exact ⟨rfl, rfl⟩

theorem q_idx {f : Nat → Int32} {g : Int → Int} {i : Int} (hf : ∀ j : Nat, f j = Int32.ofInt (g j)) (h0 : 0 ≤ i) (h1 : i < 2147483648) : f (Int32.ofInt i).toNatClampNeg = Int32.ofInt (g i) := by
  rw [q_nat32 h0 h1, hf, Int.toNat_of_nonneg h0]
theorem q_idxL {f : Nat → Int64} {g : Int → Int} {i : Int} (hf : ∀ j : Nat, f j = Int64.ofInt (g j)) (h0 : 0 ≤ i) (h1 : i < 2147483648) : f (Int32.ofInt i).toNatClampNeg = Int64.ofInt (g i) := by
  rw [q_nat32 h0 h1, hf, Int.toNat_of_nonneg h0]
theorem q_updI {v : q_N} {a : Nat} {i x : Int} (h0 : 0 ≤ i) (h1 : i < 2147483648) : upd (fun j : Nat => Int32.ofInt (v a j)) (Int32.ofInt i).toNatClampNeg (Int32.ofInt x) = fun j : Nat => Int32.ofInt (q_up v a i x a j) := by
  funext j
  rw [q_nat32 h0 h1]
  by_cases h : j = i.toNat
  · have h2 : (j : Int) = i := by omega
    simp [upd, q_up, h, Int.toNat_of_nonneg h0]
  · have h2 : ¬ (j : Int) = i := by omega
    simp [upd, q_up, h, h2]
theorem q_updL {v : q_N} {a : Nat} {i x : Int} (h0 : 0 ≤ i) (h1 : i < 2147483648) : vp_updL (fun j : Nat => Int64.ofInt (v a j)) (Int32.ofInt i).toNatClampNeg (Int64.ofInt x) = fun j : Nat => Int64.ofInt (q_up v a i x a j) := by
  funext j
  rw [q_nat32 h0 h1]
  by_cases h : j = i.toNat
  · have h2 : (j : Int) = i := by omega
    simp [vp_updL, q_up, h, Int.toNat_of_nonneg h0]
  · have h2 : ¬ (j : Int) = i := by omega
    simp [vp_updL, q_up, h, h2]
theorem q_updA {r : q_A} {a b : Nat} {i : Int} (hb : b ≠ 0) (h0 : 0 ≤ i) (h1 : i < 2147483648) : va_up (fun j : Nat => if r a j = 0 then none else some (r a j)) (Int32.ofInt i).toNatClampNeg (some b) = fun j : Nat => if q_ur r a i b a j = 0 then none else some (q_ur r a i b a j) := by
  funext j
  rw [q_nat32 h0 h1]
  by_cases h : j = i.toNat
  · have h2 : (j : Int) = i := by omega
    simp [va_up, q_ur, h, Int.toNat_of_nonneg h0, hb]
  · have h2 : ¬ (j : Int) = i := by omega
    simp [va_up, q_ur, h, h2]
theorem q_narZ2 {z : Int} (h : z = 0 ∨ z = 1) : vp_nar .boolean (Int32.ofInt z) = Int32.ofInt z := by rcases h with rfl | rfl <;> decide
theorem q_fresh {A : Nat → Prop} {tys : List (ClassId × FieldType)} {ws : va_W} {K : q_K} {v : q_N} {r : q_A} {q : Nat} {e : va_E} (hA : q_all tys ws K v r) (hD : va_D A (ws ++ [(q, e)])) : (K q).1 = 0 ∧ A q := by
  have hl : (ws ++ [(q, e)])[ws.length]? = some (q, e) := by simp
  refine ⟨?_, hD.2 _ _ hl⟩
  by_cases h : (K q).1 = 0
  · exact h
  · obtain ⟨-, q1, e1, g1, -⟩ := hA q h
    have hlt := (List.getElem?_eq_some_iff.mp g1).1
    have := hD.1 q1 ws.length (q, e1) (q, e) (by rw [List.getElem?_append_left hlt]; exact g1) hl rfl
    omega
theorem q_heap_new {D : va_G} {B sb : Nat} {K : q_K} {v : q_N} {r : q_A} {s : State} {H H1 : Heap} {ws : va_W} {tys t2 : List (ClassId × FieldType)} {q : Nat} {e2 : va_E} {xs : Nat → Int32} {k : Nat × Nat × Int}
    (hK : va_K D vwCl (tys ++ t2) s) (hA : q_all tys ws K v r) (hM : q_mem K v) (h0 : (K 0).1 = 0) (hX : va_X sb (K 0).2.1 xs s H) (hx : ∀ j : Nat, j < (K 0).2.1 → v 0 j = (xs j).toInt) (hq : q ≠ 0)
    (hP1 : va_P D vwCl (ws ++ [(q, e2)]) H1) (hD1 : va_D (fun q => B ≤ q) (ws ++ [(q, e2)])) (hr : q_rel (tys ++ t2) k (fun _ => 0) (fun _ => 0) e2) (hk : k.2.1 ≤ 67108864) (hH : H1[sb]? = H[sb]?) : q_heap D B sb (q_uk K q k) (q_z v q) (q_zr r q) s H1 := by
  have hz : ∀ b, b ≠ q → q_z v q b = v b ∧ q_zr r q b = r b ∧ q_uk K q k b = K b := fun b hb => ⟨by funext j; simp [q_z, hb], by funext j; simp [q_zr, hb], by simp [q_uk, hb]⟩
  have hzq : q_z v q q = (fun _ => 0) ∧ q_zr r q q = (fun _ => 0) ∧ q_uk K q k q = k := ⟨by funext j; simp [q_z], by funext j; simp [q_zr], by simp [q_uk]⟩
  have h0q : ¬ (0 : Nat) = q := fun e => hq e.symm
  refine ⟨_, tys ++ t2, hK, hP1, hD1, ?_, ?_, by rw [(hz 0 h0q).2.2]; exact h0, xs, by rw [(hz 0 h0q).2.2]; exact q_X_kept hX hH, ?_⟩
  · intro b hb
    by_cases e : b = q
    · subst e
      rw [hzq.1, hzq.2.1, hzq.2.2]
      exact ⟨hk, ws.length, e2, by simp, hr⟩
    · rw [(hz b e).2.2] at hb ⊢
      rw [(hz b e).1, (hz b e).2.1]
      obtain ⟨g0, q1, e1, g1, g2⟩ := hA b hb
      exact ⟨g0, q1, e1, by rw [List.getElem?_append_left (List.getElem?_eq_some_iff.mp g1).1]; exact g1, q_rel_mono (fun x hx => List.mem_append_left _ hx) g2⟩
  · intro b j hb hj
    by_cases e : b = q
    · subst e
      rw [hzq.1]
      have hL0 : q_iL 0 := ⟨by decide, by decide⟩
      unfold q_okm
      split
      · exact hL0
      · split
        · exact Or.inl rfl
        · split
          · trivial
          · split
            · exact q_zero
            · split
              · exact hL0
              · split
                · trivial
                · exact q_zero
    · rw [(hz b e).2.2] at hb ⊢
      rw [(hz b e).1]
      exact hM b j hb hj
  · intro j hj
    rw [(hz 0 h0q).2.2] at hj
    rw [(hz 0 h0q).1]
    exact hx j hj
theorem q_dflt {ci : Nat} {tyf : Nat → FieldType} {N : Nat} (hN : N = q_sz ci) (h : ∀ k, k < N → q_tyb (q_ft ci k) (tyf k) = true) : ∀ j, j < N → defaultValue (tyf j) = vp_V (q_ob ci (fun _ => 0) (fun _ => 0)) j := by
  intro j hj
  have h1 := h j hj
  have h2 : vp_V (q_ob ci (fun _ => 0) (fun _ => 0)) j = q_fv ci (fun _ => 0) (fun _ => 0) j := by
    simp [vp_V, List.getD, q_ob_get (ci := ci) (v := fun _ => 0) (r := fun _ => 0) (by omega : j < q_sz ci)]
  rw [h2]
  unfold q_fv
  generalize q_ft ci j = t at h1
  generalize tyf j = ty at h1
  match t, ty, h1 with
  | 0, .int, _ => rfl
  | 1, .long, _ => rfl
  | 2, .boolean, _ => rfl
  | 3, .object _, _ => rfl
  | 3, .array _, _ => rfl

theorem q_heap_moved {D : va_G} {B sb : Nat} {K : q_K} {v : q_N} {r : q_A} {s t : State} {H : Heap} (hvm : s.vm.Alike t.vm) (h : q_heap D B sb K v r s H) : q_heap D B sb K v r t H := by
  obtain ⟨ws, tys, hK, hP, hD, hA, hM, h0, xs, ⟨scr, g1, g2, g3⟩, hxs⟩ := h
  exact ⟨ws, tys, hK.moved hvm, hP, hD, hA, hM, h0, xs, ⟨scr, g1, State.isArrayOf_alike hvm g2, g3⟩, hxs⟩
theorem q_F9 {B : Nat} {s0 t : State} {H : Heap} {locs : List Loc} (ht : t.heap = H) (hS : va_S (fun q => B ≤ q) s0.heap H locs) : va_F (fun q => B ≤ q) s0 t := by
  subst ht
  exact ⟨hS.1, hS.2.1⟩
theorem q_nest_mem {P : Cond → Prop} (h : ∀ (i : Nat) (x : MethodName), P (.methodLinkNest RX10 i x RX10)) (h2 : ∀ x : MethodName, P (.declares x)) : ∀ w ∈ q_nest, P w := by
  intro w hw
  simp only [q_nest, List.mem_cons, List.not_mem_nil, or_false] at hw
  rcases hw with rfl | rfl | rfl | rfl | rfl | rfl | rfl <;> first | exact h _ _ | exact h2 _
theorem q_nest_warm {s U : State} (hW : s.WarmedH U.vm) : ∀ w ∈ q_nest, va_Nw w s → va_Nw w U := q_nest_mem (P := fun w => va_Nw w s → va_Nw w U) (fun _ _ h => va_Nw.warmM hW h) (fun _ h => va_Nw.warmD hW h)
theorem q_nest_same {U V : State} (h : U.vm = V.vm) : ∀ w ∈ q_nest, va_Nw w U → va_Nw w V := q_nest_mem (P := fun w => va_Nw w U → va_Nw w V) (fun _ _ g => va_Nw.same rfl h g) (fun _ g => va_Nw.same rfl h g)
theorem q_dcl_ot : ∀ w ∈ q_dcl, w.onTables = true := by
  intro w hw
  simp only [q_dcl, List.mem_cons, List.not_mem_nil, or_false] at hw
  rcases hw with rfl | rfl | rfl <;> rfl
theorem q_dcl_nest : ∀ w ∈ q_dcl, w ∈ q_nest := by
  intro w hw
  simp only [q_dcl, List.mem_cons, List.not_mem_nil, or_false] at hw
  simp only [q_nest, List.mem_cons, List.not_mem_nil, or_false]
  rcases hw with rfl | rfl | rfl <;> simp
theorem q_wld_warm {B : Nat} {s U : State} {H : Heap} {locs : List Loc} (hW : s.WarmedH U.vm) (hS : va_S (fun q => B ≤ q) s.heap H locs) (h : q_wld B s s.heap) : q_wld B U H := by
  obtain ⟨h1, h2, h3, h4, h5, h6, h7⟩ := h
  refine ⟨(h1.moved hW.alike).kept hS.2.1, (h2.moved hW.alike).kept hS.2.1, fun E hE => va_Nw.warmC hW (h3 E hE), fun E hE F hF n => (h4 E hE F hF n).moved hW.alike, fun t ht => ?_, fun w hw => q_nest_warm hW w hw (h6 w hw), fun C hC => va_AO.moved hW.alike (h7 C hC)⟩
  obtain ⟨sa, g⟩ := h5 t ht
  exact ⟨sa, g.warm hW⟩
theorem q_wld_same {B : Nat} {U V : State} {H : Heap} (e : U.vm = V.vm) (h : q_wld B U H) : q_wld B V H := by
  obtain ⟨h1, h2, h3, h4, h5, h6, h7⟩ := h
  have ha : U.vm.Alike V.vm := by rw [e]; exact Vm.Alike.refl _
  refine ⟨h1.moved ha, h2.moved ha, fun E hE => va_Nw.same rfl e (h3 E hE), fun E hE F hF n => (h4 E hE F hF n).moved ha, fun t ht => ?_, fun w hw => q_nest_same e w hw (h6 w hw), fun C hC => va_AO.moved ha (h7 C hC)⟩
  obtain ⟨sa, g⟩ := h5 t ht
  exact ⟨sa, g.same e.symm⟩
/-- a callee's premise: its arguments, the memory, the world -/
def q_Pc (D : va_G) (B sb : Nat) (K : q_K) (v : q_N) (r : q_A) (as : List q_V) : Array Value → State → Prop := fun a U =>
  a = (as.map (q_val sb)).toArray ∧ q_heap D B sb K v r U U.heap ∧ q_wld B U U.heap ∧ B ≤ U.heap.size
theorem q_blind {D : va_G} {B sb : Nat} {K : q_K} {v : q_N} {r : q_A} {as : List q_V} : FrameBlind (q_Pc D B sb K v r as) := by
  intro a U g mk h
  exact ⟨h.1, q_heap_moved (s := U) (t := U.calling g mk a) (Vm.Alike.refl U.vm) h.2.1, q_wld_same (U := U) (V := U.calling g mk a) rfl h.2.2.1, h.2.2.2⟩
def q_ws (Y : q_X) : List Cond := q_cd Y :: q_tw
def q_rm (Y : q_X) (c s : Nat) : Room := { frames := q_fr Y, cells := c, slots := s, locals := q_lo Y }
theorem q_lgs {sb : Nat} (as : List q_V) : (lg_sl (as.map (q_val sb))).length = (as.map q_cat).sum := by
  induction as with
  | nil => rfl
  | cons x as ih =>
    rw [List.map_cons, List.map_cons, List.sum_cons, ← ih]
    unfold lg_sl
    rw [List.flatMap_cons, List.length_append]
    rcases x with z | z | z <;> rfl
theorem q_good {w : Cond} (h : w ∈ q_tw) : goodWord w = true := (List.mem_filter.mp h).2
theorem q_ctx_of {l : Launch} {B sb : Nat} {Y : q_X} {n c s : Nat} {p : Program} {e : Env} {st : State} {m : MethodId} {args : Array Value} {below : List Frame} {meth : Method} {cd : Code} {s₁ : State}
    (B9 : BodyLoose p l (q_y Y) (headSpec (q_ws Y) (q_rm Y c s)) (q_b Y) (q_n Y) (q_rt Y) e st m args below meth cd s₁) (hml : cd.maxLocals = q_n Y) (htab : cd.exceptionTable.toList = tableOf (q_hh Y))
    (hw : q_wld B st st.heap) (hB : 0 < B) (hBs : B ≤ st.heap.size) (hsb : sb < B) (hl : l.stackTraces = false) : q_ctx l B sb Y p (q_rm Y c s) st m args meth cd :=
  ⟨B9.exec, B9.bytes, hml, B9.returns, findClass_of_methodNamed B9.named, fun w hw => atoms_spec (ws := q_ws Y) B9.pre w (List.mem_cons_of_mem _ hw), B9.notSynchronized, (name_of_methodNamed B9.named B9.method).1, htab, hw, hB, hBs, rfl, rfl, hsb, hl⟩
theorem q_met {l : Launch} {D : va_G} {B sb : Nat} {Y : q_X} {n c s : Nat} {K : q_K} {v : q_N} {r : q_A} {as : List q_V} {ls0 : q_Ls} {Q : q_Q} (hok : q_ok Y n) (hls : q_ent (q_n Y) as = ls0) (hlz : (as.map q_cat).sum ≤ q_n Y) (hB : 0 < B) (hsb : sb < B) (hl : l.stackTraces = false)
    (k : q_C l D B sb Y 0 ls0 [] K v r c s Q) : vx_Met l (q_y Y) (q_ws Y) (q_rm Y c s) (q_Pc D B sb K v r as) (q_Qc D B sb Q) (q_Xc D B sb Q) c s (fun q => B ≤ q) := by
  have main : ∀ (p : Program) (e : Env) (st : State) (m : MethodId) (args : Array Value) (below : List Frame) (meth : Method) (cd : Code) (s₁ : State),
      BodyLoose p l (q_y Y) (headSpec (q_ws Y) (q_rm Y c s)) (q_b Y) (q_n Y) (q_rt Y) e st m args below meth cd s₁ → cd.maxLocals = q_n Y → cd.exceptionTable.toList = tableOf (q_hh Y) → q_Pc D B sb K v r as args st →
      W p l e (headSpec (q_ws Y) (q_rm Y c s)).room st m args below meth cd st.heap [] 0 0 (vx_MQ below (q_Qc D B sb Q) (q_Xc D B sb Q) args st c s (fun q => B ≤ q)) (entryFrame m args (q_n Y)) := by
    intro p e st m args below meth cd s₁ B9 hml htab hP
    obtain ⟨rfl, hH, hw, hBs⟩ := hP
    rw [lg_entry_eq]
    have hle : (lg_sl (as.map (q_val sb))).length ≤ q_n Y := by rw [q_lgs]; exact hlz
    have hent := lv_entry (as.map (q_val sb)) (n := q_n Y) hle
    refine k p e (q_rm Y c s) st m _ below meth cd st.heap [] 0 0 _ (q_ctx_of (n := n) B9 hml htab hw hB hBs hsb hl) hH va_S.rf ⟨hent.1, hent.2.1, fun j x hj => ?_⟩ (Nat.le_of_eq (Nat.zero_add c)) (Nat.le_of_eq (Nat.zero_add s))
    subst hls
    have := hent.2.2 _ (q_ent_args (sb := sb) as (q_n Y) 0 j x hj)
    rwa [Nat.zero_add] at this
  by_cases hh : q_hh Y = []
  · refine vx_ofW (cc := q_b Y) (maxL := q_n Y) (ret := q_rt Y) hok.1 (ws' := q_tw) (by unfold q_ws q_cd; rw [if_pos hh]) ?_
    intro p e st m args below meth cd s₁ B9 hml hno hP
    refine main p e st m args below meth cd s₁ B9 hml ?_ hP
    rw [hh]
    exact List.eq_nil_iff_forall_not_mem.mpr hno
  · refine vx_ofWH (hh := q_hh Y) (cc := q_b Y) (maxL := q_n Y) (ret := q_rt Y) hok.1 (ws' := q_tw) (by unfold q_ws q_cd; rw [if_neg hh]) ?_
    intro p e st m args below meth cd s₁ B9 hml hP
    refine main p e st m args below meth cd s₁ B9 hml ?_ hP
    have h1 := atoms_spec (ws := q_ws Y) B9.pre _ List.mem_cons_self
    unfold q_cd at h1
    rw [if_neg hh] at h1
    exact vx_table (x := q_y Y) B9 h1
theorem q_back {p : Program} {l : Launch} {e : Env} {R : Room} {s : State} {m : MethodId} {args : Array Value} {below : List Frame} {meth : Method} {cd : Code} {H : Heap} {locs : List Loc} {cells slots mc ms : Nat} {Qf : State → Prop}
    {D : va_G} {B sb : Nat} {Q : q_Q} {pc : Nat} {arr : Array Slot} {st0 rest : List Value} {a : Array Value}
    (hr : vx_Run p l e R s m args below meth cd H locs cells slots mc ms (F0 m pc arr st0) rest (q_Qc D B sb Q a) (q_Xc D B sb Q) (fun q => B ≤ q)) (hS : va_S (fun q => B ≤ q) s.heap H locs)
    (kx : ∀ (E : String) (ce : Cell) (q9 : Addr) (K : q_K) (v : q_N) (r : q_A) (H1 : Heap) (locs1 : List Loc), Q (.inr E) K v r → q_heap D B sb K v r s H1 → va_S (fun q => B ≤ q) s.heap H1 locs1 → H1[q9]? = some ce → ce.vm = .none → s.vm.findClass E = some ce.cls → vx_W p l e R s m args below meth cd H1 locs1 (cells + mc) (slots + ms) Qf (F0 m pc arr rest) q9)
    (kk : ∀ (ov : Option q_V) (K : q_K) (v : q_N) (r : q_A) (H1 : Heap) (locs1 : List Loc), Q (.inl ov) K v r → q_heap D B sb K v r s H1 → va_S (fun q => B ≤ q) s.heap H1 locs1 → W p l e R s m args below meth cd H1 locs1 (cells + mc) (slots + ms) Qf (F0 m (pc + 3) arr ((ov.map (q_val sb)).toList ++ rest))) :
    W p l e R s m args below meth cd H locs cells slots Qf (F0 m pc arr st0) := by
  intro T hT X
  rcases hr T hT X with ⟨v, st₀, t, T', L, h0, X', hL, e1, e2, ⟨⟨ov, K1, v1, r1, hv, hq, hh⟩, hF⟩, st⟩ | ⟨q, st₀, t, T', L, E, ce, h0, X', hL, e1, e2, ⟨⟨K1, v1, r1, hq, hh⟩, hF⟩, hce, hcv, hcl, st⟩
  · cases hv
    obtain ⟨k1, k2, k3⟩ := vx_keep h0 e1 hS (fun q _ h => h) (fun q h => h) hL hF
    have hal : s.vm.Alike t.vm := by rw [← e2]; exact X'.warmed.alike
    obtain ⟨t2, a1, b1⟩ := kk ov K1 v1 r1 T'.heap (locs ++ L) hq (by rw [e1]; exact q_heap_moved hal.symm hh) k3 T' rfl X'
    exact ⟨t2, st t2 a1, b1⟩
  · obtain ⟨k1, k2, k3⟩ := vx_keep h0 e1 hS (fun q _ h => h) (fun q h => h) hL hF
    have hal : s.vm.Alike t.vm := by rw [← e2]; exact X'.warmed.alike
    obtain ⟨t2, a1, b1⟩ := kx E ce q K1 v1 r1 T'.heap (locs ++ L) hq (by rw [e1]; exact q_heap_moved hal.symm hh) k3 (by rw [e1]; exact hce) hcv hcl T' rfl X'
    exact ⟨t2, st.trans a1, b1⟩
/-- the words of a callee among a caller's -/
theorem q_goodIn {ws : List Cond} (h : ∀ w ∈ ws, w ∈ q_tw) : GoodIn q_tw ws := fun w hw => ⟨h w hw, good_of_word (q_good (h w hw))⟩
theorem q_ws_in {Y : q_X} {n : Nat} (hok : q_ok Y n) : ∀ w ∈ q_ws Y, w ∈ q_tw := by
  intro w hw
  rcases List.mem_cons.mp hw with rfl | hw
  · exact hok.2.2.2.2.1
  · exact hw
theorem q_arity {Y : q_X} {n : Nat} (hok : q_ok Y n) : ∀ sig, parseMethodDescriptor (q_y Y).desc = some sig → n = sig.parameters.length := by
  intro sig h
  have := hok.2.2.2.1
  rw [h] at this
  exact (Option.some.inj this).symm
theorem q_run_thr {st : List q_V} {sb : Nat} : (st.map (q_val sb)).reverse = st.reverse.map (q_val sb) := by rw [List.map_reverse]
theorem q_met0 {l : Launch} {D : va_G} {B sb : Nat} {y : MethodName} {ws : List Cond} {rm : Room} {Pc : Array Value → State → Prop} {Q : q_Q} {mc ms : Nat} (h : vx_Met l y ws rm Pc (q_Qc D B sb Q) (q_Xc D B sb Q) mc ms (fun q => B ≤ q)) (hn : ∀ E K v r, ¬ Q (.inr E) K v r) : Met l y ws rm Pc (q_Qc D B sb Q) mc ms (fun q => B ≤ q) := by
  intro p e ha hc hk s m args below hf happ hP hK
  obtain ⟨n, o, h1, h2, h3, h4⟩ := h p e ha hc hk s m args below hf happ hP hK
  refine ⟨n, o, h1, h2, h3, ?_⟩
  rcases h4 with h4 | ⟨q, -, E, ce, L, ⟨⟨K, v, r, g, -⟩, -⟩, -⟩
  · exact h4
  · exact absurd g (hn E K v r)
theorem q_pre {D : va_G} {B sb : Nat} {K : q_K} {v : q_N} {r : q_A} {as : List q_V} {s0 : State} {H : Heap} {locs : List Loc} (hH : q_heap D B sb K v r s0 H) (hS : va_S (fun q => B ≤ q) s0.heap H locs) (hw : q_wld B s0 s0.heap) (hB : B ≤ s0.heap.size) :
    ∀ U : State, U.heap = H → s0.WarmedH U.vm → q_Pc D B sb K v r as ((as.map (q_val sb)).toArray) U := by
  intro U hU hW
  exact ⟨rfl, by rw [hU]; exact q_heap_moved hW.alike hH, by rw [hU]; exact q_wld_warm hW hS hw, by rw [hU]; exact Nat.le_trans hB hS.1⟩
theorem q_heap_kept {D : va_G} {B sb : Nat} {K : q_K} {v : q_N} {r : q_A} {s t : State} {H H1 : Heap} (hvm : s.vm.Alike t.vm) (h : q_heap D B sb K v r s H) (hq : ∀ q : Nat, q < H.size → H1[q]? = H[q]?) : q_heap D B sb K v r t H1 := by
  obtain ⟨ws, tys, hK, hP, hD, hA, hM, h0, xs, ⟨scr, g1, g2, g3⟩, hxs⟩ := h
  exact ⟨ws, tys, hK.moved hvm, fun k q hk => (hP k q hk).kept (hq _ (vx_lt hP hk)), hD, hA, hM, h0, xs, ⟨scr, by rw [hq sb (Array.getElem?_eq_some_iff.mp g1).1]; exact g1, State.isArrayOf_alike hvm g2, g3⟩, hxs⟩
theorem q_fits : ∀ E ∈ q_exs, Bundle.fit E = true := by decide +kernel
theorem q_fitn : ∀ E ∈ q_exn, Bundle.fit E = true := by decide +kernel
theorem q_cpy {v : q_N} {a b : Nat} {sp dp n : Int} (h1 : 0 ≤ sp) (h2 : 0 ≤ dp) (h3 : 0 ≤ n) : va_cpy (fun j : Nat => Int32.ofInt (v a j)) (fun j : Nat => Int32.ofInt (v b j)) sp.toNat dp.toNat n.toNat = fun j : Nat => Int32.ofInt (q_cp v a sp b dp n b j) := by
  funext k
  unfold va_cpy q_cp
  by_cases h : dp ≤ (k : Int) ∧ (k : Int) < dp + n
  · rw [if_pos ⟨by omega, by omega⟩, if_pos ⟨rfl, h.1, h.2⟩]
    have e : ((sp.toNat + (k - dp.toNat) : Nat) : Int) = sp + ((k : Int) - dp) := by omega
    show Int32.ofInt (v a ((sp.toNat + (k - dp.toNat) : Nat) : Int)) = _
    rw [e]
  · rw [if_neg (by omega), if_neg (by intro g; exact h g.2)]
theorem q_cp_o {v : q_N} {a b x : Nat} {sp dp n : Int} (h : x ≠ b) : q_cp v a sp b dp n x = v x := by funext j; simp [q_cp, h]

theorem so_iconst : ru_iconst (q_C l D B sb) := by
  intro X pc ls st K v r c s Q n d k1 p e R s0 m args below meth cd H locs cells slots arr C9 hH9 hS9 hl9 hc9 hs9
  exact lv_iconst C9.1 C9.2.1 d rfl (k1  p e R s0 m args below meth cd H locs cells slots arr C9 hH9 hS9 hl9 hc9 hs9)
theorem so_bipush : ru_bipush (q_C l D B sb) := by
  intro X pc ls st K v r c s Q n d hn k1 p e R s0 m args below meth cd H locs cells slots arr C9 hH9 hS9 hl9 hc9 hs9
  exact lv_bipush C9.1 C9.2.1 d (Int8.toInt32_ofInt (by have := hn.1; rw [q_mn8]; omega) (by have := hn.2; rw [q_mx8]; omega)) (k1  p e R s0 m args below meth cd H locs cells slots arr C9 hH9 hS9 hl9 hc9 hs9)
theorem so_sipush : ru_sipush (q_C l D B sb) := by
  intro X pc ls st K v r c s Q n d hn k1 p e R s0 m args below meth cd H locs cells slots arr C9 hH9 hS9 hl9 hc9 hs9
  exact lv_sipush C9.1 C9.2.1 d (Int16.toInt32_ofInt (by have := hn.1; rw [q_mn16]; omega) (by have := hn.2; rw [q_mx16]; omega)) (k1  p e R s0 m args below meth cd H locs cells slots arr C9 hH9 hS9 hl9 hc9 hs9)
theorem so_lconst : ru_lconst (q_C l D B sb) := by
  intro X pc ls st K v r c s Q n z d hn k1 p e R s0 m args below meth cd H locs cells slots arr C9 hH9 hS9 hl9 hc9 hs9
  subst hn
  exact lv_lconst C9.1 C9.2.1 d rfl (k1  p e R s0 m args below meth cd H locs cells slots arr C9 hH9 hS9 hl9 hc9 hs9)
theorem so_ldc2 : ru_ldc2 (q_C l D B sb) := by
  intro X pc ls st K v r c s Q i z d hw k1 p e R s0 m args below meth cd H locs cells slots arr C9 hH9 hS9 hl9 hc9 hs9
  exact lv_ldc2 C9.1 C9.2.1 C9.2.2.2.2.1 (C9.2.2.2.2.2.1 _ hw) d (k1  p e R s0 m args below meth cd H locs cells slots arr C9 hH9 hS9 hl9 hc9 hs9)
theorem so_iload_n : ru_iload_n (q_C l D B sb) := by
  intro X pc ls st K v r c s Q k z d hl k1 p e R s0 m args below meth cd H locs cells slots arr C9 hH9 hS9 hl9 hc9 hs9
  exact lv_iload_n C9.1 C9.2.1 d rfl (hl9.2.2 _ _ hl) (k1  p e R s0 m args below meth cd H locs cells slots arr C9 hH9 hS9 hl9 hc9 hs9)
theorem so_iload : ru_iload (q_C l D B sb) := by
  intro X pc ls st K v r c s Q i z d hl k1 p e R s0 m args below meth cd H locs cells slots arr C9 hH9 hS9 hl9 hc9 hs9
  exact lv_iload C9.1 C9.2.1 d (hl9.2.2 _ _ hl) (k1  p e R s0 m args below meth cd H locs cells slots arr C9 hH9 hS9 hl9 hc9 hs9)
theorem so_aload_n : ru_aload_n (q_C l D B sb) := by
  intro X pc ls st K v r c s Q k z d hl k1 p e R s0 m args below meth cd H locs cells slots arr C9 hH9 hS9 hl9 hc9 hs9
  exact lv_aload_n C9.1 C9.2.1 d rfl (hl9.2.2 _ _ hl) (k1  p e R s0 m args below meth cd H locs cells slots arr C9 hH9 hS9 hl9 hc9 hs9)
theorem so_aload : ru_aload (q_C l D B sb) := by
  intro X pc ls st K v r c s Q i z d hl k1 p e R s0 m args below meth cd H locs cells slots arr C9 hH9 hS9 hl9 hc9 hs9
  exact lv_aload C9.1 C9.2.1 d (hl9.2.2 _ _ hl) (k1  p e R s0 m args below meth cd H locs cells slots arr C9 hH9 hS9 hl9 hc9 hs9)
theorem so_lload_n : ru_lload_n (q_C l D B sb) := by
  intro X pc ls st K v r c s Q k z d hl k1 p e R s0 m args below meth cd H locs cells slots arr C9 hH9 hS9 hl9 hc9 hs9
  exact lv_lload_n C9.1 C9.2.1 d rfl (hl9.2.2 _ _ hl) (k1  p e R s0 m args below meth cd H locs cells slots arr C9 hH9 hS9 hl9 hc9 hs9)
theorem so_lload : ru_lload (q_C l D B sb) := by
  intro X pc ls st K v r c s Q i z d hl k1 p e R s0 m args below meth cd H locs cells slots arr C9 hH9 hS9 hl9 hc9 hs9
  exact lv_lload C9.1 C9.2.1 d (hl9.2.2 _ _ hl) (k1  p e R s0 m args below meth cd H locs cells slots arr C9 hH9 hS9 hl9 hc9 hs9)
theorem so_istore_n : ru_istore_n (q_C l D B sb) := by
  intro X pc ls st K v r c s Q k z ls2 d hn hl k1 p e R s0 m args below meth cd H locs cells slots arr C9 hH9 hS9 hl9 hc9 hs9
  subst hl
  exact lv_istore_n C9.1 C9.2.1 d rfl (q_loc_has hl9) hn rfl (fun arr2 hl2 => k1  p e R s0 m args below meth cd H locs cells slots arr2 C9 hH9 hS9 (q_loc_set rfl hl2) hc9 hs9)
theorem so_istore : ru_istore (q_C l D B sb) := by
  intro X pc ls st K v r c s Q i z ls2 d hn hl k1 p e R s0 m args below meth cd H locs cells slots arr C9 hH9 hS9 hl9 hc9 hs9
  subst hl
  exact lv_istore C9.1 C9.2.1 d (q_loc_has hl9) hn rfl (fun arr2 hl2 => k1  p e R s0 m args below meth cd H locs cells slots arr2 C9 hH9 hS9 (q_loc_set rfl hl2) hc9 hs9)
theorem so_astore_n : ru_astore_n (q_C l D B sb) := by
  intro X pc ls st K v r c s Q k z ls2 d hn hl k1 p e R s0 m args below meth cd H locs cells slots arr C9 hH9 hS9 hl9 hc9 hs9
  subst hl
  exact lv_astore_n C9.1 C9.2.1 d rfl (q_loc_has hl9) hn rfl (fun arr2 hl2 => k1  p e R s0 m args below meth cd H locs cells slots arr2 C9 hH9 hS9 (q_loc_set rfl hl2) hc9 hs9)
theorem so_astore : ru_astore (q_C l D B sb) := by
  intro X pc ls st K v r c s Q i z ls2 d hn hl k1 p e R s0 m args below meth cd H locs cells slots arr C9 hH9 hS9 hl9 hc9 hs9
  subst hl
  exact lv_astore C9.1 C9.2.1 d (q_loc_has hl9) hn rfl (fun arr2 hl2 => k1  p e R s0 m args below meth cd H locs cells slots arr2 C9 hH9 hS9 (q_loc_set rfl hl2) hc9 hs9)
theorem so_lstore_n : ru_lstore_n (q_C l D B sb) := by
  intro X pc ls st K v r c s Q k z ls2 d hn hl k1 p e R s0 m args below meth cd H locs cells slots arr C9 hH9 hS9 hl9 hc9 hs9
  subst hl
  exact lv_lstore_n C9.1 C9.2.1 d rfl (q_loc_has hl9) hn rfl (fun arr2 hl2 => k1  p e R s0 m args below meth cd H locs cells slots arr2 C9 hH9 hS9 (q_loc_setL rfl hl2) hc9 hs9)
theorem so_iinc : ru_iinc (q_C l D B sb) := by
  intro X pc ls st K v r c s Q i n z ls2 d hi hn hl k1 p e R s0 m args below meth cd H locs cells slots arr C9 hH9 hS9 hl9 hc9 hs9
  subst hl
  obtain ⟨kk, hkk⟩ := List.getElem?_of_mem (q_lv_mem.mpr ⟨_, hi, rfl⟩ : (i, q_val sb (q_I z)) ∈ q_lv sb ls)
  exact lv_iinc C9.1 C9.2.1 d (q_loc_has hl9) hkk (Int32.ofInt_add z n).symm hn rfl (fun arr2 hl2 => k1  p e R s0 m args below meth cd H locs cells slots arr2 C9 hH9 hS9 (q_loc_set rfl hl2) hc9 hs9)
theorem so_iadd : ru_iadd (q_C l D B sb) := by
  intro X pc ls st K v r c s Q x y d k1 p e R s0 m args below meth cd H locs cells slots arr C9 hH9 hS9 hl9 hc9 hs9
  refine lv_iadd C9.1 C9.2.1 d ?_
  rw [← Int32.ofInt_add]
  exact k1  p e R s0 m args below meth cd H locs cells slots arr C9 hH9 hS9 hl9 hc9 hs9
theorem so_isub : ru_isub (q_C l D B sb) := by
  intro X pc ls st K v r c s Q x y d k1 p e R s0 m args below meth cd H locs cells slots arr C9 hH9 hS9 hl9 hc9 hs9
  refine lv_isub C9.1 C9.2.1 d ?_
  rw [← Int32.ofInt_sub]
  exact k1  p e R s0 m args below meth cd H locs cells slots arr C9 hH9 hS9 hl9 hc9 hs9
theorem so_imul : ru_imul (q_C l D B sb) := by
  intro X pc ls st K v r c s Q x y d k1 p e R s0 m args below meth cd H locs cells slots arr C9 hH9 hS9 hl9 hc9 hs9
  refine lv_imul C9.1 C9.2.1 d ?_
  rw [← Int32.ofInt_mul]
  exact k1  p e R s0 m args below meth cd H locs cells slots arr C9 hH9 hS9 hl9 hc9 hs9
theorem so_idiv : ru_idiv (q_C l D B sb) := by
  intro X pc ls st K v r c s Q x y d hx hy k1 p e R s0 m args below meth cd H locs cells slots arr C9 hH9 hS9 hl9 hc9 hs9
  have e0 : Int32.ofInt (x / y) = Int32.ofInt x / Int32.ofInt y := by
    rw [← Int.tdiv_eq_ediv_of_nonneg hx.1]
    exact Int32.ofInt_tdiv (by have := hx.1; rw [q_mnInt32]; omega) (by have := hx.2; rw [q_mxInt32]; omega) (by have := hy.1; rw [q_mnInt32]; omega) (by have := hy.2; rw [q_mxInt32]; omega)
  have e1 := e0
  refine lv_idiv C9.1 C9.2.1 d ?_ ?_
  · intro h0
    have := congrArg Int32.toInt h0
    rw [q_i32 ⟨by have := hy.1; omega, hy.2⟩] at this
    have h00 : (Int32.toInt 0) = 0 := by decide
    rw [h00] at this
    have := hy.1
    omega
  · rw [← e1]
    exact k1  p e R s0 m args below meth cd H locs cells slots arr C9 hH9 hS9 hl9 hc9 hs9
theorem so_irem : ru_irem (q_C l D B sb) := by
  intro X pc ls st K v r c s Q x y d hx hy k1 p e R s0 m args below meth cd H locs cells slots arr C9 hH9 hS9 hl9 hc9 hs9
  have e0 : Int32.ofInt (x / y) = Int32.ofInt x / Int32.ofInt y := by
    rw [← Int.tdiv_eq_ediv_of_nonneg hx.1]
    exact Int32.ofInt_tdiv (by have := hx.1; rw [q_mnInt32]; omega) (by have := hx.2; rw [q_mxInt32]; omega) (by have := hy.1; rw [q_mnInt32]; omega) (by have := hy.2; rw [q_mxInt32]; omega)
  have e1 : Int32.ofInt (x % y) = Int32.ofInt x - Int32.ofInt x / Int32.ofInt y * Int32.ofInt y := by rw [← e0, ← Int32.ofInt_mul, ← Int32.ofInt_sub, Int.emod_def, Int.mul_comm]
  refine lv_irem C9.1 C9.2.1 d ?_ ?_
  · intro h0
    have := congrArg Int32.toInt h0
    rw [q_i32 ⟨by have := hy.1; omega, hy.2⟩] at this
    have h00 : (Int32.toInt 0) = 0 := by decide
    rw [h00] at this
    have := hy.1
    omega
  · rw [← e1]
    exact k1  p e R s0 m args below meth cd H locs cells slots arr C9 hH9 hS9 hl9 hc9 hs9
theorem so_iand63 : ru_iand63 (q_C l D B sb) := by
  intro X pc ls st K v r c s Q x y d hy hx k1 p e R s0 m args below meth cd H locs cells slots arr C9 hH9 hS9 hl9 hc9 hs9
  have e1 : Int32.ofInt (x % 64) = Int32.ofInt x &&& Int32.ofInt y := by
    subst hy
    exact q_and63 hx
  refine lv_iand C9.1 C9.2.1 d ?_
  rw [← e1]
  exact k1  p e R s0 m args below meth cd H locs cells slots arr C9 hH9 hS9 hl9 hc9 hs9
theorem so_ladd : ru_ladd (q_C l D B sb) := by
  intro X pc ls st K v r c s Q x y d k1 p e R s0 m args below meth cd H locs cells slots arr C9 hH9 hS9 hl9 hc9 hs9
  refine lv_ladd C9.1 C9.2.1 d ?_
  rw [← Int64.ofInt_add]
  exact k1  p e R s0 m args below meth cd H locs cells slots arr C9 hH9 hS9 hl9 hc9 hs9
theorem so_lmul : ru_lmul (q_C l D B sb) := by
  intro X pc ls st K v r c s Q x y d k1 p e R s0 m args below meth cd H locs cells slots arr C9 hH9 hS9 hl9 hc9 hs9
  refine lv_lmul C9.1 C9.2.1 d ?_
  rw [← Int64.ofInt_mul]
  exact k1  p e R s0 m args below meth cd H locs cells slots arr C9 hH9 hS9 hl9 hc9 hs9
theorem so_ldiv : ru_ldiv (q_C l D B sb) := by
  intro X pc ls st K v r c s Q x y d hx hy k1 p e R s0 m args below meth cd H locs cells slots arr C9 hH9 hS9 hl9 hc9 hs9
  have e0 : Int64.ofInt (x / y) = Int64.ofInt x / Int64.ofInt y := by
    rw [← Int.tdiv_eq_ediv_of_nonneg hx.1]
    exact Int64.ofInt_tdiv (by have := hx.1; rw [q_mnInt64]; omega) (by have := hx.2; rw [q_mxInt64]; omega) (by have := hy.1; rw [q_mnInt64]; omega) (by have := hy.2; rw [q_mxInt64]; omega)
  have e1 := e0
  refine lv_ldiv C9.1 C9.2.1 d ?_ ?_
  · intro h0
    have := congrArg Int64.toInt h0
    rw [q_i64 ⟨by have := hy.1; omega, hy.2⟩] at this
    have h00 : (Int64.toInt 0) = 0 := by decide
    rw [h00] at this
    have := hy.1
    omega
  · rw [← e1]
    exact k1  p e R s0 m args below meth cd H locs cells slots arr C9 hH9 hS9 hl9 hc9 hs9
theorem so_lrem : ru_lrem (q_C l D B sb) := by
  intro X pc ls st K v r c s Q x y d hx hy k1 p e R s0 m args below meth cd H locs cells slots arr C9 hH9 hS9 hl9 hc9 hs9
  have e0 : Int64.ofInt (x / y) = Int64.ofInt x / Int64.ofInt y := by
    rw [← Int.tdiv_eq_ediv_of_nonneg hx.1]
    exact Int64.ofInt_tdiv (by have := hx.1; rw [q_mnInt64]; omega) (by have := hx.2; rw [q_mxInt64]; omega) (by have := hy.1; rw [q_mnInt64]; omega) (by have := hy.2; rw [q_mxInt64]; omega)
  have e1 : Int64.ofInt (x % y) = Int64.ofInt x - Int64.ofInt x / Int64.ofInt y * Int64.ofInt y := by rw [← e0, ← Int64.ofInt_mul, ← Int64.ofInt_sub, Int.emod_def, Int.mul_comm]
  refine lv_lrem C9.1 C9.2.1 d ?_ ?_
  · intro h0
    have := congrArg Int64.toInt h0
    rw [q_i64 ⟨by have := hy.1; omega, hy.2⟩] at this
    have h00 : (Int64.toInt 0) = 0 := by decide
    rw [h00] at this
    have := hy.1
    omega
  · rw [← e1]
    exact k1  p e R s0 m args below meth cd H locs cells slots arr C9 hH9 hS9 hl9 hc9 hs9
theorem so_lcmp : ru_lcmp (q_C l D B sb) := by
  intro X pc ls st K v r c s Q x y d hx hy k1 p e R s0 m args below meth cd H locs cells slots arr C9 hH9 hS9 hl9 hc9 hs9
  have e1 : lg_cmp (Int64.ofInt x) (Int64.ofInt y) = Int32.ofInt (q_cmp x y) := by
    have e2 : Int64.ofInt x > Int64.ofInt y ↔ y < x := by show Int64.ofInt y < Int64.ofInt x ↔ _; rw [Int64.lt_iff_toInt_lt, q_i64 hx, q_i64 hy]
    have e3 : Int64.ofInt x = Int64.ofInt y ↔ x = y := ⟨fun h => by have := congrArg Int64.toInt h; rwa [q_i64 hx, q_i64 hy] at this, fun h => by rw [h]⟩
    unfold lg_cmp q_cmp
    by_cases h1 : x < y
    · rw [if_neg (by rw [e2]; omega), if_neg (by rw [e3]; omega), if_pos h1]; rfl
    · by_cases h2 : x = y
      · rw [if_neg (by rw [e2]; omega), if_pos (e3.mpr h2), if_neg h1, if_pos h2]; rfl
      · rw [if_pos (e2.mpr (by omega)), if_neg h1, if_neg h2]; rfl
  refine W.lcmp C9.1 C9.2.1 d ?_
  rw [e1]
  exact k1  p e R s0 m args below meth cd H locs cells slots arr C9 hH9 hS9 hl9 hc9 hs9
theorem so_i2l : ru_i2l (q_C l D B sb) := by
  intro X pc ls st K v r c s Q x d hx k1 p e R s0 m args below meth cd H locs cells slots arr C9 hH9 hS9 hl9 hc9 hs9
  exact lv_i2l C9.1 C9.2.1 d (by apply Int64.toInt_inj.mp; rw [Int32.toInt_toInt64, q_i32 hx, q_i64 ⟨by have := hx.1; omega, by have := hx.2; omega⟩]) (k1  p e R s0 m args below meth cd H locs cells slots arr C9 hH9 hS9 hl9 hc9 hs9)
theorem so_l2i : ru_l2i (q_C l D B sb) := by
  intro X pc ls st K v r c s Q x d k1 p e R s0 m args below meth cd H locs cells slots arr C9 hH9 hS9 hl9 hc9 hs9
  exact lv_l2i C9.1 C9.2.1 d Int64.toInt32_ofInt (k1  p e R s0 m args below meth cd H locs cells slots arr C9 hH9 hS9 hl9 hc9 hs9)
theorem so_if_eq : ru_if_eq (q_C l D B sb) := by
  intro X pc ls st K v r c s Q x off tgt d ht hx k1 k2 p e R s0 m args below meth cd H locs cells slots arr C9 hH9 hS9 hl9 hc9 hs9
  exact lv_if_eq C9.1 C9.2.1 d ht (fun h => k1 ((q_eq32 hx q_zero).mp h) p e R s0 m args below meth cd H locs cells slots arr C9 hH9 hS9 hl9 hc9 hs9) (fun h => k2 (fun g => h ((q_eq32 hx q_zero).mpr g)) p e R s0 m args below meth cd H locs cells slots arr C9 hH9 hS9 hl9 hc9 hs9)
theorem so_icmp_eq : ru_icmp_eq (q_C l D B sb) := by
  intro X pc ls st K v r c s Q x y off tgt d ht hx hy k1 k2 p e R s0 m args below meth cd H locs cells slots arr C9 hH9 hS9 hl9 hc9 hs9
  exact lv_icmp_eq C9.1 C9.2.1 d ht (fun h => k1 ((q_eq32 hx hy).mp h) p e R s0 m args below meth cd H locs cells slots arr C9 hH9 hS9 hl9 hc9 hs9) (fun h => k2 (fun g => h ((q_eq32 hx hy).mpr g)) p e R s0 m args below meth cd H locs cells slots arr C9 hH9 hS9 hl9 hc9 hs9)
theorem so_if_ne : ru_if_ne (q_C l D B sb) := by
  intro X pc ls st K v r c s Q x off tgt d ht hx k1 k2 p e R s0 m args below meth cd H locs cells slots arr C9 hH9 hS9 hl9 hc9 hs9
  exact lv_if_ne C9.1 C9.2.1 d ht (fun h => k1 (fun g => h ((q_eq32 hx q_zero).mpr g)) p e R s0 m args below meth cd H locs cells slots arr C9 hH9 hS9 hl9 hc9 hs9) (fun h => k2 ((q_eq32 hx q_zero).mp h) p e R s0 m args below meth cd H locs cells slots arr C9 hH9 hS9 hl9 hc9 hs9)
theorem so_icmp_ne : ru_icmp_ne (q_C l D B sb) := by
  intro X pc ls st K v r c s Q x y off tgt d ht hx hy k1 k2 p e R s0 m args below meth cd H locs cells slots arr C9 hH9 hS9 hl9 hc9 hs9
  exact lv_icmp_ne C9.1 C9.2.1 d ht (fun h => k1 (fun g => h ((q_eq32 hx hy).mpr g)) p e R s0 m args below meth cd H locs cells slots arr C9 hH9 hS9 hl9 hc9 hs9) (fun h => k2 ((q_eq32 hx hy).mp h) p e R s0 m args below meth cd H locs cells slots arr C9 hH9 hS9 hl9 hc9 hs9)
theorem so_if_lt : ru_if_lt (q_C l D B sb) := by
  intro X pc ls st K v r c s Q x off tgt d ht hx k1 k2 p e R s0 m args below meth cd H locs cells slots arr C9 hH9 hS9 hl9 hc9 hs9
  exact lv_if_lt C9.1 C9.2.1 d ht (fun h => k1 ((q_lt32 hx q_zero).mp h) p e R s0 m args below meth cd H locs cells slots arr C9 hH9 hS9 hl9 hc9 hs9) (fun h => k2 (fun g => h ((q_lt32 hx q_zero).mpr g)) p e R s0 m args below meth cd H locs cells slots arr C9 hH9 hS9 hl9 hc9 hs9)
theorem so_icmp_lt : ru_icmp_lt (q_C l D B sb) := by
  intro X pc ls st K v r c s Q x y off tgt d ht hx hy k1 k2 p e R s0 m args below meth cd H locs cells slots arr C9 hH9 hS9 hl9 hc9 hs9
  exact lv_icmp_lt C9.1 C9.2.1 d ht (fun h => k1 ((q_lt32 hx hy).mp h) p e R s0 m args below meth cd H locs cells slots arr C9 hH9 hS9 hl9 hc9 hs9) (fun h => k2 (fun g => h ((q_lt32 hx hy).mpr g)) p e R s0 m args below meth cd H locs cells slots arr C9 hH9 hS9 hl9 hc9 hs9)
theorem so_if_ge : ru_if_ge (q_C l D B sb) := by
  intro X pc ls st K v r c s Q x off tgt d ht hx k1 k2 p e R s0 m args below meth cd H locs cells slots arr C9 hH9 hS9 hl9 hc9 hs9
  exact lv_if_ge C9.1 C9.2.1 d ht (fun h => k1 ((q_le32 q_zero hx).mp h) p e R s0 m args below meth cd H locs cells slots arr C9 hH9 hS9 hl9 hc9 hs9) (fun h => k2 (fun g => h ((q_le32 q_zero hx).mpr g)) p e R s0 m args below meth cd H locs cells slots arr C9 hH9 hS9 hl9 hc9 hs9)
theorem so_icmp_ge : ru_icmp_ge (q_C l D B sb) := by
  intro X pc ls st K v r c s Q x y off tgt d ht hx hy k1 k2 p e R s0 m args below meth cd H locs cells slots arr C9 hH9 hS9 hl9 hc9 hs9
  exact lv_icmp_ge C9.1 C9.2.1 d ht (fun h => k1 ((q_le32 hy hx).mp h) p e R s0 m args below meth cd H locs cells slots arr C9 hH9 hS9 hl9 hc9 hs9) (fun h => k2 (fun g => h ((q_le32 hy hx).mpr g)) p e R s0 m args below meth cd H locs cells slots arr C9 hH9 hS9 hl9 hc9 hs9)
theorem so_if_gt : ru_if_gt (q_C l D B sb) := by
  intro X pc ls st K v r c s Q x off tgt d ht hx k1 k2 p e R s0 m args below meth cd H locs cells slots arr C9 hH9 hS9 hl9 hc9 hs9
  exact lv_if_gt C9.1 C9.2.1 d ht (fun h => k1 ((q_lt32 q_zero hx).mp h) p e R s0 m args below meth cd H locs cells slots arr C9 hH9 hS9 hl9 hc9 hs9) (fun h => k2 (fun g => h ((q_lt32 q_zero hx).mpr g)) p e R s0 m args below meth cd H locs cells slots arr C9 hH9 hS9 hl9 hc9 hs9)
theorem so_icmp_gt : ru_icmp_gt (q_C l D B sb) := by
  intro X pc ls st K v r c s Q x y off tgt d ht hx hy k1 k2 p e R s0 m args below meth cd H locs cells slots arr C9 hH9 hS9 hl9 hc9 hs9
  exact lv_icmp_gt C9.1 C9.2.1 d ht (fun h => k1 ((q_lt32 hy hx).mp h) p e R s0 m args below meth cd H locs cells slots arr C9 hH9 hS9 hl9 hc9 hs9) (fun h => k2 (fun g => h ((q_lt32 hy hx).mpr g)) p e R s0 m args below meth cd H locs cells slots arr C9 hH9 hS9 hl9 hc9 hs9)
theorem so_if_le : ru_if_le (q_C l D B sb) := by
  intro X pc ls st K v r c s Q x off tgt d ht hx k1 k2 p e R s0 m args below meth cd H locs cells slots arr C9 hH9 hS9 hl9 hc9 hs9
  exact lv_if_le C9.1 C9.2.1 d ht (fun h => k1 ((q_le32 hx q_zero).mp h) p e R s0 m args below meth cd H locs cells slots arr C9 hH9 hS9 hl9 hc9 hs9) (fun h => k2 (fun g => h ((q_le32 hx q_zero).mpr g)) p e R s0 m args below meth cd H locs cells slots arr C9 hH9 hS9 hl9 hc9 hs9)
theorem so_icmp_le : ru_icmp_le (q_C l D B sb) := by
  intro X pc ls st K v r c s Q x y off tgt d ht hx hy k1 k2 p e R s0 m args below meth cd H locs cells slots arr C9 hH9 hS9 hl9 hc9 hs9
  exact lv_icmp_le C9.1 C9.2.1 d ht (fun h => k1 ((q_le32 hx hy).mp h) p e R s0 m args below meth cd H locs cells slots arr C9 hH9 hS9 hl9 hc9 hs9) (fun h => k2 (fun g => h ((q_le32 hx hy).mpr g)) p e R s0 m args below meth cd H locs cells slots arr C9 hH9 hS9 hl9 hc9 hs9)
theorem so_icmp_geA : ru_icmp_geA (q_C l D B sb) := by
  intro X pc ls st K v r c s Q x y off tgt d ht k1 k2 p e R s0 m args below meth cd H locs cells slots arr C9 hH9 hS9 hl9 hc9 hs9
  exact lv_icmp_ge C9.1 C9.2.1 d ht (fun _ => k1  p e R s0 m args below meth cd H locs cells slots arr C9 hH9 hS9 hl9 hc9 hs9) (fun _ => k2  p e R s0 m args below meth cd H locs cells slots arr C9 hH9 hS9 hl9 hc9 hs9)
theorem so_goto : ru_goto (q_C l D B sb) := by
  intro X pc ls st K v r c s Q off tgt d ht k1 p e R s0 m args below meth cd H locs cells slots arr C9 hH9 hS9 hl9 hc9 hs9
  exact lv_goto C9.1 C9.2.1 d ht (k1  p e R s0 m args below meth cd H locs cells slots arr C9 hH9 hS9 hl9 hc9 hs9)
theorem so_tsIn : ru_tsIn (q_C l D B sb) := by
  intro X pc ls st K v r c s Q dflt lo hi offs len x off j tgt d hx hj hh ho ht k1 p e R s0 m args below meth cd H locs cells slots arr C9 hH9 hS9 hl9 hc9 hs9
  exact lv_tableIn C9.1 C9.2.1 d (by rw [q_i32 hx]; omega) (by rw [q_i32 hx]; omega) (by rw [q_i32 hx, hj]; rw [show (lo + (j : Int) - lo).toNat = j by omega]; exact ho) ht (k1  p e R s0 m args below meth cd H locs cells slots arr C9 hH9 hS9 hl9 hc9 hs9)
theorem so_tsOut : ru_tsOut (q_C l D B sb) := by
  intro X pc ls st K v r c s Q dflt lo hi offs len x tgt d hx hh ht k1 p e R s0 m args below meth cd H locs cells slots arr C9 hH9 hS9 hl9 hc9 hs9
  exact lv_tableOut C9.1 C9.2.1 d (by rw [q_i32 hx]; exact hh) ht (k1  p e R s0 m args below meth cd H locs cells slots arr C9 hH9 hS9 hl9 hc9 hs9)
theorem so_dup : ru_dup (q_C l D B sb) := by
  intro X pc ls st K v r c s Q x d hc k1 p e R s0 m args below meth cd H locs cells slots arr C9 hH9 hS9 hl9 hc9 hs9
  exact lv_dup C9.1 C9.2.1 d (q_cat_val.trans hc) (k1  p e R s0 m args below meth cd H locs cells slots arr C9 hH9 hS9 hl9 hc9 hs9)
theorem so_dup2 : ru_dup2 (q_C l D B sb) := by
  intro X pc ls st K v r c s Q x y d hx hy k1 p e R s0 m args below meth cd H locs cells slots arr C9 hH9 hS9 hl9 hc9 hs9
  exact lv_dup2_11 C9.1 C9.2.1 d (q_cat_val.trans hx) (q_cat_val.trans hy) (k1  p e R s0 m args below meth cd H locs cells slots arr C9 hH9 hS9 hl9 hc9 hs9)
theorem so_pop : ru_pop (q_C l D B sb) := by
  intro X pc ls st K v r c s Q x d hc k1 p e R s0 m args below meth cd H locs cells slots arr C9 hH9 hS9 hl9 hc9 hs9
  exact lv_pop C9.1 C9.2.1 d (q_cat_val.trans hc) (k1  p e R s0 m args below meth cd H locs cells slots arr C9 hH9 hS9 hl9 hc9 hs9)
theorem so_getI : ru_getI (q_C l D B sb) := by
  intro X pc ls st K v r c s Q a idx ci t j fin d hf ht hk k1 p e R s0 m args below meth cd H locs cells slots arr C9 hH9 hS9 hl9 hc9 hs9
  obtain ⟨ws, tys, hK, hP, hD, hA, hM, h0, xs, hX, hxs⟩ := id hH9
  obtain ⟨hx8, hb8, hml8, hrt8, hown8, htw8, hlk8, hnm8, htab8, hw8, hB8, hBs8, hRf8, hRl8, hsb8, hst8⟩ := id C9
  obtain ⟨C, T, N, tyf, kk, ⟨hc1, hc2, hc3, hc4, hc5, hc6, hc7, hc8⟩, rfl, hk2, hk3, hk4, hk5⟩ := hf
  obtain ⟨hlen, q0, ee, hq0, hrel⟩ := hA a (by omega)
  have he := q_rel_obj hrel hk hc8
  subst he
  have ha : a ≠ 0 := fun e => by rw [e, h0] at hk; omega
  have hksz : kk < q_sz ci := by omega
  have hv : (q_ob ci (v a) (r a))[kk]? = some (.int (Int32.ofInt (v a kk))) := by
    rw [q_ob_get hksz]
    rcases ht with ht | ht <;> (subst ht; simp only [q_fv, hk3])
  rw [List.map_cons, q_valR ha]
  exact va_get hx8 hb8 (Ts := q_tw) htw8 hc2 hown8 hK hP q0 hq0 hc1 kk hk2 (htw8 _ hk4) (fun _ h => h) hv d (k1  p e R s0 m args below meth cd H locs cells slots arr C9 hH9 hS9 hl9 hc9 hs9)
theorem so_getL : ru_getL (q_C l D B sb) := by
  intro X pc ls st K v r c s Q a idx ci j fin d hf hk k1 p e R s0 m args below meth cd H locs cells slots arr C9 hH9 hS9 hl9 hc9 hs9
  obtain ⟨ws, tys, hK, hP, hD, hA, hM, h0, xs, hX, hxs⟩ := id hH9
  obtain ⟨hx8, hb8, hml8, hrt8, hown8, htw8, hlk8, hnm8, htab8, hw8, hB8, hBs8, hRf8, hRl8, hsb8, hst8⟩ := id C9
  obtain ⟨C, T, N, tyf, kk, ⟨hc1, hc2, hc3, hc4, hc5, hc6, hc7, hc8⟩, rfl, hk2, hk3, hk4, hk5⟩ := hf
  obtain ⟨hlen, q0, ee, hq0, hrel⟩ := hA a (by omega)
  have he := q_rel_obj hrel hk hc8
  subst he
  have ha : a ≠ 0 := fun e => by rw [e, h0] at hk; omega
  have hksz : kk < q_sz ci := by omega
  have hv : (q_ob ci (v a) (r a))[kk]? = some (.long (Int64.ofInt (v a kk))) := by
    rw [q_ob_get hksz]
    simp only [q_fv, hk3]
  rw [List.map_cons, q_valR ha]
  exact va_get hx8 hb8 (Ts := q_tw) htw8 hc2 hown8 hK hP q0 hq0 hc1 kk hk2 (htw8 _ hk4) (fun _ h => h) hv d (k1  p e R s0 m args below meth cd H locs cells slots arr C9 hH9 hS9 hl9 hc9 hs9)
theorem so_getR : ru_getR (q_C l D B sb) := by
  intro X pc ls st K v r c s Q a idx ci j fin d hf hk hn k1 p e R s0 m args below meth cd H locs cells slots arr C9 hH9 hS9 hl9 hc9 hs9
  obtain ⟨ws, tys, hK, hP, hD, hA, hM, h0, xs, hX, hxs⟩ := id hH9
  obtain ⟨hx8, hb8, hml8, hrt8, hown8, htw8, hlk8, hnm8, htab8, hw8, hB8, hBs8, hRf8, hRl8, hsb8, hst8⟩ := id C9
  obtain ⟨C, T, N, tyf, kk, ⟨hc1, hc2, hc3, hc4, hc5, hc6, hc7, hc8⟩, rfl, hk2, hk3, hk4, hk5⟩ := hf
  obtain ⟨hlen, q0, ee, hq0, hrel⟩ := hA a (by omega)
  have he := q_rel_obj hrel hk hc8
  subst he
  have ha : a ≠ 0 := fun e => by rw [e, h0] at hk; omega
  have hksz : kk < q_sz ci := by omega
  have hv : (q_ob ci (v a) (r a))[kk]? = some (q_val sb (q_R (r a kk))) := by
    rw [q_ob_get hksz]
    have hr0 : r a kk ≠ 0 := fun e => hn (by rw [e]; exact h0)
    rw [q_valR hr0]
    simp only [q_fv, hk3, if_neg hr0, va_rf]
  rw [List.map_cons, q_valR ha]
  exact va_get hx8 hb8 (Ts := q_tw) htw8 hc2 hown8 hK hP q0 hq0 hc1 kk hk2 (htw8 _ hk4) (fun _ h => h) hv d (k1  p e R s0 m args below meth cd H locs cells slots arr C9 hH9 hS9 hl9 hc9 hs9)
theorem so_putI : ru_putI (q_C l D B sb) := by
  intro X pc ls st K v r c s Q a idx ci j z fin d hf hfi hk hz k1 p e R s0 m args below meth cd H locs cells slots arr C9 hH9 hS9 hl9 hc9 hs9
  obtain ⟨ws, tys, hK, hP, hD, hA, hM, h0, xs, hX, hxs⟩ := id hH9
  obtain ⟨hx8, hb8, hml8, hrt8, hown8, htw8, hlk8, hnm8, htab8, hw8, hB8, hBs8, hRf8, hRl8, hsb8, hst8⟩ := id C9
  obtain ⟨C, T, N, tyf, kk, ⟨hc1, hc2, hc3, hc4, hc5, hc6, hc7, hc8⟩, rfl, hk2, hk3, hk4, hk5⟩ := hf
  obtain ⟨hlen, q0, ee, hq0, hrel⟩ := hA a (by omega)
  have he := q_rel_obj hrel hk hc8
  subst he
  have ha : a ≠ 0 := fun e => by rw [e, h0] at hk; omega
  have hksz : kk < q_sz ci := by omega
  have hty : tyf kk = .int := q_tyb0 (by have := hc6 kk hk2; rw [hk3] at this; exact this)
  have hfv : .int (Int32.ofInt z) = q_fv ci ((q_up v a kk z) a) (r a) kk := by
    simp [q_fv, hk3, q_up]
  have hoth : ∀ j : Nat, j ≠ kk → (q_up v a kk z) a j = v a j ∧ r a j = r a j := fun j hj => ⟨by simp [q_up]; omega, rfl⟩
  rw [List.map_cons, List.map_cons, q_valR ha]
  have kk9 : ∀ (H1 : Heap) (locs1 : List Loc), va_P D vwCl (ws.set q0 (a, .inr (ci, (q_ob ci (v a) (r a)).set kk (.int (Int32.ofInt z))))) H1 → va_D (fun q => B ≤ q) (ws.set q0 (a, .inr (ci, (q_ob ci (v a) (r a)).set kk (.int (Int32.ofInt z))))) → va_S (fun q => B ≤ q) s0.heap H1 locs1 → W p l e R s0 m args below meth cd H1 locs1 cells slots (vx_MQ below (q_Qc D B sb Q) (q_Xc D B sb Q) args s0 R.cells R.slots (fun q => B ≤ q)) (F0 m (pc + 3) arr (st.map (q_val sb))) :=
    fun H1 locs1 hP1 hD1 hS1 => k1  p e R s0 m args below meth cd H1 locs1 cells slots arr C9 (q_heap_set hK hA h0 hX hxs hq0 ha hP1 hD1 (Or.inl ⟨ci, hk, hc8, by rw [q_ob_set hksz hfv hoth]⟩) (fun b hb => ⟨q_up_o hb, rfl⟩) (q_mem_up hM (q_okm_obj hc8 hk (fun e => by rw [hk3] at e; cases e) (fun _ _ => hz))) (q_sb hS9 hS1 hBs8 hsb8)) hS1 hl9 hc9 hs9
  rcases hfi with hfi | ⟨hfi, T2, N2, hcl2⟩
  · exact va_put hx8 hb8 (Ts := q_tw) htw8 hc2 tyf hc3 hc4 hown8 hK hP hD hS9 q0 hq0 hc1 kk hk2 (htw8 _ hk4) (fun _ h => h) (hk5.trans hfi) (ty := tyf kk) (hc3 kk hk2) (by rw [hty]; rfl) (by rw [hty]; rfl) (by rw [q_ob_len]; exact hksz) d kk9
  · have hown2 : (T kk).1 = (q_y X).cls := by
      rw [hc7 kk hk2]
      have := hc1.symm.trans hcl2
      cases this; rfl
    by_cases hfin : fin = true
    · exact va_putF hx8 hb8 (Ts := q_tw) htw8 hc2 tyf hc3 hc4 hown8 hK hP hD hS9 q0 hq0 hc1 kk hk2 (htw8 _ hk4) (fun _ h => h) (hk5.trans hfin) (hnm8.trans hfi) hown2 (ty := tyf kk) (hc3 kk hk2) (by rw [hty]; rfl) (by rw [hty]; rfl) (by rw [q_ob_len]; exact hksz) d kk9
    · exact va_put hx8 hb8 (Ts := q_tw) htw8 hc2 tyf hc3 hc4 hown8 hK hP hD hS9 q0 hq0 hc1 kk hk2 (htw8 _ hk4) (fun _ h => h) (hk5.trans (by cases fin <;> simp_all)) (ty := tyf kk) (hc3 kk hk2) (by rw [hty]; rfl) (by rw [hty]; rfl) (by rw [q_ob_len]; exact hksz) d kk9
theorem so_putB : ru_putB (q_C l D B sb) := by
  intro X pc ls st K v r c s Q a idx ci j z fin d hf hfi hk hz k1 p e R s0 m args below meth cd H locs cells slots arr C9 hH9 hS9 hl9 hc9 hs9
  obtain ⟨ws, tys, hK, hP, hD, hA, hM, h0, xs, hX, hxs⟩ := id hH9
  obtain ⟨hx8, hb8, hml8, hrt8, hown8, htw8, hlk8, hnm8, htab8, hw8, hB8, hBs8, hRf8, hRl8, hsb8, hst8⟩ := id C9
  obtain ⟨C, T, N, tyf, kk, ⟨hc1, hc2, hc3, hc4, hc5, hc6, hc7, hc8⟩, rfl, hk2, hk3, hk4, hk5⟩ := hf
  obtain ⟨hlen, q0, ee, hq0, hrel⟩ := hA a (by omega)
  have he := q_rel_obj hrel hk hc8
  subst he
  have ha : a ≠ 0 := fun e => by rw [e, h0] at hk; omega
  have hksz : kk < q_sz ci := by omega
  have hty : tyf kk = .boolean := q_tyb2 (by have := hc6 kk hk2; rw [hk3] at this; exact this)
  have hfv : .int (Int32.ofInt z) = q_fv ci ((q_up v a kk z) a) (r a) kk := by
    simp [q_fv, hk3, q_up]
  have hoth : ∀ j : Nat, j ≠ kk → (q_up v a kk z) a j = v a j ∧ r a j = r a j := fun j hj => ⟨by simp [q_up]; omega, rfl⟩
  rw [List.map_cons, List.map_cons, q_valR ha]
  have kk9 : ∀ (H1 : Heap) (locs1 : List Loc), va_P D vwCl (ws.set q0 (a, .inr (ci, (q_ob ci (v a) (r a)).set kk (.int (Int32.ofInt z))))) H1 → va_D (fun q => B ≤ q) (ws.set q0 (a, .inr (ci, (q_ob ci (v a) (r a)).set kk (.int (Int32.ofInt z))))) → va_S (fun q => B ≤ q) s0.heap H1 locs1 → W p l e R s0 m args below meth cd H1 locs1 cells slots (vx_MQ below (q_Qc D B sb Q) (q_Xc D B sb Q) args s0 R.cells R.slots (fun q => B ≤ q)) (F0 m (pc + 3) arr (st.map (q_val sb))) :=
    fun H1 locs1 hP1 hD1 hS1 => k1  p e R s0 m args below meth cd H1 locs1 cells slots arr C9 (q_heap_set hK hA h0 hX hxs hq0 ha hP1 hD1 (Or.inl ⟨ci, hk, hc8, by rw [q_ob_set hksz hfv hoth]⟩) (fun b hb => ⟨q_up_o hb, rfl⟩) (q_mem_up hM (q_okm_obj hc8 hk (fun e => by rw [hk3] at e; cases e) (fun _ _ => by rcases hz with rfl | rfl <;> exact ⟨by decide, by decide⟩))) (q_sb hS9 hS1 hBs8 hsb8)) hS1 hl9 hc9 hs9
  rcases hfi with hfi | ⟨hfi, T2, N2, hcl2⟩
  · exact va_put hx8 hb8 (Ts := q_tw) htw8 hc2 tyf hc3 hc4 hown8 hK hP hD hS9 q0 hq0 hc1 kk hk2 (htw8 _ hk4) (fun _ h => h) (hk5.trans hfi) (ty := tyf kk) (hc3 kk hk2) (by rw [hty]; exact q_narZ hz) (by rw [hty]; exact q_fitZ hz) (by rw [q_ob_len]; exact hksz) d kk9
  · have hown2 : (T kk).1 = (q_y X).cls := by
      rw [hc7 kk hk2]
      have := hc1.symm.trans hcl2
      cases this; rfl
    by_cases hfin : fin = true
    · exact va_putF hx8 hb8 (Ts := q_tw) htw8 hc2 tyf hc3 hc4 hown8 hK hP hD hS9 q0 hq0 hc1 kk hk2 (htw8 _ hk4) (fun _ h => h) (hk5.trans hfin) (hnm8.trans hfi) hown2 (ty := tyf kk) (hc3 kk hk2) (by rw [hty]; exact q_narZ hz) (by rw [hty]; exact q_fitZ hz) (by rw [q_ob_len]; exact hksz) d kk9
    · exact va_put hx8 hb8 (Ts := q_tw) htw8 hc2 tyf hc3 hc4 hown8 hK hP hD hS9 q0 hq0 hc1 kk hk2 (htw8 _ hk4) (fun _ h => h) (hk5.trans (by cases fin <;> simp_all)) (ty := tyf kk) (hc3 kk hk2) (by rw [hty]; exact q_narZ hz) (by rw [hty]; exact q_fitZ hz) (by rw [q_ob_len]; exact hksz) d kk9
theorem so_putL : ru_putL (q_C l D B sb) := by
  intro X pc ls st K v r c s Q a idx ci j z fin d hf hfi hk hz k1 p e R s0 m args below meth cd H locs cells slots arr C9 hH9 hS9 hl9 hc9 hs9
  obtain ⟨ws, tys, hK, hP, hD, hA, hM, h0, xs, hX, hxs⟩ := id hH9
  obtain ⟨hx8, hb8, hml8, hrt8, hown8, htw8, hlk8, hnm8, htab8, hw8, hB8, hBs8, hRf8, hRl8, hsb8, hst8⟩ := id C9
  obtain ⟨C, T, N, tyf, kk, ⟨hc1, hc2, hc3, hc4, hc5, hc6, hc7, hc8⟩, rfl, hk2, hk3, hk4, hk5⟩ := hf
  obtain ⟨hlen, q0, ee, hq0, hrel⟩ := hA a (by omega)
  have he := q_rel_obj hrel hk hc8
  subst he
  have ha : a ≠ 0 := fun e => by rw [e, h0] at hk; omega
  have hksz : kk < q_sz ci := by omega
  have hty : tyf kk = .long := q_tyb1 (by have := hc6 kk hk2; rw [hk3] at this; exact this)
  have hfv : .long (Int64.ofInt z) = q_fv ci ((q_up v a kk z) a) (r a) kk := by
    simp [q_fv, hk3, q_up]
  have hoth : ∀ j : Nat, j ≠ kk → (q_up v a kk z) a j = v a j ∧ r a j = r a j := fun j hj => ⟨by simp [q_up]; omega, rfl⟩
  rw [List.map_cons, List.map_cons, q_valR ha]
  have kk9 : ∀ (H1 : Heap) (locs1 : List Loc), va_P D vwCl (ws.set q0 (a, .inr (ci, (q_ob ci (v a) (r a)).set kk (.long (Int64.ofInt z))))) H1 → va_D (fun q => B ≤ q) (ws.set q0 (a, .inr (ci, (q_ob ci (v a) (r a)).set kk (.long (Int64.ofInt z))))) → va_S (fun q => B ≤ q) s0.heap H1 locs1 → W p l e R s0 m args below meth cd H1 locs1 cells slots (vx_MQ below (q_Qc D B sb Q) (q_Xc D B sb Q) args s0 R.cells R.slots (fun q => B ≤ q)) (F0 m (pc + 3) arr (st.map (q_val sb))) :=
    fun H1 locs1 hP1 hD1 hS1 => k1  p e R s0 m args below meth cd H1 locs1 cells slots arr C9 (q_heap_set hK hA h0 hX hxs hq0 ha hP1 hD1 (Or.inl ⟨ci, hk, hc8, by rw [q_ob_set hksz hfv hoth]⟩) (fun b hb => ⟨q_up_o hb, rfl⟩) (q_mem_up hM (q_okm_obj hc8 hk (fun _ => hz) (fun e => absurd hk3 e))) (q_sb hS9 hS1 hBs8 hsb8)) hS1 hl9 hc9 hs9
  rcases hfi with hfi | ⟨hfi, T2, N2, hcl2⟩
  · exact va_put hx8 hb8 (Ts := q_tw) htw8 hc2 tyf hc3 hc4 hown8 hK hP hD hS9 q0 hq0 hc1 kk hk2 (htw8 _ hk4) (fun _ h => h) (hk5.trans hfi) (ty := tyf kk) (hc3 kk hk2) (by rw [hty]; rfl) (by rw [hty]; rfl) (by rw [q_ob_len]; exact hksz) d kk9
  · have hown2 : (T kk).1 = (q_y X).cls := by
      rw [hc7 kk hk2]
      have := hc1.symm.trans hcl2
      cases this; rfl
    by_cases hfin : fin = true
    · exact va_putF hx8 hb8 (Ts := q_tw) htw8 hc2 tyf hc3 hc4 hown8 hK hP hD hS9 q0 hq0 hc1 kk hk2 (htw8 _ hk4) (fun _ h => h) (hk5.trans hfin) (hnm8.trans hfi) hown2 (ty := tyf kk) (hc3 kk hk2) (by rw [hty]; rfl) (by rw [hty]; rfl) (by rw [q_ob_len]; exact hksz) d kk9
    · exact va_put hx8 hb8 (Ts := q_tw) htw8 hc2 tyf hc3 hc4 hown8 hK hP hD hS9 q0 hq0 hc1 kk hk2 (htw8 _ hk4) (fun _ h => h) (hk5.trans (by cases fin <;> simp_all)) (ty := tyf kk) (hc3 kk hk2) (by rw [hty]; rfl) (by rw [hty]; rfl) (by rw [q_ob_len]; exact hksz) d kk9
theorem so_putR : ru_putR (q_C l D B sb) := by
  intro X pc ls st K v r c s Q a b idx ci j z fin d hf hfi hk hz k1 p e R s0 m args below meth cd H locs cells slots arr C9 hH9 hS9 hl9 hc9 hs9
  obtain ⟨ws, tys, hK, hP, hD, hA, hM, h0, xs, hX, hxs⟩ := id hH9
  obtain ⟨hx8, hb8, hml8, hrt8, hown8, htw8, hlk8, hnm8, htab8, hw8, hB8, hBs8, hRf8, hRl8, hsb8, hst8⟩ := id C9
  obtain ⟨C, T, N, tyf, kk, ⟨hc1, hc2, hc3, hc4, hc5, hc6, hc7, hc8⟩, rfl, hk2, hk3, hk4, hk5⟩ := hf
  obtain ⟨hlen, q0, ee, hq0, hrel⟩ := hA a (by omega)
  have he := q_rel_obj hrel hk hc8
  subst he
  have ha : a ≠ 0 := fun e => by rw [e, h0] at hk; omega
  have hksz : kk < q_sz ci := by omega
  have hb0 : b ≠ 0 := fun e => hz (by rw [e]; exact h0)
  have hty : (∃ n, tyf kk = .object n) ∨ ∃ x, tyf kk = .array x := q_tyb3 (by have := hc6 kk hk2; rw [hk3] at this; exact this)
  have hfv : Value.ref b = q_fv ci ((q_up v a kk z) a) ((q_ur r a kk b) a) kk := by
    simp [q_fv, hk3, q_ur, hb0, va_rf]
  have hoth : ∀ j : Nat, j ≠ kk → (q_up v a kk z) a j = v a j ∧ (q_ur r a kk b) a j = r a j := fun j hj => ⟨by simp [q_up]; omega, by simp [q_ur]; omega⟩
  rw [List.map_cons, List.map_cons, q_valR ha, q_valR hb0]
  have kk9 : ∀ (H1 : Heap) (locs1 : List Loc), va_P D vwCl (ws.set q0 (a, .inr (ci, (q_ob ci (v a) (r a)).set kk (Value.ref b)))) H1 → va_D (fun q => B ≤ q) (ws.set q0 (a, .inr (ci, (q_ob ci (v a) (r a)).set kk (Value.ref b)))) → va_S (fun q => B ≤ q) s0.heap H1 locs1 → W p l e R s0 m args below meth cd H1 locs1 cells slots (vx_MQ below (q_Qc D B sb Q) (q_Xc D B sb Q) args s0 R.cells R.slots (fun q => B ≤ q)) (F0 m (pc + 3) arr (st.map (q_val sb))) :=
    fun H1 locs1 hP1 hD1 hS1 => k1  p e R s0 m args below meth cd H1 locs1 cells slots arr C9 (q_heap_set hK hA h0 hX hxs hq0 ha hP1 hD1 (Or.inl ⟨ci, hk, hc8, by rw [q_ob_set hksz hfv hoth]⟩) (fun b2 hb => ⟨q_up_o hb, q_ur_o hb⟩) (q_mem_up hM (q_okm_obj hc8 hk (fun e => by rw [hk3] at e; cases e) (fun _ e => absurd hk3 e))) (q_sb hS9 hS1 hBs8 hsb8)) hS1 hl9 hc9 hs9
  rcases hfi with hfi | ⟨hfi, T2, N2, hcl2⟩
  · exact va_put hx8 hb8 (Ts := q_tw) htw8 hc2 tyf hc3 hc4 hown8 hK hP hD hS9 q0 hq0 hc1 kk hk2 (htw8 _ hk4) (fun _ h => h) (hk5.trans hfi) (ty := tyf kk) (hc3 kk hk2) (q_fitR hty).2 (q_fitR hty).1 (by rw [q_ob_len]; exact hksz) d kk9
  · have hown2 : (T kk).1 = (q_y X).cls := by
      rw [hc7 kk hk2]
      have := hc1.symm.trans hcl2
      cases this; rfl
    by_cases hfin : fin = true
    · exact va_putF hx8 hb8 (Ts := q_tw) htw8 hc2 tyf hc3 hc4 hown8 hK hP hD hS9 q0 hq0 hc1 kk hk2 (htw8 _ hk4) (fun _ h => h) (hk5.trans hfin) (hnm8.trans hfi) hown2 (ty := tyf kk) (hc3 kk hk2) (q_fitR hty).2 (q_fitR hty).1 (by rw [q_ob_len]; exact hksz) d kk9
    · exact va_put hx8 hb8 (Ts := q_tw) htw8 hc2 tyf hc3 hc4 hown8 hK hP hD hS9 q0 hq0 hc1 kk hk2 (htw8 _ hk4) (fun _ h => h) (hk5.trans (by cases fin <;> simp_all)) (ty := tyf kk) (hc3 kk hk2) (q_fitR hty).2 (q_fitR hty).1 (by rw [q_ob_len]; exact hksz) d kk9
theorem so_iald : ru_iald (q_C l D B sb) := by
  intro X pc ls st K v r c s Q a i d hk hi hn k1 p e R s0 m args below meth cd H locs cells slots arr C9 hH9 hS9 hl9 hc9 hs9
  obtain ⟨ws, tys, hK, hP, hD, hA, hM, h0, xs, hX, hxs⟩ := id hH9
  obtain ⟨hx8, hb8, hml8, hrt8, hown8, htw8, hlk8, hnm8, htab8, hw8, hB8, hBs8, hRf8, hRl8, hsb8, hst8⟩ := id C9
  obtain ⟨hlen, q0, ee, hq0, hrel⟩ := hA a (by omega)
  have ha : a ≠ 0 := fun e => by rw [e, h0] at hk; omega
  obtain ⟨cA, hcA, rfl⟩ := q_rel_i hrel hk
  obtain ⟨t0, ht0⟩ := List.getElem?_of_mem hcA
  rw [List.map_cons, List.map_cons, q_valR ha]
  refine va_iald hx8 hb8 hK hP q0 t0 hq0 ht0 (q_vp hi hn (by omega)) d ?_
  rw [q_idx (g := v a) (fun _ => rfl) hi (by omega)]
  exact k1  p e R s0 m args below meth cd H locs cells slots arr C9 hH9 hS9 hl9 hc9 hs9
theorem so_lald : ru_lald (q_C l D B sb) := by
  intro X pc ls st K v r c s Q a i d hk hi hn k1 p e R s0 m args below meth cd H locs cells slots arr C9 hH9 hS9 hl9 hc9 hs9
  obtain ⟨ws, tys, hK, hP, hD, hA, hM, h0, xs, hX, hxs⟩ := id hH9
  obtain ⟨hx8, hb8, hml8, hrt8, hown8, htw8, hlk8, hnm8, htab8, hw8, hB8, hBs8, hRf8, hRl8, hsb8, hst8⟩ := id C9
  obtain ⟨hlen, q0, ee, hq0, hrel⟩ := hA a (by omega)
  have ha : a ≠ 0 := fun e => by rw [e, h0] at hk; omega
  obtain ⟨cA, hcA, rfl⟩ := q_rel_l hrel hk
  obtain ⟨t0, ht0⟩ := List.getElem?_of_mem hcA
  rw [List.map_cons, List.map_cons, q_valR ha]
  refine va_lald hx8 hb8 hK hP q0 t0 hq0 ht0 (q_vp hi hn (by omega)) d ?_
  rw [q_idxL (g := v a) (fun _ => rfl) hi (by omega)]
  exact k1  p e R s0 m args below meth cd H locs cells slots arr C9 hH9 hS9 hl9 hc9 hs9
theorem so_zald : ru_zald (q_C l D B sb) := by
  intro X pc ls st K v r c s Q a i d hk hi hn k1 p e R s0 m args below meth cd H locs cells slots arr C9 hH9 hS9 hl9 hc9 hs9
  obtain ⟨ws, tys, hK, hP, hD, hA, hM, h0, xs, hX, hxs⟩ := id hH9
  obtain ⟨hx8, hb8, hml8, hrt8, hown8, htw8, hlk8, hnm8, htab8, hw8, hB8, hBs8, hRf8, hRl8, hsb8, hst8⟩ := id C9
  obtain ⟨hlen, q0, ee, hq0, hrel⟩ := hA a (by omega)
  have ha : a ≠ 0 := fun e => by rw [e, h0] at hk; omega
  obtain ⟨cA, hcA, rfl⟩ := q_rel_z hrel hk
  obtain ⟨t0, ht0⟩ := List.getElem?_of_mem hcA
  rw [List.map_cons, List.map_cons, q_valR ha]
  refine va_zald hx8 hb8 hK hP q0 t0 hq0 ht0 (q_vp hi hn (by omega)) d ?_
  rw [q_idx (g := v a) (fun _ => rfl) hi (by omega)]
  exact k1  p e R s0 m args below meth cd H locs cells slots arr C9 hH9 hS9 hl9 hc9 hs9
theorem so_aald : ru_aald (q_C l D B sb) := by
  intro X pc ls st K v r c s Q a ci i d hk hc hi hn hr k1 p e R s0 m args below meth cd H locs cells slots arr C9 hH9 hS9 hl9 hc9 hs9
  obtain ⟨ws, tys, hK, hP, hD, hA, hM, h0, xs, hX, hxs⟩ := id hH9
  obtain ⟨hx8, hb8, hml8, hrt8, hown8, htw8, hlk8, hnm8, htab8, hw8, hB8, hBs8, hRf8, hRl8, hsb8, hst8⟩ := id C9
  obtain ⟨hlen, q0, ee, hq0, hrel⟩ := hA a (by omega)
  have ha : a ≠ 0 := fun e => by rw [e, h0] at hk; omega
  obtain ⟨C, T, N, hC, cA, hcA, rfl⟩ := q_rel_a hrel hk hc
  obtain ⟨t0, ht0⟩ := List.getElem?_of_mem hcA
  have hr0 : r a i ≠ 0 := fun e => hr (by rw [e]; exact h0)
  rw [List.map_cons, List.map_cons, q_valR ha]
  refine va_aldq hx8 hb8 hK hP q0 t0 hq0 ht0 (q_vp hi hn (by omega)) d ?_
  have e9 := k1  p e R s0 m args below meth cd H locs cells slots arr C9 hH9 hS9 hl9 hc9 hs9
  rw [List.map_cons, q_valR hr0] at e9
  rw [q_nat32 hi (by omega)]
  simp only [Int.toNat_of_nonneg hi, if_neg hr0, va_rf]
  exact e9
theorem so_iast : ru_iast (q_C l D B sb) := by
  intro X pc ls st K v r c s Q a i x d hk hi hn hx k1 p e R s0 m args below meth cd H locs cells slots arr C9 hH9 hS9 hl9 hc9 hs9
  obtain ⟨ws, tys, hK, hP, hD, hA, hM, h0, xs, hX, hxs⟩ := id hH9
  obtain ⟨hx8, hb8, hml8, hrt8, hown8, htw8, hlk8, hnm8, htab8, hw8, hB8, hBs8, hRf8, hRl8, hsb8, hst8⟩ := id C9
  obtain ⟨hlen, q0, ee, hq0, hrel⟩ := hA a (by omega)
  have ha : a ≠ 0 := fun e => by rw [e, h0] at hk; omega
  obtain ⟨cA, hcA, rfl⟩ := q_rel_i hrel hk
  obtain ⟨t0, ht0⟩ := List.getElem?_of_mem hcA
  rw [List.map_cons, List.map_cons, List.map_cons, q_valR ha]
  refine va_iast hx8 hb8 hK hP hD hS9 q0 t0 hq0 ht0 (q_vp hi hn (by omega)) d (fun H1 locs1 hP1 hD1 hS1 => ?_)
  rw [q_updI hi (by omega)] at hP1 hD1
  exact k1  p e R s0 m args below meth cd H1 locs1 cells slots arr C9 (q_heap_set hK hA h0 hX hxs hq0 ha hP1 hD1 (Or.inr (Or.inl ⟨hk, cA, hcA, rfl⟩)) (fun b hb => ⟨q_up_o hb, rfl⟩) (q_mem_up hM (by unfold q_okm; rw [hk, if_neg (by decide), if_neg (by decide), if_neg (by decide), if_pos (by decide)]; exact hx)) (q_sb hS9 hS1 hBs8 hsb8)) hS1 hl9 hc9 hs9
theorem so_last : ru_last (q_C l D B sb) := by
  intro X pc ls st K v r c s Q a i x d hk hi hn hx k1 p e R s0 m args below meth cd H locs cells slots arr C9 hH9 hS9 hl9 hc9 hs9
  obtain ⟨ws, tys, hK, hP, hD, hA, hM, h0, xs, hX, hxs⟩ := id hH9
  obtain ⟨hx8, hb8, hml8, hrt8, hown8, htw8, hlk8, hnm8, htab8, hw8, hB8, hBs8, hRf8, hRl8, hsb8, hst8⟩ := id C9
  obtain ⟨hlen, q0, ee, hq0, hrel⟩ := hA a (by omega)
  have ha : a ≠ 0 := fun e => by rw [e, h0] at hk; omega
  obtain ⟨cA, hcA, rfl⟩ := q_rel_l hrel hk
  obtain ⟨t0, ht0⟩ := List.getElem?_of_mem hcA
  rw [List.map_cons, List.map_cons, List.map_cons, q_valR ha]
  refine va_last hx8 hb8 hK hP hD hS9 q0 t0 hq0 ht0 (q_vp hi hn (by omega)) d (fun H1 locs1 hP1 hD1 hS1 => ?_)
  rw [q_updL hi (by omega)] at hP1 hD1
  exact k1  p e R s0 m args below meth cd H1 locs1 cells slots arr C9 (q_heap_set hK hA h0 hX hxs hq0 ha hP1 hD1 (Or.inr (Or.inr (Or.inl ⟨hk, cA, hcA, rfl⟩))) (fun b hb => ⟨q_up_o hb, rfl⟩) (q_mem_up hM (by unfold q_okm; rw [hk, if_pos rfl]; exact hx)) (q_sb hS9 hS1 hBs8 hsb8)) hS1 hl9 hc9 hs9
theorem so_zast : ru_zast (q_C l D B sb) := by
  intro X pc ls st K v r c s Q a i x d hk hi hn hx k1 p e R s0 m args below meth cd H locs cells slots arr C9 hH9 hS9 hl9 hc9 hs9
  obtain ⟨ws, tys, hK, hP, hD, hA, hM, h0, xs, hX, hxs⟩ := id hH9
  obtain ⟨hx8, hb8, hml8, hrt8, hown8, htw8, hlk8, hnm8, htab8, hw8, hB8, hBs8, hRf8, hRl8, hsb8, hst8⟩ := id C9
  obtain ⟨hlen, q0, ee, hq0, hrel⟩ := hA a (by omega)
  have ha : a ≠ 0 := fun e => by rw [e, h0] at hk; omega
  obtain ⟨cA, hcA, rfl⟩ := q_rel_z hrel hk
  obtain ⟨t0, ht0⟩ := List.getElem?_of_mem hcA
  rw [List.map_cons, List.map_cons, List.map_cons, q_valR ha]
  refine va_zast hx8 hb8 hK hP hD hS9 q0 t0 hq0 ht0 (q_vp hi hn (by omega)) d (fun H1 locs1 hP1 hD1 hS1 => ?_)
  rw [q_narZ2 hx] at hP1 hD1
  rw [q_updI hi (by omega)] at hP1 hD1
  exact k1  p e R s0 m args below meth cd H1 locs1 cells slots arr C9 (q_heap_set hK hA h0 hX hxs hq0 ha hP1 hD1 (Or.inr (Or.inr (Or.inr (Or.inl ⟨hk, cA, hcA, rfl⟩)))) (fun b hb => ⟨q_up_o hb, rfl⟩) (q_mem_up hM (by unfold q_okm; rw [hk, if_neg (by decide), if_pos rfl]; exact hx)) (q_sb hS9 hS1 hBs8 hsb8)) hS1 hl9 hc9 hs9
theorem so_aast : ru_aast (q_C l D B sb) := by
  intro X pc ls st K v r c s Q a b ci i z d hk hc hi hn hb k1 p e R s0 m args below meth cd H locs cells slots arr C9 hH9 hS9 hl9 hc9 hs9
  obtain ⟨ws, tys, hK, hP, hD, hA, hM, h0, xs, hX, hxs⟩ := id hH9
  obtain ⟨hx8, hb8, hml8, hrt8, hown8, htw8, hlk8, hnm8, htab8, hw8, hB8, hBs8, hRf8, hRl8, hsb8, hst8⟩ := id C9
  obtain ⟨hlen, q0, ee, hq0, hrel⟩ := hA a (by omega)
  have ha : a ≠ 0 := fun e => by rw [e, h0] at hk; omega
  obtain ⟨C, T, N, hC, cA, hcA, rfl⟩ := q_rel_a hrel hk hc
  obtain ⟨t0, ht0⟩ := List.getElem?_of_mem hcA
  obtain ⟨-, qb, eb, hqb, hrelb⟩ := hA b (by omega)
  obtain rfl := q_rel_obj hrelb hb hc
  have hb0 : b ≠ 0 := fun e => by rw [e, h0] at hb; omega
  rw [List.map_cons, List.map_cons, List.map_cons, q_valR ha, q_valR hb0]
  refine va_astq (r := (C, T, N)) hx8 hb8 hK hP hD hS9 q0 t0 qb ci hq0 ht0 hqb hC (q_vp hi hn (by omega)) d (fun H1 locs1 hP1 hD1 hS1 => ?_)
  rw [q_updA hb0 hi (by omega)] at hP1 hD1
  exact k1  p e R s0 m args below meth cd H1 locs1 cells slots arr C9 (q_heap_set hK hA h0 hX hxs hq0 ha hP1 hD1 (Or.inr (Or.inr (Or.inr (Or.inr ⟨ci, C, T, N, hk, hc, hC, cA, hcA, rfl⟩)))) (fun b2 hb => ⟨q_up_o hb, q_ur_o hb⟩) (q_mem_up hM (by unfold q_okm; rw [hk, if_neg (by omega), if_neg (by omega), if_pos (by omega)]; trivial)) (q_sb hS9 hS1 hBs8 hsb8)) hS1 hl9 hc9 hs9
theorem so_sald : ru_sald (q_C l D B sb) := by
  intro X pc ls st K v r c s Q i d hi hb hn k1 p e R s0 m args below meth cd H locs cells slots arr C9 hH9 hS9 hl9 hc9 hs9
  obtain ⟨ws, tys, hK, hP, hD, hA, hM, h0, xs, hX, hxs⟩ := id hH9
  obtain ⟨hx8, hb8, hml8, hrt8, hown8, htw8, hlk8, hnm8, htab8, hw8, hB8, hBs8, hRf8, hRl8, hsb8, hst8⟩ := id C9
  obtain ⟨scr, g1, g2, g3, g4, g5⟩ := id hX
  have hlt : i.toNat < (K 0).2.1 := by omega
  have e1 : v 0 i = (xs i.toNat).toInt := by have := hxs i.toNat hlt; rwa [Int.toNat_of_nonneg hi] at this
  have e2 : Int32.ofInt (v 0 i) = xs i.toNat := by rw [e1, Int32.ofInt_toInt]
  have e3 : q_iI (v 0 i) := by rw [e1]; exact ⟨by have := Int32.le_toInt (xs i.toNat); omega, by have := Int32.toInt_lt (xs i.toNat); omega⟩
  refine W.iald hx8 hb8 g1 g2 g3 (j := Int32.ofInt i) (v := .int (Int32.ofInt (v 0 i))) (by rw [g4]; exact q_vp2 hi hn hb) (by rw [q_nat32 hi (by omega), e2]; exact g5 _ hlt) (g := F0 m pc arr (.int (Int32.ofInt i) :: .ref sb :: st.map (q_val sb))) rfl rfl d (k1 e3 p e R s0 m args below meth cd H locs cells slots arr C9 hH9 hS9 hl9 hc9 hs9)
theorem so_slen : ru_slen (q_C l D B sb) := by
  intro X pc ls st K v r c s Q d hn k1 p e R s0 m args below meth cd H locs cells slots arr C9 hH9 hS9 hl9 hc9 hs9
  obtain ⟨ws, tys, hK, hP, hD, hA, hM, h0, xs, hX, hxs⟩ := id hH9
  obtain ⟨hx8, hb8, hml8, hrt8, hown8, htw8, hlk8, hnm8, htab8, hw8, hB8, hBs8, hRf8, hRl8, hsb8, hst8⟩ := id C9
  obtain ⟨scr, g1, g2, g3, g4, g5⟩ := hX
  refine W.alen hx8 hb8 g1 g2 (n := Int32.ofInt ((K 0).2.1 : Int)) ?_ (g := F0 m pc arr (.ref sb :: st.map (q_val sb))) rfl rfl d (k1  p e R s0 m args below meth cd H locs cells slots arr C9 hH9 hS9 hl9 hc9 hs9)
  rw [g4, Int32.ofInt_eq_ofNat]
theorem so_alen : ru_alen (q_C l D B sb) := by
  intro X pc ls st K v r c s Q a d hk k1 p e R s0 m args below meth cd H locs cells slots arr C9 hH9 hS9 hl9 hc9 hs9
  obtain ⟨ws, tys, hK, hP, hD, hA, hM, h0, xs, hX, hxs⟩ := id hH9
  obtain ⟨hx8, hb8, hml8, hrt8, hown8, htw8, hlk8, hnm8, htab8, hw8, hB8, hBs8, hRf8, hRl8, hsb8, hst8⟩ := id C9
  obtain ⟨hlen, q0, ee, hq0, hrel⟩ := hA a (by omega)
  have ha : a ≠ 0 := fun e => by rw [e, h0] at hk; omega
  obtain ⟨cA, hcA, rfl⟩ := q_rel_i hrel hk
  obtain ⟨t0, ht0⟩ := List.getElem?_of_mem hcA
  rw [List.map_cons, q_valR ha]
  exact va_alen hx8 hb8 hK hP q0 t0 hq0 ht0 (Int32.ofInt_eq_ofNat).symm d (k1  p e R s0 m args below meth cd H locs cells slots arr C9 hH9 hS9 hl9 hc9 hs9)
theorem so_new : ru_new (q_C l D B sb) := by
  intro X pc ls st K v r c s Q idx ci c2 s2 tag d hw hc hs k1 p e R s0 m args below meth cd H locs cells slots arr C9 hH9 hS9 hl9 hc9 hs9
  obtain ⟨ws, tys, hK, hP, hD, hA, hM, h0, xs, hX, hxs⟩ := id hH9
  obtain ⟨hx8, hb8, hml8, hrt8, hown8, htw8, hlk8, hnm8, htab8, hw8, hB8, hBs8, hRf8, hRl8, hsb8, hst8⟩ := id C9
  obtain ⟨C, T, N, tyf, ⟨hc1, hc2, hc3, hc4, hc5, hc6, hc7, hc8⟩, hw1, hw2, hw3⟩ := hw
  refine va_new hx8 hb8 (Ts := q_tw) htw8 hc2 tyf hc3 hown8 (htw8 _ hw1) (htw8 _ hw2) (htw8 _ hw3) hK hP hD hS9 (fun q hq => Nat.le_trans hBs8 hq) hc1 (q_dflt hc5 hc6) (by omega) (by rw [hc5]; omega) d (fun q H1 hP1 hD1 hS1 => ?_)
  have hfr := q_fresh hA hD1
  have hq0 : q ≠ 0 := fun e => by have := hfr.2; omega
  rw [hc5]
  have e9 := k1 q hq0 hfr.1 p e R s0 m args below meth cd H1 locs (cells + 1) (slots + q_sz ci) arr C9 (q_heap_new (t2 := []) (by rw [List.append_nil]; exact hK) hA hM h0 hX hxs hq0 hP1 hD1 (Or.inl ⟨ci, rfl, hc8, rfl⟩) (Nat.zero_le _) (q_sb hS9 hS1 hBs8 hsb8)) hS1 hl9 (by omega) (by omega)
  rw [List.map_cons, q_valR hq0] at e9
  exact e9
theorem so_newI : ru_newI (q_C l D B sb) := by
  intro X pc ls st K v r c s Q z n c2 s2 tag d hw hz hn hc hs k1 p e R s0 m args below meth cd H locs cells slots arr C9 hH9 hS9 hl9 hc9 hs9
  obtain ⟨ws, tys, hK, hP, hD, hA, hM, h0, xs, hX, hxs⟩ := id hH9
  obtain ⟨hx8, hb8, hml8, hrt8, hown8, htw8, hlk8, hnm8, htab8, hw8, hB8, hBs8, hRf8, hRl8, hsb8, hst8⟩ := id C9
  subst hz
  refine va_newa (atype := .int) hx8 hb8 (htw8 _ hw) (ty := .int) rfl hK hP hD hS9 (fun q hq => Nat.le_trans hBs8 hq) (n := Int32.ofInt (n : Int)) (N' := n) (a0 := (n, .inl (fun _ => 0))) (fun cA => rfl) (q_neg32 (by omega) (by omega)) (by rw [q_nat32 (by omega) (by omega)]; rfl) (Nat.le_trans (Nat.mul_le_mul_left n (by decide : componentBytes .int ≤ 8)) (by omega)) (by omega) (by omega) d (fun q cA H1 hK2 hP1 hD1 hS1 => ?_)
  have hfr := q_fresh hA hD1
  have hq0 : q ≠ 0 := fun e => by have := hfr.2; omega
  have e9 := k1 q hq0 hfr.1 p e R s0 m args below meth cd H1 locs (cells + 1) (slots + n) arr C9 (q_heap_new hK2 hA hM h0 hX hxs hq0 hP1 hD1 (Or.inr (Or.inl ⟨rfl, cA, List.mem_append_right _ List.mem_cons_self, rfl⟩)) hn (q_sb hS9 hS1 hBs8 hsb8)) hS1 hl9 (by omega) (by omega)
  rw [List.map_cons, q_valR hq0] at e9
  exact e9
theorem so_newL : ru_newL (q_C l D B sb) := by
  intro X pc ls st K v r c s Q z n c2 s2 tag d hw hz hn hc hs k1 p e R s0 m args below meth cd H locs cells slots arr C9 hH9 hS9 hl9 hc9 hs9
  obtain ⟨ws, tys, hK, hP, hD, hA, hM, h0, xs, hX, hxs⟩ := id hH9
  obtain ⟨hx8, hb8, hml8, hrt8, hown8, htw8, hlk8, hnm8, htab8, hw8, hB8, hBs8, hRf8, hRl8, hsb8, hst8⟩ := id C9
  subst hz
  refine va_newa (atype := .long) hx8 hb8 (htw8 _ hw) (ty := .long) rfl hK hP hD hS9 (fun q hq => Nat.le_trans hBs8 hq) (n := Int32.ofInt (n : Int)) (N' := n) (a0 := (n, .inr (.inl (fun _ => 0)))) (fun cA => rfl) (q_neg32 (by omega) (by omega)) (by rw [q_nat32 (by omega) (by omega)]; rfl) (Nat.le_trans (Nat.mul_le_mul_left n (by decide : componentBytes .long ≤ 8)) (by omega)) (by omega) (by omega) d (fun q cA H1 hK2 hP1 hD1 hS1 => ?_)
  have hfr := q_fresh hA hD1
  have hq0 : q ≠ 0 := fun e => by have := hfr.2; omega
  have e9 := k1 q hq0 hfr.1 p e R s0 m args below meth cd H1 locs (cells + 1) (slots + n) arr C9 (q_heap_new hK2 hA hM h0 hX hxs hq0 hP1 hD1 (Or.inr (Or.inr (Or.inl ⟨rfl, cA, List.mem_append_right _ List.mem_cons_self, rfl⟩))) hn (q_sb hS9 hS1 hBs8 hsb8)) hS1 hl9 (by omega) (by omega)
  rw [List.map_cons, q_valR hq0] at e9
  exact e9
theorem so_newZ : ru_newZ (q_C l D B sb) := by
  intro X pc ls st K v r c s Q z n c2 s2 tag d hw hz hn hc hs k1 p e R s0 m args below meth cd H locs cells slots arr C9 hH9 hS9 hl9 hc9 hs9
  obtain ⟨ws, tys, hK, hP, hD, hA, hM, h0, xs, hX, hxs⟩ := id hH9
  obtain ⟨hx8, hb8, hml8, hrt8, hown8, htw8, hlk8, hnm8, htab8, hw8, hB8, hBs8, hRf8, hRl8, hsb8, hst8⟩ := id C9
  subst hz
  refine va_newa (atype := .boolean) hx8 hb8 (htw8 _ hw) (ty := .boolean) rfl hK hP hD hS9 (fun q hq => Nat.le_trans hBs8 hq) (n := Int32.ofInt (n : Int)) (N' := n) (a0 := (n, .inl (fun _ => 0))) (fun cA => rfl) (q_neg32 (by omega) (by omega)) (by rw [q_nat32 (by omega) (by omega)]; rfl) (Nat.le_trans (Nat.mul_le_mul_left n (by decide : componentBytes .boolean ≤ 8)) (by omega)) (by omega) (by omega) d (fun q cA H1 hK2 hP1 hD1 hS1 => ?_)
  have hfr := q_fresh hA hD1
  have hq0 : q ≠ 0 := fun e => by have := hfr.2; omega
  have e9 := k1 q hq0 hfr.1 p e R s0 m args below meth cd H1 locs (cells + 1) (slots + n) arr C9 (q_heap_new hK2 hA hM h0 hX hxs hq0 hP1 hD1 (Or.inr (Or.inr (Or.inr (Or.inl ⟨rfl, cA, List.mem_append_right _ List.mem_cons_self, rfl⟩)))) hn (q_sb hS9 hS1 hBs8 hsb8)) hS1 hl9 (by omega) (by omega)
  rw [List.map_cons, q_valR hq0] at e9
  exact e9
theorem so_newA : ru_newA (q_C l D B sb) := by
  intro X pc ls st K v r c s Q z n idx ci c2 s2 tag d hw hz hn hc hs k1 p e R s0 m args below meth cd H locs cells slots arr C9 hH9 hS9 hl9 hc9 hs9
  obtain ⟨ws, tys, hK, hP, hD, hA, hM, h0, xs, hX, hxs⟩ := id hH9
  obtain ⟨hx8, hb8, hml8, hrt8, hown8, htw8, hlk8, hnm8, htab8, hw8, hB8, hBs8, hRf8, hRl8, hsb8, hst8⟩ := id C9
  subst hz
  obtain ⟨C, T, N, hc1, hc2, hw1, hw2⟩ := hw
  refine va_newq hx8 hb8 hown8 (htw8 _ hw1) (hw8.2.2.2.2.2.2 C hw2) hK hP hD hS9 (fun q hq => Nat.le_trans hBs8 hq) (n := Int32.ofInt (n : Int)) (N' := n) (q_neg32 (by omega) (by omega)) (by rw [q_nat32 (by omega) (by omega)]; rfl) (by omega) (by omega) (by omega) d (fun q cA H1 hK2 hP1 hD1 hS1 => ?_)
  have hfr := q_fresh hA hD1
  have hq0 : q ≠ 0 := fun e => by have := hfr.2; omega
  have e9 := k1 q hq0 hfr.1 p e R s0 m args below meth cd H1 locs (cells + 1) (slots + n) arr C9 (q_heap_new hK2 hA hM h0 hX hxs hq0 hP1 hD1 (Or.inr (Or.inr (Or.inr (Or.inr ⟨ci, C, T, N, rfl, hc2, hc1, cA, List.mem_append_right _ List.mem_cons_self, rfl⟩)))) hn (q_sb hS9 hS1 hBs8 hsb8)) hS1 hl9 (by omega) (by omega)
  rw [List.map_cons, q_valR hq0] at e9
  exact e9
theorem so_callS : ru_callS (q_C l D B sb) := by
  intro X pc ls st K v r c s Q Y idx n c1 s1 c2 s2 as rest ls0 Q1 d hw hl hst hown hx hst2 hln hls hlz hfit hcc hss hr8 hnm k1 k2 k3 p e R s0 m args below meth cd H locs cells slots arr C9 hH9 hS9 hl9 hc9 hs9
  obtain ⟨hx8, hb8, hml8, hrt8, hown8, htw8, hlk8, hnm8, htab8, hw8, hB8, hBs8, hRf8, hRl8, hsb8, hst8⟩ := id C9
  have hcode : q_cd Y ∈ q_ws Y := List.mem_cons_self
  have hcode2 := htw8 _ (q_ws_in hw _ hcode)
  have hmet := q_met (B := B) (sb := sb) (D := D) hw hls hlz hB8 hsb8 hst8 k1
  have hfr1 : (q_rm Y c1 s1).frames + 1 ≤ R.frames := by rw [hRf8]; exact hfit.1
  have hfr2 : 8 + (q_n Y + 11) + (q_rm Y c1 s1).locals ≤ R.locals := by rw [hRl8]; exact hfit.2
  have hrest : 2 * (F0 m pc arr (st.map (q_val sb))).monitorRoom + ((rest.map (q_val sb)).map fun v => v.category).sum ≤ 8 := by
    rw [q_cats]
    show 2 * 0 + _ ≤ _
    omega
  have hpre : PreS s0 H (q_Pc D B sb K v r as) (as.map (q_val sb)) := ⟨q_blind, q_pre hH9 hS9 hw8 hBs8⟩
  have hrun : vx_Run p l e R s0 m args below meth cd H locs cells slots c1 s1 (F0 m pc arr (st.map (q_val sb))) (rest.map (q_val sb)) (q_Qc D B sb Q1 ((as.map (q_val sb)).toArray)) (q_Xc D B sb Q1) (fun q => B ≤ q) := by
    by_cases hh : q_hh Y = []
    · have hcd : q_cd Y = Cond.code (q_y Y) (q_b Y) (q_n Y) (q_rt Y) := by unfold q_cd; rw [if_pos hh]
      rw [hcd] at hcode hcode2
      exact vx_runS ⟨hx8, hb8, hml8, hown8, htw8⟩ hmet ⟨⟨rfl, rfl, hfr1, hfr2, pay_in htw8 (q_goodIn (q_ws_in hw)), hcode, hcode2, htw8 _ hw.2.2.2.2.2, ⟨hw.2.1, hw.2.2.1⟩, q_arity hw, htw8 _ hl⟩, htw8 _ hst⟩ hpre rfl (by rw [List.length_map]; exact hln) hl9.1 (by show st.map (q_val sb) = _; rw [hst2, List.map_append, List.map_reverse]) hrest d ⟨by omega, by omega⟩
    · have hcd : q_cd Y = Cond.codeWith (q_y Y) (q_b Y) (q_n Y) (q_rt Y) (q_hh Y) := by unfold q_cd; rw [if_neg hh]
      rw [hcd] at hcode hcode2
      exact vx_runSX ⟨hx8, hb8, hml8, hown8, htw8⟩ hmet ⟨⟨rfl, rfl, hfr1, hfr2, pay_in htw8 (q_goodIn (q_ws_in hw)), hcode⟩, hcode2, htw8 _ hw.2.2.2.2.2, ⟨hw.2.1, hw.2.2.1⟩, q_arity hw, htw8 _ hl, htw8 _ hst⟩ hpre rfl (by rw [List.length_map]; exact hln) hl9.1 (by show st.map (q_val sb) = _; rw [hst2, List.map_append, List.map_reverse]) hrest d ⟨by omega, by omega⟩
  exact q_back hrun hS9 (fun E ce q9 K1 v1 r1 H1 locs1 hq1 hh1 hS1 hcell hcv hcl => vx_out (by rw [htab8, hx]; intro x hx9; cases hx9) hlk8 hcell hcv hcl (fun t ht hal => ⟨⟨K1, v1, r1, k3 E K1 v1 r1 hq1, by rw [ht]; exact q_heap_moved hal hh1⟩, q_F9 ht hS1⟩) (fun z hz => hS1.2.2 z hz) (by omega) (by omega)) (fun ov K1 v1 r1 H1 locs1 hq1 hh1 hS1 => by
      have e9 := k2 ov K1 v1 r1 hq1 p e R s0 m args below meth cd H1 locs1 (cells + c1) (slots + s1) arr C9 hh1 hS1 hl9 (by omega) (by omega)
      cases ov <;> exact e9)
theorem so_callV : ru_callV (q_C l D B sb) := by
  intro X pc ls st K v r c s Q Y idx n c1 s1 c2 s2 as rest ls0 Q1 a ci d hw hl hst hse hka hci hcl hx hhY hst2 hln hls hlz hfit hcc hss hr8 hnm k1 k2 k3 p e R s0 m args below meth cd H locs cells slots arr C9 hH9 hS9 hl9 hc9 hs9
  obtain ⟨ws, tys, hK, hP, hD, hA, hM, h0, xs, hX, hxs⟩ := id hH9
  obtain ⟨hx8, hb8, hml8, hrt8, hown8, htw8, hlk8, hnm8, htab8, hw8, hB8, hBs8, hRf8, hRl8, hsb8, hst8⟩ := id C9
  have hcode : q_cd Y ∈ q_ws Y := List.mem_cons_self
  have hcode2 := htw8 _ (q_ws_in hw _ hcode)
  have hmet := q_met (B := B) (sb := sb) (D := D) hw hls (by rw [List.map_cons, List.sum_cons]; show 1 + _ ≤ _; omega) hB8 hsb8 hst8 k1
  have hfr1 : (q_rm Y c1 s1).frames + 1 ≤ R.frames := by rw [hRf8]; exact hfit.1
  have hfr2 : 8 + (q_n Y + 11) + (q_rm Y c1 s1).locals ≤ R.locals := by rw [hRl8]; exact hfit.2
  have hrest : 2 * (F0 m pc arr (st.map (q_val sb))).monitorRoom + ((rest.map (q_val sb)).map fun v => v.category).sum ≤ 8 := by
    rw [q_cats]
    show 2 * 0 + _ ≤ _
    omega
  obtain ⟨hlen, q0, ee, hq0, hrel⟩ := hA a (by omega)
  have ha : a ≠ 0 := fun e => by rw [e, h0] at hka; omega
  obtain rfl := q_rel_obj hrel hka hci
  obtain ⟨T9, N9, hcl9⟩ := hcl
  have hrc := va_recv hK hP hcl9 hq0
  have hpre : PreV s0 H (q_y Y).cls a (q_Pc D B sb K v r (q_R a :: as)) (as.map (q_val sb)) := ⟨q_blind, hrc, fun U hU hW => by
    have := q_pre (as := q_R a :: as) hH9 hS9 hw8 hBs8 U hU hW
    rw [List.map_cons, q_valR ha] at this
    exact this⟩
  have hcd : q_cd Y = Cond.code (q_y Y) (q_b Y) (q_n Y) (q_rt Y) := by unfold q_cd; rw [if_pos hhY]
  rw [hcd] at hcode hcode2
  have hrun : vx_Run p l e R s0 m args below meth cd H locs cells slots c1 s1 (F0 m pc arr (st.map (q_val sb))) (rest.map (q_val sb)) (q_Qc D B sb Q1 ((Value.ref a :: as.map (q_val sb)).toArray)) (q_Xc D B sb Q1) (fun q => B ≤ q) :=
    vx_runV ⟨hx8, hb8, hml8, hown8, htw8⟩ hmet ⟨⟨rfl, rfl, hfr1, hfr2, pay_in htw8 (q_goodIn (q_ws_in hw)), hcode, hcode2, htw8 _ hw.2.2.2.2.2, ⟨hw.2.1, hw.2.2.1⟩, q_arity hw, htw8 _ hl⟩, htw8 _ hst, htw8 _ hse⟩ hpre rfl (by rw [List.length_map]; exact hln) hl9.1 (by show st.map (q_val sb) = _; rw [hst2, List.map_append, List.map_reverse, List.map_cons, q_valR ha]) hrest d ⟨by omega, by omega⟩
  exact q_back hrun hS9 (fun E ce q9 K1 v1 r1 H1 locs1 hq1 hh1 hS1 hcell hcv hcl => vx_out (by rw [htab8, hx]; intro x hx9; cases hx9) hlk8 hcell hcv hcl (fun t ht hal => ⟨⟨K1, v1, r1, k3 E K1 v1 r1 hq1, by rw [ht]; exact q_heap_moved hal hh1⟩, q_F9 ht hS1⟩) (fun z hz => hS1.2.2 z hz) (by omega) (by omega)) (fun ov K1 v1 r1 H1 locs1 hq1 hh1 hS1 => by
      have e9 := k2 ov K1 v1 r1 hq1 p e R s0 m args below meth cd H1 locs1 (cells + c1) (slots + s1) arr C9 hh1 hS1 hl9 (by omega) (by omega)
      cases ov <;> exact e9)
theorem so_callVH : ru_callVH (q_C l D B sb) := by
  intro X pc ls st K v r c s Q Y idx n c1 s1 c2 s2 as rest ls0 Q1 a ci d hw hl hst hse hka hci hcl hhY hst2 hln hls hlz hfit hcc hss hr8 hnm k1 k2 k3 p e R s0 m args below meth cd H locs cells slots arr C9 hH9 hS9 hl9 hc9 hs9
  obtain ⟨ws, tys, hK, hP, hD, hA, hM, h0, xs, hX, hxs⟩ := id hH9
  obtain ⟨hx8, hb8, hml8, hrt8, hown8, htw8, hlk8, hnm8, htab8, hw8, hB8, hBs8, hRf8, hRl8, hsb8, hst8⟩ := id C9
  have hcode : q_cd Y ∈ q_ws Y := List.mem_cons_self
  have hcode2 := htw8 _ (q_ws_in hw _ hcode)
  have hmet := q_met (B := B) (sb := sb) (D := D) hw hls (by rw [List.map_cons, List.sum_cons]; show 1 + _ ≤ _; omega) hB8 hsb8 hst8 k1
  have hfr1 : (q_rm Y c1 s1).frames + 1 ≤ R.frames := by rw [hRf8]; exact hfit.1
  have hfr2 : 8 + (q_n Y + 11) + (q_rm Y c1 s1).locals ≤ R.locals := by rw [hRl8]; exact hfit.2
  have hrest : 2 * (F0 m pc arr (st.map (q_val sb))).monitorRoom + ((rest.map (q_val sb)).map fun v => v.category).sum ≤ 8 := by
    rw [q_cats]
    show 2 * 0 + _ ≤ _
    omega
  obtain ⟨hlen, q0, ee, hq0, hrel⟩ := hA a (by omega)
  have ha : a ≠ 0 := fun e => by rw [e, h0] at hka; omega
  obtain rfl := q_rel_obj hrel hka hci
  obtain ⟨T9, N9, hcl9⟩ := hcl
  have hrc := va_recv hK hP hcl9 hq0
  have hpre : PreV s0 H (q_y Y).cls a (q_Pc D B sb K v r (q_R a :: as)) (as.map (q_val sb)) := ⟨q_blind, hrc, fun U hU hW => by
    have := q_pre (as := q_R a :: as) hH9 hS9 hw8 hBs8 U hU hW
    rw [List.map_cons, q_valR ha] at this
    exact this⟩
  have hcd : q_cd Y = Cond.code (q_y Y) (q_b Y) (q_n Y) (q_rt Y) := by unfold q_cd; rw [if_pos hhY]
  rw [hcd] at hcode hcode2
  have hrun : vx_Run p l e R s0 m args below meth cd H locs cells slots c1 s1 (F0 m pc arr (st.map (q_val sb))) (rest.map (q_val sb)) (q_Qc D B sb Q1 ((Value.ref a :: as.map (q_val sb)).toArray)) (q_Xc D B sb Q1) (fun q => B ≤ q) :=
    vx_runV ⟨hx8, hb8, hml8, hown8, htw8⟩ hmet ⟨⟨rfl, rfl, hfr1, hfr2, pay_in htw8 (q_goodIn (q_ws_in hw)), hcode, hcode2, htw8 _ hw.2.2.2.2.2, ⟨hw.2.1, hw.2.2.1⟩, q_arity hw, htw8 _ hl⟩, htw8 _ hst, htw8 _ hse⟩ hpre rfl (by rw [List.length_map]; exact hln) hl9.1 (by show st.map (q_val sb) = _; rw [hst2, List.map_append, List.map_reverse, List.map_cons, q_valR ha]) hrest d ⟨by omega, by omega⟩
  exact q_back hrun hS9 (fun E ce q9 K1 v1 r1 H1 locs1 hq1 hh1 hS1 hcell hcv hcl => by
      obtain ⟨h, k, n9, ⟨pre, x, suf, g1, g2, g3, g4, g5, g6, g7⟩, ⟨hk9, has⟩, kP⟩ := k3 E K1 v1 r1 hq1
      refine vx_catch hown8 pre x suf (htab8.trans g1) (fun z hz => ?_) g3 g4 (htw8 _ g5) (va_Nw.use rfl (hw8.2.2.1 E g6)) hcell hcv hcl ?_
      · rcases g2 z hz with g | ⟨ga, nm, gb, gc, gd⟩
        · exact Or.inl g
        · exact Or.inr ⟨ga, nm, htw8 _ gb, hw8.2.2.2.1 E g6 nm gc gd⟩
      · rw [g7]
        rcases has with ⟨f, hd9, hf9, hn9⟩ | ⟨hd9, hn9⟩
        · subst hn9
          refine lv_astore_n hx8 hb8 hd9 hf9 (q_loc_has hl9) hk9 rfl (fun arr2 hl2 => ?_)
          exact kP p e R s0 m args below meth cd H1 locs1 (cells + c1) (slots + s1) arr2 C9 hh1 hS1 (q_loc_del hl2) (by omega) (by omega)
        · subst hn9
          refine lv_astore hx8 hb8 hd9 (q_loc_has hl9) hk9 rfl (fun arr2 hl2 => ?_)
          exact kP p e R s0 m args below meth cd H1 locs1 (cells + c1) (slots + s1) arr2 C9 hh1 hS1 (q_loc_del hl2) (by omega) (by omega)) (fun ov K1 v1 r1 H1 locs1 hq1 hh1 hS1 => by
      have e9 := k2 ov K1 v1 r1 hq1 p e R s0 m args below meth cd H1 locs1 (cells + c1) (slots + s1) arr C9 hh1 hS1 hl9 (by omega) (by omega)
      cases ov <;> exact e9)
theorem so_callI : ru_callI (q_C l D B sb) := by
  intro X pc ls st K v r c s Q Y idx n c1 s1 c2 s2 as rest ls0 Q1 a d hw hini hrt hl hst hka hhY hst2 hln hls hlz hfit hcc hss hr8 hnm k1 k2 k3 p e R s0 m args below meth cd H locs cells slots arr C9 hH9 hS9 hl9 hc9 hs9
  obtain ⟨ws, tys, hK, hP, hD, hA, hM, h0, xs, hX, hxs⟩ := id hH9
  obtain ⟨hx8, hb8, hml8, hrt8, hown8, htw8, hlk8, hnm8, htab8, hw8, hB8, hBs8, hRf8, hRl8, hsb8, hst8⟩ := id C9
  have hcode : q_cd Y ∈ q_ws Y := List.mem_cons_self
  have hcode2 := htw8 _ (q_ws_in hw _ hcode)
  have hmet := q_met (B := B) (sb := sb) (D := D) hw hls (by rw [List.map_cons, List.sum_cons]; show 1 + _ ≤ _; omega) hB8 hsb8 hst8 k1
  have hfr1 : (q_rm Y c1 s1).frames + 1 ≤ R.frames := by rw [hRf8]; exact hfit.1
  have hfr2 : 8 + (q_n Y + 11) + (q_rm Y c1 s1).locals ≤ R.locals := by rw [hRl8]; exact hfit.2
  have hrest : 2 * (F0 m pc arr (st.map (q_val sb))).monitorRoom + ((rest.map (q_val sb)).map fun v => v.category).sum ≤ 8 := by
    rw [q_cats]
    show 2 * 0 + _ ≤ _
    omega
  have hmet0 := q_met0 hmet k3
  have ha : a ≠ 0 := fun e => hka (by rw [e]; exact h0)
  have hpre : PreS s0 H (q_Pc D B sb K v r (q_R a :: as)) (.ref a :: as.map (q_val sb)) := ⟨q_blind, fun U hU hW => by
    have := q_pre (as := q_R a :: as) hH9 hS9 hw8 hBs8 U hU hW
    rw [List.map_cons, q_valR ha] at this
    exact this⟩
  have hcd : q_cd Y = Cond.code (q_y Y) (q_b Y) (q_n Y) none := by unfold q_cd; rw [if_pos hhY, hrt]
  rw [hcd] at hcode hcode2
  have hrun : va_Run p l e R s0 m args below meth cd H locs cells slots c1 s1 (F0 m pc arr (st.map (q_val sb))) (rest.map (q_val sb)) (q_Qc D B sb Q1 ((Value.ref a :: as.map (q_val sb)).toArray)) (fun q => B ≤ q) := by
    rcases hl with hl | ⟨host, hl⟩
    · exact va_runI ⟨hx8, hb8, hml8, hown8, htw8⟩ hmet0 ⟨⟨rfl, rfl, hfr1, hfr2, pay_in htw8 (q_goodIn (q_ws_in hw)), hcode, hcode2, htw8 _ hw.2.2.2.2.2, ⟨hw.2.1, hw.2.2.1⟩, q_arity hw, htw8 _ hl⟩, hini, htw8 _ hst⟩ hpre rfl (by rw [List.length_map]; exact hln) hl9.1 (by show st.map (q_val sb) = _; rw [hst2, List.map_append, List.map_reverse, List.map_cons, q_valR ha]) hrest d ⟨by omega, by omega⟩
    · exact va_runIN ⟨hx8, hb8, hml8, hown8, htw8⟩ hmet0 ⟨⟨⟨rfl, rfl, hfr1, hfr2, pay_in htw8 (q_goodIn (q_ws_in hw)), hcode⟩, hcode2, htw8 _ hw.2.2.2.2.2, ⟨hw.2.1, hw.2.2.1⟩, q_arity hw, va_Nw.use rfl (hw8.2.2.2.2.2.1 _ hl)⟩, hini, htw8 _ hst⟩ hpre rfl (by rw [List.length_map]; exact hln) hl9.1 (by show st.map (q_val sb) = _; rw [hst2, List.map_append, List.map_reverse, List.map_cons, q_valR ha]) hrest d ⟨by omega, by omega⟩
  exact q_back (fun T hT X => Or.inl (hrun T hT X)) hS9 (fun E ce q9 K1 v1 r1 H1 locs1 hq1 => absurd hq1 (k3 E K1 v1 r1)) (fun ov K1 v1 r1 H1 locs1 hq1 hh1 hS1 => by
      have e9 := k2 ov K1 v1 r1 hq1 p e R s0 m args below meth cd H1 locs1 (cells + c1) (slots + s1) arr C9 hh1 hS1 hl9 (by omega) (by omega)
      cases ov <;> exact e9)
theorem so_objI : ru_objI (q_C l D B sb) := by
  intro X pc ls st K v r c s Q a idx d hl hr8 hfr k1 p e R s0 m args below meth cd H locs cells slots arr C9 hH9 hS9 hl9 hc9 hs9
  obtain ⟨ws, tys, hK, hP, hD, hA, hM, h0, xs, hX, hxs⟩ := id hH9
  obtain ⟨hx8, hb8, hml8, hrt8, hown8, htw8, hlk8, hnm8, htab8, hw8, hB8, hBs8, hRf8, hRl8, hsb8, hst8⟩ := id C9
  refine W.objInit hx8 hb8 hown8 (htw8 _ hl) (htw8 _ g_oi) (htw8 _ g_oc) (g := F0 m pc arr ((q_R a :: st).map (q_val sb))) rfl (by rw [hml8]; exact hl9.1) rfl d (by omega) ?_ (k1  p e R s0 m args below meth cd H locs cells slots arr C9 hH9 hS9 hl9 hc9 hs9)
  rw [q_cats]
  show 2 * 0 + _ + 12 ≤ _
  omega
theorem so_mmin : ru_mmin (q_C l D B sb) := by
  intro X pc ls st K v r c s Q idx x y d hl hr8 hfr hx hy k1 p e R s0 m args below meth cd H locs cells slots arr C9 hH9 hS9 hl9 hc9 hs9
  obtain ⟨ws, tys, hK, hP, hD, hA, hM, h0, xs, hX, hxs⟩ := id hH9
  obtain ⟨hx8, hb8, hml8, hrt8, hown8, htw8, hlk8, hnm8, htab8, hw8, hB8, hBs8, hRf8, hRl8, hsb8, hst8⟩ := id C9
  refine va_mmin hx8 hb8 (by rw [hml8]; exact hl9.1.symm) hown8 (htw8 _ hl) (htw8 _ g_min_s) (htw8 _ g_mi) (htw8 _ g_min_c) (by omega) (by rw [q_cats]; omega) (by omega) (by omega) d ?_
  have e9 := k1  p e R s0 m args below meth cd H locs cells slots arr C9 hH9 hS9 hl9 hc9 hs9
  rw [List.map_cons] at e9
  have e1 : q_val sb (q_I (min x y)) = .int (if Int32.ofInt y < Int32.ofInt x then Int32.ofInt y else Int32.ofInt x) := by
    simp only [q_val, q_lt32 hx hy, q_lt32 hy hx]
    split <;> congr 2 <;> omega
  rw [e1] at e9
  exact e9
theorem so_mmax : ru_mmax (q_C l D B sb) := by
  intro X pc ls st K v r c s Q idx x y d hl hr8 hfr hx hy k1 p e R s0 m args below meth cd H locs cells slots arr C9 hH9 hS9 hl9 hc9 hs9
  obtain ⟨ws, tys, hK, hP, hD, hA, hM, h0, xs, hX, hxs⟩ := id hH9
  obtain ⟨hx8, hb8, hml8, hrt8, hown8, htw8, hlk8, hnm8, htab8, hw8, hB8, hBs8, hRf8, hRl8, hsb8, hst8⟩ := id C9
  refine va_mmax hx8 hb8 (by rw [hml8]; exact hl9.1.symm) hown8 (htw8 _ hl) (htw8 _ g_max_s) (htw8 _ g_mi) (htw8 _ g_max_c) (by omega) (by rw [q_cats]; omega) (by omega) (by omega) d ?_
  have e9 := k1  p e R s0 m args below meth cd H locs cells slots arr C9 hH9 hS9 hl9 hc9 hs9
  rw [List.map_cons] at e9
  have e1 : q_val sb (q_I (max x y)) = .int (if Int32.ofInt x < Int32.ofInt y then Int32.ofInt y else Int32.ofInt x) := by
    simp only [q_val, q_lt32 hx hy, q_lt32 hy hx]
    split <;> congr 2 <;> omega
  rw [e1] at e9
  exact e9
theorem so_acopy : ru_acopy (q_C l D B sb) := by
  intro X pc ls st K v r c s Q idx a b sp dp n d hl hr8 hfr ha hb h1 h2 h3 k1 p e R s0 m args below meth cd H locs cells slots arr C9 hH9 hS9 hl9 hc9 hs9
  obtain ⟨ws, tys, hK, hP, hD, hA, hM, h0, xs, hX, hxs⟩ := id hH9
  obtain ⟨hx8, hb8, hml8, hrt8, hown8, htw8, hlk8, hnm8, htab8, hw8, hB8, hBs8, hRf8, hRl8, hsb8, hst8⟩ := id C9
  obtain ⟨hlen, q0, ee, hq0, hrel⟩ := hA a (by omega)
  obtain ⟨hlenb, qb, eb, hqb, hrelb⟩ := hA b (by omega)
  have ha0 : a ≠ 0 := fun e => by rw [e, h0] at ha; omega
  have hb0 : b ≠ 0 := fun e => by rw [e, h0] at hb; omega
  obtain ⟨cA, hcA, rfl⟩ := q_rel_i hrel ha
  obtain ⟨cB, hcB, rfl⟩ := q_rel_i hrelb hb
  obtain ⟨t0, ht0⟩ := List.getElem?_of_mem hcA
  obtain ⟨t1, ht1⟩ := List.getElem?_of_mem hcB
  have hMc : q_mem K (q_cp v a sp b dp n) := by
    intro x j hx9 hj9
    unfold q_cp
    split
    next h9 =>
      rw [h9.1, hb]
      have := hM a (sp + (j - dp)) (by omega) (by omega)
      rw [ha] at this
      unfold q_okm at this ⊢
      rw [if_neg (by decide), if_neg (by decide), if_neg (by decide), if_pos (by decide)] at this ⊢
      exact this
    next => exact hM x j hx9 hj9
  rw [List.map_cons, List.map_cons, List.map_cons, List.map_cons, List.map_cons, q_valR ha0, q_valR hb0]
  refine va_copyi hx8 hb8 (by rw [hml8]; exact hl9.1.symm) hown8 (htw8 _ hl) (htw8 _ g_an) (htw8 _ g_as) (htw8 _ g_si) hK hP hD hS9 q0 qb t0 t1 hq0 hqb ht0 ht1 rfl (q_neg32 h1.1 (by omega)) (q_neg32 h2.1 (by omega)) (q_neg32 h3 (by omega)) (by rw [q_nat32 h1.1 (by omega), q_nat32 h3 (by omega)]; omega) (by rw [q_nat32 h2.1 (by omega), q_nat32 h3 (by omega)]; omega) (fun i hi => rfl) (by omega) ?_ d (fun H1 locs1 hP1 hD1 hS1 => ?_)
  · rw [q_cats]
    have : nativeFrameWords "java/lang/System" "arraycopy" 5 ≤ 40 := by decide +kernel
    omega
  · rw [q_nat32 h1.1 (by omega), q_nat32 h2.1 (by omega), q_nat32 h3 (by omega), q_cpy h1.1 h2.1 h3] at hP1 hD1
    exact k1  p e R s0 m args below meth cd H1 locs1 cells slots arr C9 (q_heap_set hK hA h0 hX hxs hqb hb0 hP1 hD1 (Or.inr (Or.inl ⟨hb, cB, hcB, rfl⟩)) (fun b2 hb2 => ⟨q_cp_o hb2, rfl⟩) hMc (q_sb hS9 hS1 hBs8 hsb8)) hS1 hl9 hc9 hs9
theorem so_ret : ru_ret (q_C l D B sb) := by
  intro X pc ls K v r c s Q d hr hq p e R s0 m args below meth cd H locs cells slots arr C9 hH9 hS9 hl9 hc9 hs9
  obtain ⟨hx8, hb8, hml8, hrt8, hown8, htw8, hlk8, hnm8, htab8, hw8, hB8, hBs8, hRf8, hRl8, hsb8, hst8⟩ := id C9
  refine W.widen (k := R.cells) (n := R.slots) (by omega) (by omega) ?_
  refine vx_ret ?_
  exact W.vret hx8 hb8 (hrt8.trans hr) (fun t ht hW => ⟨⟨none, K, v, r, rfl, hq, by rw [ht]; exact q_heap_moved hW.alike hH9⟩, q_F9 ht hS9⟩) (fun q hq2 => hS9.2.2 q hq2) d hlk8
theorem so_iret : ru_iret (q_C l D B sb) := by
  intro X pc ls K v r c s Q z d hr hq p e R s0 m args below meth cd H locs cells slots arr C9 hH9 hS9 hl9 hc9 hs9
  obtain ⟨hx8, hb8, hml8, hrt8, hown8, htw8, hlk8, hnm8, htab8, hw8, hB8, hBs8, hRf8, hRl8, hsb8, hst8⟩ := id C9
  refine W.widen (k := R.cells) (n := R.slots) (by omega) (by omega) ?_
  refine vx_ret ?_
  rcases hr with hr | ⟨hr, hz⟩
  · exact W.iret hx8 hb8 (hrt8.trans hr) (fun t ht hW => ⟨⟨some (q_I z), K, v, r, rfl, hq, by rw [ht]; exact q_heap_moved hW.alike hH9⟩, q_F9 ht hS9⟩) (fun q hq2 => hS9.2.2 q hq2) d hlk8
  · exact W.zret hx8 hb8 (hrt8.trans hr) (q_narZ hz) (fun t ht hW => ⟨⟨some (q_I z), K, v, r, rfl, hq, by rw [ht]; exact q_heap_moved hW.alike hH9⟩, q_F9 ht hS9⟩) (fun q hq2 => hS9.2.2 q hq2) d hlk8
theorem so_aret : ru_aret (q_C l D B sb) := by
  intro X pc ls K v r c s Q a cn d hr hq p e R s0 m args below meth cd H locs cells slots arr C9 hH9 hS9 hl9 hc9 hs9
  obtain ⟨hx8, hb8, hml8, hrt8, hown8, htw8, hlk8, hnm8, htab8, hw8, hB8, hBs8, hRf8, hRl8, hsb8, hst8⟩ := id C9
  refine W.widen (k := R.cells) (n := R.slots) (by omega) (by omega) ?_
  refine vx_ret ?_
  exact W.aret hx8 hb8 (hrt8.trans hr) (Or.inl ⟨cn, rfl⟩) (Or.inr ⟨_, rfl⟩) (fun t ht hW => ⟨⟨some (q_R a), K, v, r, rfl, hq, by rw [ht]; exact q_heap_moved hW.alike hH9⟩, q_F9 ht hS9⟩) (fun q hq2 => hS9.2.2 q hq2) d hlk8
theorem so_thrS : ru_thrS (q_C l D B sb) := by
  intro X pc ls st K v r c s Q ik is ic E d0 d3 d4 d6 d9 he hs hx hr8 hfr hc hs6 hq p e R s0 m args below meth cd H locs cells slots arr C9 hH9 hS9 hl9 hc9 hs9
  obtain ⟨hx8, hb8, hml8, hrt8, hown8, htw8, hlk8, hnm8, htab8, hw8, hB8, hBs8, hRf8, hRl8, hsb8, hst8⟩ := id C9
  obtain ⟨he1, he2, he3, he4, he5, he6⟩ := he
  obtain ⟨tx, htx⟩ := hs
  obtain ⟨sa, hsa⟩ := hw8.2.2.2.2.1 _ htx
  have hne : ∀ (pcx : Nat), ∀ x ∈ cd.exceptionTable.toList, covers x pcx = false := by
    intro pcx x hx9
    rw [htab8, hx] at hx9
    cases hx9
  refine vx_throwS (names := q_exn) (A := fun q => B ≤ q) hx8 hb8 hst8 hown8 (q_fits E he1) q_fitn (htw8 _ he2) (htw8 _ he3) hsa (vx_hat (fun w hw => htw8 _ (he4 w hw)) he5 (vx_c (va_Nw.use rfl (hw8.2.2.1 E he1)) (fun w hw => va_Nw.use (q_dcl_ot w hw) (hw8.2.2.2.2.2.1 w (q_dcl_nest w hw))))) he6 hw8.1 hw8.2.1 hS9 (hl9.1.trans hml8.symm) d0 d3 d4 d6 d9 (hne _) (by rw [hRf8]; show 2 + 3 < _; omega) ?_ (by omega) (by omega) hlk8 (fun t hal hsz hkp => ⟨⟨K, v, r, hq, q_heap_kept hal hH9 hkp⟩, Nat.le_trans hS9.1 hsz, fun q hq1 hq2 => by rw [hkp q (Nat.lt_of_lt_of_le hq1 hS9.1)]; exact hS9.2.1 q hq1 hq2⟩) (fun z hz => hS9.2.2 z hz) (by omega) (by omega)
  rw [q_cats]
  show _ + (13 * (2 + 1) + 43) ≤ _
  omega
theorem so_thrW : ru_thrW (q_C l D B sb) := by
  intro X pc ls st K v r c s Q ik is ic E d0 d3 d4 d7 d10 he hs hx hr8 hfr hc hs6 hq p e R s0 m args below meth cd H locs cells slots arr C9 hH9 hS9 hl9 hc9 hs9
  obtain ⟨hx8, hb8, hml8, hrt8, hown8, htw8, hlk8, hnm8, htab8, hw8, hB8, hBs8, hRf8, hRl8, hsb8, hst8⟩ := id C9
  obtain ⟨he1, he2, he3, he4, he5, he6⟩ := he
  obtain ⟨tx, htx⟩ := hs
  obtain ⟨sa, hsa⟩ := hw8.2.2.2.2.1 _ htx
  have hne : ∀ (pcx : Nat), ∀ x ∈ cd.exceptionTable.toList, covers x pcx = false := by
    intro pcx x hx9
    rw [htab8, hx] at hx9
    cases hx9
  refine vx_throwSW (names := q_exn) (A := fun q => B ≤ q) hx8 hb8 hst8 hown8 (q_fits E he1) q_fitn (htw8 _ he2) (htw8 _ he3) hsa (vx_hat (fun w hw => htw8 _ (he4 w hw)) he5 (vx_c (va_Nw.use rfl (hw8.2.2.1 E he1)) (fun w hw => va_Nw.use (q_dcl_ot w hw) (hw8.2.2.2.2.2.1 w (q_dcl_nest w hw))))) he6 hw8.1 hw8.2.1 hS9 (hl9.1.trans hml8.symm) d0 d3 d4 d7 d10 (hne _) (by rw [hRf8]; show 2 + 3 < _; omega) ?_ (by omega) (by omega) hlk8 (fun t hal hsz hkp => ⟨⟨K, v, r, hq, q_heap_kept hal hH9 hkp⟩, Nat.le_trans hS9.1 hsz, fun q hq1 hq2 => by rw [hkp q (Nat.lt_of_lt_of_le hq1 hS9.1)]; exact hS9.2.1 q hq1 hq2⟩) (fun z hz => hS9.2.2 z hz) (by omega) (by omega)
  rw [q_cats]
  show _ + (13 * (2 + 1) + 43) ≤ _
  omega
theorem so_drop : ru_drop (q_C l D B sb) := by
  intro X pc ls st K v r c s Q k ls2 hl k1 p e R s0 m args below meth cd H locs cells slots arr C9 hH9 hS9 hl9 hc9 hs9
  subst hl
  exact k1  p e R s0 m args below meth cd H locs cells slots arr C9 hH9 hS9 ⟨hl9.1, hl9.2.1, fun j x hj => hl9.2.2 j x (by rw [List.getElem?_set] at hj; split at hj; (split at hj <;> cases hj); exact hj)⟩ hc9 hs9
theorem so_conseq : ru_conseq (q_C l D B sb) := by
  intro X pc ls st K v r c s Q Q1 h k1 p e R s0 m args below meth cd H locs cells slots arr C9 hH9 hS9 hl9 hc9 hs9
  intro T hT X9
  obtain ⟨t, h1, o, h2, h3, h4⟩ := k1  p e R s0 m args below meth cd H locs cells slots arr C9 hH9 hS9 hl9 hc9 hs9 T hT X9
  refine ⟨t, h1, o, h2, h3, ?_⟩
  rcases h4 with ⟨⟨⟨ov, K1, v1, r1, g1, g2, g3⟩, g4⟩, g5⟩ | ⟨q, g1, E, ce, L, ⟨⟨K1, v1, r1, g2, g3⟩, g4⟩, g5⟩
  · exact Or.inl ⟨⟨⟨ov, K1, v1, r1, g1, h _ _ _ _ g2, g3⟩, g4⟩, g5⟩
  · exact Or.inr ⟨q, g1, E, ce, L, ⟨⟨K1, v1, r1, h _ _ _ _ g2, g3⟩, g4⟩, g5⟩
theorem so_room : ru_room (q_C l D B sb) := by
  intro X pc ls st K v r c s Q c1 s1 hc hs k1 p e R s0 m args below meth cd H locs cells slots arr C9 hH9 hS9 hl9 hc9 hs9
  exact k1  p e R s0 m args below meth cd H locs cells slots arr C9 hH9 hS9 hl9 (by omega) (by omega)
theorem so_retag : ru_retag (q_C l D B sb) := by
  intro X pc ls st K v r c s Q K2 h k1 p e R s0 m args below meth cd H locs cells slots arr C9 hH9 hS9 hl9 hc9 hs9
  obtain ⟨ws, tys, hK, hP, hD, hA, hM, h0, xs, hX, hxs⟩ := id hH9
  have hr : ∀ (t : List (ClassId × FieldType)) (k1 k2 : Nat × Nat × Int) (v : Int → Int) (r : Int → Nat) (e : va_E), k2.1 = k1.1 → k2.2.1 = k1.2.1 → q_rel t k1 v r e → q_rel t k2 v r e := by
    intro t k1 k2 v r e h1 h2 h3
    unfold q_rel at *
    rw [h1, h2]; exact h3
  exact k1  p e R s0 m args below meth cd H locs cells slots arr C9 ⟨ws, tys, hK, hP, hD, fun a ha => by obtain ⟨g0, q0, e0, g1, g2⟩ := hA a (by rw [← (h a).1]; exact ha); exact ⟨by rw [(h a).2]; exact g0, q0, e0, g1, hr _ _ _ _ _ _ (h a).1 (h a).2 g2⟩, fun a j ha hj => by rw [(h a).1]; exact hM a j (by rw [← (h a).1]; exact ha) hj, (h 0).1.trans h0, xs, by rw [(h 0).2]; exact hX, fun j hj => hxs j (by rw [← (h 0).2]; exact hj)⟩ hS9 hl9 hc9 hs9
theorem so_memo : ru_memo (q_C l D B sb) := by
  intro X pc ls st K v r c s Q k1 p e R s0 m args below meth cd H locs cells slots arr C9 hH9 hS9 hl9 hc9 hs9
  obtain ⟨ws, tys, h1, h2, h3, h4, h5, h6⟩ := id hH9
  exact k1 h5 p e R s0 m args below meth cd H locs cells slots arr C9 hH9 hS9 hl9 hc9 hs9
theorem so_k0 : ru_k0 (q_C l D B sb) := by
  intro X pc ls st K v r c s Q k1 p e R s0 m args below meth cd H locs cells slots arr C9 hH9 hS9 hl9 hc9 hs9
  obtain ⟨ws, tys, h1, h2, h3, h4, h5, h6, h7⟩ := id hH9
  exact k1 h6 p e R s0 m args below meth cd H locs cells slots arr C9 hH9 hS9 hl9 hc9 hs9
theorem so_g0 : ru_g0 (q_C l D B sb) := ⟨so_iconst, so_bipush, so_sipush, so_lconst, so_ldc2, so_iload_n, so_iload, so_aload_n⟩
theorem so_g1 : ru_g1 (q_C l D B sb) := ⟨so_aload, so_lload_n, so_lload, so_istore_n, so_istore, so_astore_n, so_astore, so_lstore_n⟩
theorem so_g2 : ru_g2 (q_C l D B sb) := ⟨so_iinc, so_iadd, so_isub, so_imul, so_idiv, so_irem, so_iand63, so_ladd⟩
theorem so_g3 : ru_g3 (q_C l D B sb) := ⟨so_lmul, so_ldiv, so_lrem, so_lcmp, so_i2l, so_l2i, so_if_eq, so_icmp_eq⟩
theorem so_g4 : ru_g4 (q_C l D B sb) := ⟨so_if_ne, so_icmp_ne, so_if_lt, so_icmp_lt, so_if_ge, so_icmp_ge, so_if_gt, so_icmp_gt⟩
theorem so_g5 : ru_g5 (q_C l D B sb) := ⟨so_if_le, so_icmp_le, so_icmp_geA, so_goto, so_tsIn, so_tsOut, so_dup, so_dup2⟩
theorem so_g6 : ru_g6 (q_C l D B sb) := ⟨so_pop, so_getI, so_getL, so_getR, so_putI, so_putB, so_putL, so_putR⟩
theorem so_g7 : ru_g7 (q_C l D B sb) := ⟨so_iald, so_lald, so_zald, so_aald, so_iast, so_last, so_zast, so_aast⟩
theorem so_g8 : ru_g8 (q_C l D B sb) := ⟨so_sald, so_slen, so_alen, so_new, so_newI, so_newL, so_newZ, so_newA⟩
theorem so_g9 : ru_g9 (q_C l D B sb) := ⟨so_callS, so_callV, so_callVH, so_callI, so_objI, so_mmin, so_mmax, so_acopy⟩
theorem so_g10 : ru_g10 (q_C l D B sb) := ⟨so_ret, so_iret, so_aret, so_thrS, so_thrW, so_drop, so_conseq, so_room⟩
theorem so_g11 : ru_g11 (q_C l D B sb) := ⟨so_retag, so_memo, so_k0⟩
theorem so_closed : q_closed (q_C l D B sb) := ⟨so_g0, so_g1, so_g2, so_g3, so_g4, so_g5, so_g6, so_g7, so_g8, so_g9, so_g10, so_g11⟩
end QS
