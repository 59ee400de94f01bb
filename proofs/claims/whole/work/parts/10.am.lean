
/-! A SMALL MACHINE over decode: ints and longs are integers (mod 2^32, 2^64), a memory of cells: a kind (t, n, tag), numbers v a k, references r a k. q_Ev is the least predicate closed under the rules. -/
abbrev q_V : Type := Int ⊕ (Int ⊕ Nat)
abbrev q_I (z : Int) : q_V := Sum.inl z
abbrev q_L (z : Int) : q_V := Sum.inr (Sum.inl z)
abbrev q_R (a : Nat) : q_V := Sum.inr (Sum.inr a)
def q_val (x : q_V) : Value := match x with
  | .inl z => .int (Int32.ofInt z)
  | .inr (.inl z) => .long (Int64.ofInt z)
  | .inr (.inr a) => .ref a
def q_cat (x : q_V) : Nat := match x with
  | .inl _ => 1
  | .inr (.inl _) => 2
  | .inr (.inr _) => 1
abbrev q_X : Type := MethodName × ByteArray × Nat × Option FieldType × List (Nat × Nat × Nat × Nat) × Nat × Nat
abbrev q_y (X : q_X) : MethodName := X.1
abbrev q_b (X : q_X) : ByteArray := X.2.1
abbrev q_n (X : q_X) : Nat := X.2.2.1
abbrev q_rt (X : q_X) : Option FieldType := X.2.2.2.1
abbrev q_hh (X : q_X) : List (Nat × Nat × Nat × Nat) := X.2.2.2.2.1
abbrev q_fr (X : q_X) : Nat := X.2.2.2.2.2.1
abbrev q_lo (X : q_X) : Nat := X.2.2.2.2.2.2
abbrev q_Ls : Type := List (Option q_V)
abbrev q_K : Type := Nat → Nat × Nat × Nat
abbrev q_N : Type := Nat → Int → Int
abbrev q_A : Type := Nat → Int → Nat
abbrev q_Q : Type := (Option q_V ⊕ String) → q_K → q_N → q_A → Prop
abbrev q_P : Type := q_X → Nat → q_Ls → List q_V → q_K → q_N → q_A → Nat → Nat → q_Q → Prop
def q_kill : Nat → q_Ls → q_Ls
  | 0, ls => ls
  | i + 1, ls => match ls[i]? with
    | some (some (.inr (.inl _))) => ls.set i none
    | _ => ls
def q_set (ls : q_Ls) (i : Nat) (x : q_V) : q_Ls := (q_kill i ls).set i (some x)
def q_setL (ls : q_Ls) (i : Nat) (x : q_V) : q_Ls := ((q_kill i ls).set i (some x)).set (i + 1) none
/-- the locals at a method's entry -/
def q_ent : Nat → List q_V → q_Ls
  | n, [] => List.replicate n none
  | n, (.inr (.inl z)) :: as => some (.inr (.inl z)) :: none :: q_ent (n - 2) as
  | n, (.inl z) :: as => some (.inl z) :: q_ent (n - 1) as
  | n, (.inr (.inr a)) :: as => some (.inr (.inr a)) :: q_ent (n - 1) as
def q_iI (z : Int) : Prop := -2147483648 ≤ z ∧ z < 2147483648
def q_iL (z : Int) : Prop := -9223372036854775808 ≤ z ∧ z < 9223372036854775808
def q_cmp (x y : Int) : Int := if x < y then -1 else if x = y then 0 else 1
def q_up (v : q_N) (a : Nat) (k x : Int) : q_N := fun b j => if b = a ∧ j = k then x else v b j
def q_ur (r : q_A) (a : Nat) (k : Int) (x : Nat) : q_A := fun b j => if b = a ∧ j = k then x else r b j
def q_uk (K : q_K) (a : Nat) (t : Nat × Nat × Nat) : q_K := fun b => if b = a then t else K b
def q_z (v : q_N) (a : Nat) : q_N := fun b j => if b = a then 0 else v b j
def q_zr (r : q_A) (a : Nat) : q_A := fun b j => if b = a then 0 else r b j
/-- System.arraycopy within numbers -/
def q_cp (v : q_N) (a : Nat) (sp : Int) (b : Nat) (dp n : Int) : q_N := fun x j => if x = b ∧ dp ≤ j ∧ j < dp + n then v a (sp + (j - dp)) else v x j
/-- the classes: their fields' types: 0 int, 1 long, 2 boolean, 3 reference -/
def q_ts : Nat → List Nat
  | 0 => [0, 0, 3, 3]
  | 1 => [0, 0, 3, 0, 2, 0, 3]
  | 2 => [3, 3, 3, 0]
  | 3 => [0, 3, 3, 3]
  | 4 => [3, 3]
  | 5 => [0, 3, 3, 3]
  | 6 => [3, 3, 0, 0, 0]
  | 7 => [3, 3]
  | 8 => [0, 0, 0, 3, 3, 3, 3, 3]
  | 9 => [0, 0, 0, 0, 3, 2]
  | 10 => [3, 3, 3, 3, 3, 3, 3, 3, 0, 0, 0, 0, 0, 0]
  | _ => [1, 0, 3, 3, 3, 3, 3, 3, 3, 0, 0, 3, 3, 0, 3, 3, 0, 3, 3, 3, 3, 3, 3, 3, 3, 3, 3, 0, 3, 3, 3, 3, 3, 3, 0, 3, 0, 0, 0, 0, 3, 0, 3]
def q_sz (ci : Nat) : Nat := (q_ts ci).length
def q_ft (ci k : Nat) : Nat := (q_ts ci).getD k 0
def q_tyb (t : Nat) (ty : FieldType) : Bool := match t, ty with
  | 0, .int => true
  | 1, .long => true
  | 2, .boolean => true
  | 3, .object _ => true
  | 3, .array _ => true
  | _, _ => false
def q_cls (ci : Nat) (C : String) (T : u_T) (N : Nat) (tyf : Nat → FieldType) : Prop :=
  vwCl[ci]? = some (C, T, N) ∧ (∀ w ∈ u_ws C T N, w ∈ q_tw) ∧ (∀ k, k < N → parseFieldDescriptor (T k).2.2.1 = some (tyf k)) ∧ (∀ a, a < N → ∀ b, b < N → a ≠ b → (T a).2.1 ≠ (T b).2.1) ∧ N = q_sz ci ∧ (∀ k, k < N → q_tyb (q_ft ci k) (tyf k) = true) ∧ (∀ k, k < N → (T k).1 = C) ∧ ci < 12
/-- a field's link: the field j of class ci, of type t, final or not -/
def q_fl (own : String) (idx ci : Nat) (j : Int) (t : Nat) (fin : Bool) : Prop :=
  ∃ (C : String) (T : u_T) (N : Nat) (tyf : Nat → FieldType) (k : Nat), q_cls ci C T N tyf ∧ j = (k : Int) ∧ k < N ∧ q_ft ci k = t ∧ Cond.fieldLink own idx (T k).1 (T k).2.1 (T k).2.2.1 ∈ q_tw ∧ (T k).2.2.2 = fin
def q_nw (own : String) (idx ci : Nat) : Prop :=
  ∃ (C : String) (T : u_T) (N : Nat) (tyf : Nat → FieldType), q_cls ci C T N tyf ∧ Cond.classLink own idx C ∈ q_tw ∧ Cond.instantiable C N ∈ q_tw ∧ Cond.initialized C ∈ q_tw
def q_aoN : List String := [RX1, RX6, RX9]
def q_aw (own : String) (idx ci : Nat) : Prop := ∃ (C : String) (T : u_T) (N : Nat), vwCl[ci]? = some (C, T, N) ∧ ci < 12 ∧ Cond.classLink own idx C ∈ q_tw ∧ C ∈ q_aoN
/-- the words of a call that hold at every caller: the callee's class ready, its code -/
def q_cd (Y : q_X) : Cond := if q_hh Y = [] then Cond.code (q_y Y) (q_b Y) (q_n Y) (q_rt Y) else Cond.codeWith (q_y Y) (q_b Y) (q_n Y) (q_rt Y) (q_hh Y)
def q_ok (Y : q_X) (n : Nat) : Prop := plainName (q_y Y).cls = true ∧ (q_y Y).cls ≠ "java/lang/invoke/MethodHandle" ∧ (q_y Y).cls ≠ "java/lang/invoke/VarHandle" ∧ (parseMethodDescriptor (q_y Y).desc).map (fun d => d.parameters.length) = some n ∧ q_cd Y ∈ q_tw ∧ Cond.initialized (q_y Y).cls ∈ q_tw
def q_fit (X Y : q_X) : Prop := q_fr Y + 1 ≤ q_fr X ∧ 8 + (q_n Y + 11) + q_lo Y ≤ q_lo X
def q_exs : List String := ["java/lang/IllegalArgumentException", "java/lang/IllegalStateException", "java/lang/IndexOutOfBoundsException"]
def q_exn : List String := ["java/lang/RuntimeException", "java/lang/Exception"]
def q_ex (own : String) (ik ic : Nat) (E : String) : Prop := E ∈ q_exs ∧ Cond.classLink own ik E ∈ q_tw ∧ Cond.initialized E ∈ q_tw ∧ (∀ w ∈ (vx_atS own ic E q_exn).filter goodWord, w ∈ q_tw) ∧ (∀ w ∈ (vx_atS own ic E q_exn).filter (fun w => !goodWord w), w ∈ [Cond.castable E E]) ∧ (∀ w ∈ Cond.classLink own ik E :: Cond.initialized E :: vx_atS own ic E q_exn, vx_ot w = true)
/-- a handler of X for E at pc -/
def q_hd (X : q_X) (pc : Nat) (E : String) (h : Nat) : Prop := ∃ (pre : List ExceptionTableEntry) (x : ExceptionTableEntry) (suf : List ExceptionTableEntry), tableOf (q_hh X) = pre ++ x :: suf ∧
  (∀ z ∈ pre, covers z pc = false ∨ (z.catchType ≠ 0 ∧ ∃ nm, Cond.classLink (q_y X).cls z.catchType nm ∈ q_tw ∧ nm ∈ q_exs ∧ nm ≠ E)) ∧ covers x pc = true ∧ x.catchType ≠ 0 ∧ Cond.classLink (q_y X).cls x.catchType E ∈ q_tw ∧ E ∈ q_exs ∧ x.handlerPc = h
def q_okm (t : Nat) (j : Int) (z : Int) : Prop :=
  if t = 21 then q_iL z else if t = 22 then z = 0 ∨ z = 1 else if t = 12 ∧ j = 0 then q_iL z else q_iI z
def q_mem (K : q_K) (v : q_N) : Prop := ∀ a j, (K a).1 ≠ 0 → 0 ≤ j → q_okm (K a).1 j (v a j)

def q_strs : List (String × Nat × String) := [(RX10, 94, "the draft is full"), (RX10, 103, "nothing is drafted"), (RX10, 124, "the file is not there with its content"), (RX10, 126, "the file is not there"), (RX10, 202, "the file can't be opened"), (RX10, 218, "another one has the lock"), (RX10, 227, "nobody has the lock"), (RX10, 236, "there are ten holds"), (RX10, 273, "time ends with the hour 2000"), (RX10, 288, "a place is 0 or more"), (RX10, 327, "there is no such one"), (RX10, 331, "an argument is out of its range"), (RX10, 334, "there are more than 100 versions")]
def q_nest : List Cond := [.methodLinkNest RX10 21 yX2_init RX10, .methodLinkNest RX10 28 yX8_init RX10, .methodLinkNest RX10 35 yX4_init RX10, .methodLinkNest RX10 49 yX3_init RX10]

def ru_iconst (P : q_P) : Prop := ∀ {X : q_X} {pc : Nat} {ls : q_Ls} {st : List q_V} {K : q_K} {v : q_N} {r : q_A} {c : Nat} {s : Nat} {Q : q_Q} {n : Int} (d : decode (q_b X) pc = .ok (.iconst n, 1)) (k1 : P X (pc + 1) ls (q_I n :: st) K v r c s Q), P X pc ls st K v r c s Q
def ru_bipush (P : q_P) : Prop := ∀ {X : q_X} {pc : Nat} {ls : q_Ls} {st : List q_V} {K : q_K} {v : q_N} {r : q_A} {c : Nat} {s : Nat} {Q : q_Q} {n : Int} (d : decode (q_b X) pc = .ok (.bipush n, 2)) (hn : -128 ≤ n ∧ n < 128) (k1 : P X (pc + 2) ls (q_I n :: st) K v r c s Q), P X pc ls st K v r c s Q
def ru_sipush (P : q_P) : Prop := ∀ {X : q_X} {pc : Nat} {ls : q_Ls} {st : List q_V} {K : q_K} {v : q_N} {r : q_A} {c : Nat} {s : Nat} {Q : q_Q} {n : Int} (d : decode (q_b X) pc = .ok (.sipush n, 3)) (hn : -32768 ≤ n ∧ n < 32768) (k1 : P X (pc + 3) ls (q_I n :: st) K v r c s Q), P X pc ls st K v r c s Q
def ru_lconst (P : q_P) : Prop := ∀ {X : q_X} {pc : Nat} {ls : q_Ls} {st : List q_V} {K : q_K} {v : q_N} {r : q_A} {c : Nat} {s : Nat} {Q : q_Q} {n : Fin 2} {z : Int} (d : decode (q_b X) pc = .ok (.lconst n, 1)) (hn : ((n : Nat) : Int) = z) (k1 : P X (pc + 1) ls (q_L z :: st) K v r c s Q), P X pc ls st K v r c s Q
def ru_ldc2 (P : q_P) : Prop := ∀ {X : q_X} {pc : Nat} {ls : q_Ls} {st : List q_V} {K : q_K} {v : q_N} {r : q_A} {c : Nat} {s : Nat} {Q : q_Q} {i : Nat} {z : Int} (d : decode (q_b X) pc = .ok (.ldc2_w i, 3)) (hw : Cond.constantLong (q_y X).cls i (Int64.ofInt z) ∈ q_tw) (k1 : P X (pc + 3) ls (q_L z :: st) K v r c s Q), P X pc ls st K v r c s Q
def ru_iload_n (P : q_P) : Prop := ∀ {X : q_X} {pc : Nat} {ls : q_Ls} {st : List q_V} {K : q_K} {v : q_N} {r : q_A} {c : Nat} {s : Nat} {Q : q_Q} {k : Fin 4} {z : Int} (d : decode (q_b X) pc = .ok (.iload_n k, 1)) (hl : ls[(k : Nat)]? = some (some (q_I z))) (k1 : P X (pc + 1) ls (q_I z :: st) K v r c s Q), P X pc ls st K v r c s Q
def ru_iload (P : q_P) : Prop := ∀ {X : q_X} {pc : Nat} {ls : q_Ls} {st : List q_V} {K : q_K} {v : q_N} {r : q_A} {c : Nat} {s : Nat} {Q : q_Q} {i : Nat} {z : Int} (d : decode (q_b X) pc = .ok (.iload i, 2)) (hl : ls[i]? = some (some (q_I z))) (k1 : P X (pc + 2) ls (q_I z :: st) K v r c s Q), P X pc ls st K v r c s Q
def ru_aload_n (P : q_P) : Prop := ∀ {X : q_X} {pc : Nat} {ls : q_Ls} {st : List q_V} {K : q_K} {v : q_N} {r : q_A} {c : Nat} {s : Nat} {Q : q_Q} {k : Fin 4} {z : Nat} (d : decode (q_b X) pc = .ok (.aload_n k, 1)) (hl : ls[(k : Nat)]? = some (some (q_R z))) (k1 : P X (pc + 1) ls (q_R z :: st) K v r c s Q), P X pc ls st K v r c s Q
def ru_aload (P : q_P) : Prop := ∀ {X : q_X} {pc : Nat} {ls : q_Ls} {st : List q_V} {K : q_K} {v : q_N} {r : q_A} {c : Nat} {s : Nat} {Q : q_Q} {i : Nat} {z : Nat} (d : decode (q_b X) pc = .ok (.aload i, 2)) (hl : ls[i]? = some (some (q_R z))) (k1 : P X (pc + 2) ls (q_R z :: st) K v r c s Q), P X pc ls st K v r c s Q
def ru_lload_n (P : q_P) : Prop := ∀ {X : q_X} {pc : Nat} {ls : q_Ls} {st : List q_V} {K : q_K} {v : q_N} {r : q_A} {c : Nat} {s : Nat} {Q : q_Q} {k : Fin 4} {z : Int} (d : decode (q_b X) pc = .ok (.lload_n k, 1)) (hl : ls[(k : Nat)]? = some (some (q_L z))) (k1 : P X (pc + 1) ls (q_L z :: st) K v r c s Q), P X pc ls st K v r c s Q
def ru_lload (P : q_P) : Prop := ∀ {X : q_X} {pc : Nat} {ls : q_Ls} {st : List q_V} {K : q_K} {v : q_N} {r : q_A} {c : Nat} {s : Nat} {Q : q_Q} {i : Nat} {z : Int} (d : decode (q_b X) pc = .ok (.lload i, 2)) (hl : ls[i]? = some (some (q_L z))) (k1 : P X (pc + 2) ls (q_L z :: st) K v r c s Q), P X pc ls st K v r c s Q
def ru_istore_n (P : q_P) : Prop := ∀ {X : q_X} {pc : Nat} {ls : q_Ls} {st : List q_V} {K : q_K} {v : q_N} {r : q_A} {c : Nat} {s : Nat} {Q : q_Q} {k : Fin 4} {z : Int} {ls2 : q_Ls} (d : decode (q_b X) pc = .ok (.istore_n k, 1)) (hn : (k : Nat) < q_n X) (hl : q_set ls (k : Nat) (q_I z) = ls2) (k1 : P X (pc + 1) ls2 st K v r c s Q), P X pc ls (q_I z :: st) K v r c s Q
def ru_istore (P : q_P) : Prop := ∀ {X : q_X} {pc : Nat} {ls : q_Ls} {st : List q_V} {K : q_K} {v : q_N} {r : q_A} {c : Nat} {s : Nat} {Q : q_Q} {i : Nat} {z : Int} {ls2 : q_Ls} (d : decode (q_b X) pc = .ok (.istore i, 2)) (hn : i < q_n X) (hl : q_set ls i (q_I z) = ls2) (k1 : P X (pc + 2) ls2 st K v r c s Q), P X pc ls (q_I z :: st) K v r c s Q
def ru_astore_n (P : q_P) : Prop := ∀ {X : q_X} {pc : Nat} {ls : q_Ls} {st : List q_V} {K : q_K} {v : q_N} {r : q_A} {c : Nat} {s : Nat} {Q : q_Q} {k : Fin 4} {z : Nat} {ls2 : q_Ls} (d : decode (q_b X) pc = .ok (.astore_n k, 1)) (hn : (k : Nat) < q_n X) (hl : q_set ls (k : Nat) (q_R z) = ls2) (k1 : P X (pc + 1) ls2 st K v r c s Q), P X pc ls (q_R z :: st) K v r c s Q
def ru_astore (P : q_P) : Prop := ∀ {X : q_X} {pc : Nat} {ls : q_Ls} {st : List q_V} {K : q_K} {v : q_N} {r : q_A} {c : Nat} {s : Nat} {Q : q_Q} {i : Nat} {z : Nat} {ls2 : q_Ls} (d : decode (q_b X) pc = .ok (.astore i, 2)) (hn : i < q_n X) (hl : q_set ls i (q_R z) = ls2) (k1 : P X (pc + 2) ls2 st K v r c s Q), P X pc ls (q_R z :: st) K v r c s Q
def ru_lstore_n (P : q_P) : Prop := ∀ {X : q_X} {pc : Nat} {ls : q_Ls} {st : List q_V} {K : q_K} {v : q_N} {r : q_A} {c : Nat} {s : Nat} {Q : q_Q} {k : Fin 4} {z : Int} {ls2 : q_Ls} (d : decode (q_b X) pc = .ok (.lstore_n k, 1)) (hn : (k : Nat) + 1 < q_n X) (hl : q_setL ls (k : Nat) (q_L z) = ls2) (k1 : P X (pc + 1) ls2 st K v r c s Q), P X pc ls (q_L z :: st) K v r c s Q
def ru_iinc (P : q_P) : Prop := ∀ {X : q_X} {pc : Nat} {ls : q_Ls} {st : List q_V} {K : q_K} {v : q_N} {r : q_A} {c : Nat} {s : Nat} {Q : q_Q} {i : Nat} {n z : Int} {ls2 : q_Ls} (d : decode (q_b X) pc = .ok (.iinc i n, 3)) (hi : ls[i]? = some (some (q_I z))) (hn : i < q_n X) (hl : q_set ls i (q_I (z + n)) = ls2) (k1 : P X (pc + 3) ls2 st K v r c s Q), P X pc ls st K v r c s Q
def ru_iadd (P : q_P) : Prop := ∀ {X : q_X} {pc : Nat} {ls : q_Ls} {st : List q_V} {K : q_K} {v : q_N} {r : q_A} {c : Nat} {s : Nat} {Q : q_Q} {x y : Int} (d : decode (q_b X) pc = .ok (.iadd, 1)) (k1 : P X (pc + 1) ls (q_I (x + y) :: st) K v r c s Q), P X pc ls (q_I y :: q_I x :: st) K v r c s Q
def ru_isub (P : q_P) : Prop := ∀ {X : q_X} {pc : Nat} {ls : q_Ls} {st : List q_V} {K : q_K} {v : q_N} {r : q_A} {c : Nat} {s : Nat} {Q : q_Q} {x y : Int} (d : decode (q_b X) pc = .ok (.isub, 1)) (k1 : P X (pc + 1) ls (q_I (x - y) :: st) K v r c s Q), P X pc ls (q_I y :: q_I x :: st) K v r c s Q
def ru_imul (P : q_P) : Prop := ∀ {X : q_X} {pc : Nat} {ls : q_Ls} {st : List q_V} {K : q_K} {v : q_N} {r : q_A} {c : Nat} {s : Nat} {Q : q_Q} {x y : Int} (d : decode (q_b X) pc = .ok (.imul, 1)) (k1 : P X (pc + 1) ls (q_I (x * y) :: st) K v r c s Q), P X pc ls (q_I y :: q_I x :: st) K v r c s Q
def ru_idiv (P : q_P) : Prop := ∀ {X : q_X} {pc : Nat} {ls : q_Ls} {st : List q_V} {K : q_K} {v : q_N} {r : q_A} {c : Nat} {s : Nat} {Q : q_Q} {x y : Int} (d : decode (q_b X) pc = .ok (.idiv, 1)) (hx : 0 ≤ x ∧ x < 2147483648) (hy : 0 < y ∧ y < 2147483648) (k1 : P X (pc + 1) ls (q_I (x / y) :: st) K v r c s Q), P X pc ls (q_I y :: q_I x :: st) K v r c s Q
def ru_irem (P : q_P) : Prop := ∀ {X : q_X} {pc : Nat} {ls : q_Ls} {st : List q_V} {K : q_K} {v : q_N} {r : q_A} {c : Nat} {s : Nat} {Q : q_Q} {x y : Int} (d : decode (q_b X) pc = .ok (.irem, 1)) (hx : 0 ≤ x ∧ x < 2147483648) (hy : 0 < y ∧ y < 2147483648) (k1 : P X (pc + 1) ls (q_I (x % y) :: st) K v r c s Q), P X pc ls (q_I y :: q_I x :: st) K v r c s Q
def ru_iand63 (P : q_P) : Prop := ∀ {X : q_X} {pc : Nat} {ls : q_Ls} {st : List q_V} {K : q_K} {v : q_N} {r : q_A} {c : Nat} {s : Nat} {Q : q_Q} {x y : Int} (d : decode (q_b X) pc = .ok (.iand, 1)) (hy : y = 63) (hx : q_iI x) (k1 : P X (pc + 1) ls (q_I (x % 64) :: st) K v r c s Q), P X pc ls (q_I y :: q_I x :: st) K v r c s Q
def ru_ladd (P : q_P) : Prop := ∀ {X : q_X} {pc : Nat} {ls : q_Ls} {st : List q_V} {K : q_K} {v : q_N} {r : q_A} {c : Nat} {s : Nat} {Q : q_Q} {x y : Int} (d : decode (q_b X) pc = .ok (.ladd, 1)) (k1 : P X (pc + 1) ls (q_L (x + y) :: st) K v r c s Q), P X pc ls (q_L y :: q_L x :: st) K v r c s Q
def ru_lmul (P : q_P) : Prop := ∀ {X : q_X} {pc : Nat} {ls : q_Ls} {st : List q_V} {K : q_K} {v : q_N} {r : q_A} {c : Nat} {s : Nat} {Q : q_Q} {x y : Int} (d : decode (q_b X) pc = .ok (.lmul, 1)) (k1 : P X (pc + 1) ls (q_L (x * y) :: st) K v r c s Q), P X pc ls (q_L y :: q_L x :: st) K v r c s Q
def ru_ldiv (P : q_P) : Prop := ∀ {X : q_X} {pc : Nat} {ls : q_Ls} {st : List q_V} {K : q_K} {v : q_N} {r : q_A} {c : Nat} {s : Nat} {Q : q_Q} {x y : Int} (d : decode (q_b X) pc = .ok (.ldiv, 1)) (hx : 0 ≤ x ∧ x < 9223372036854775808) (hy : 0 < y ∧ y < 9223372036854775808) (k1 : P X (pc + 1) ls (q_L (x / y) :: st) K v r c s Q), P X pc ls (q_L y :: q_L x :: st) K v r c s Q
def ru_lrem (P : q_P) : Prop := ∀ {X : q_X} {pc : Nat} {ls : q_Ls} {st : List q_V} {K : q_K} {v : q_N} {r : q_A} {c : Nat} {s : Nat} {Q : q_Q} {x y : Int} (d : decode (q_b X) pc = .ok (.lrem, 1)) (hx : 0 ≤ x ∧ x < 9223372036854775808) (hy : 0 < y ∧ y < 9223372036854775808) (k1 : P X (pc + 1) ls (q_L (x % y) :: st) K v r c s Q), P X pc ls (q_L y :: q_L x :: st) K v r c s Q
def ru_lcmp (P : q_P) : Prop := ∀ {X : q_X} {pc : Nat} {ls : q_Ls} {st : List q_V} {K : q_K} {v : q_N} {r : q_A} {c : Nat} {s : Nat} {Q : q_Q} {x y : Int} (d : decode (q_b X) pc = .ok (.lcmp, 1)) (hx : q_iL x) (hy : q_iL y) (k1 : P X (pc + 1) ls (q_I (q_cmp x y) :: st) K v r c s Q), P X pc ls (q_L y :: q_L x :: st) K v r c s Q
def ru_i2l (P : q_P) : Prop := ∀ {X : q_X} {pc : Nat} {ls : q_Ls} {st : List q_V} {K : q_K} {v : q_N} {r : q_A} {c : Nat} {s : Nat} {Q : q_Q} {x : Int} (d : decode (q_b X) pc = .ok (.i2l, 1)) (hx : q_iI x) (k1 : P X (pc + 1) ls (q_L x :: st) K v r c s Q), P X pc ls (q_I x :: st) K v r c s Q
def ru_l2i (P : q_P) : Prop := ∀ {X : q_X} {pc : Nat} {ls : q_Ls} {st : List q_V} {K : q_K} {v : q_N} {r : q_A} {c : Nat} {s : Nat} {Q : q_Q} {x : Int} (d : decode (q_b X) pc = .ok (.l2i, 1)) (k1 : P X (pc + 1) ls (q_I x :: st) K v r c s Q), P X pc ls (q_L x :: st) K v r c s Q
def ru_if_eq (P : q_P) : Prop := ∀ {X : q_X} {pc : Nat} {ls : q_Ls} {st : List q_V} {K : q_K} {v : q_N} {r : q_A} {c : Nat} {s : Nat} {Q : q_Q} {x off : Int} {tgt : Nat} (d : decode (q_b X) pc = .ok (.ifCond .eq off, 3)) (ht : (pc : Int) + off = (tgt : Int)) (hx : q_iI x) (k1 : x = 0 → P X tgt ls st K v r c s Q) (k2 : ¬ (x = 0) → P X (pc + 3) ls st K v r c s Q), P X pc ls (q_I x :: st) K v r c s Q
def ru_icmp_eq (P : q_P) : Prop := ∀ {X : q_X} {pc : Nat} {ls : q_Ls} {st : List q_V} {K : q_K} {v : q_N} {r : q_A} {c : Nat} {s : Nat} {Q : q_Q} {x y off : Int} {tgt : Nat} (d : decode (q_b X) pc = .ok (.if_icmp .eq off, 3)) (ht : (pc : Int) + off = (tgt : Int)) (hx : q_iI x) (hy : q_iI y) (k1 : x = y → P X tgt ls st K v r c s Q) (k2 : ¬ (x = y) → P X (pc + 3) ls st K v r c s Q), P X pc ls (q_I y :: q_I x :: st) K v r c s Q
def ru_if_ne (P : q_P) : Prop := ∀ {X : q_X} {pc : Nat} {ls : q_Ls} {st : List q_V} {K : q_K} {v : q_N} {r : q_A} {c : Nat} {s : Nat} {Q : q_Q} {x off : Int} {tgt : Nat} (d : decode (q_b X) pc = .ok (.ifCond .ne off, 3)) (ht : (pc : Int) + off = (tgt : Int)) (hx : q_iI x) (k1 : x ≠ 0 → P X tgt ls st K v r c s Q) (k2 : ¬ (x ≠ 0) → P X (pc + 3) ls st K v r c s Q), P X pc ls (q_I x :: st) K v r c s Q
def ru_icmp_ne (P : q_P) : Prop := ∀ {X : q_X} {pc : Nat} {ls : q_Ls} {st : List q_V} {K : q_K} {v : q_N} {r : q_A} {c : Nat} {s : Nat} {Q : q_Q} {x y off : Int} {tgt : Nat} (d : decode (q_b X) pc = .ok (.if_icmp .ne off, 3)) (ht : (pc : Int) + off = (tgt : Int)) (hx : q_iI x) (hy : q_iI y) (k1 : x ≠ y → P X tgt ls st K v r c s Q) (k2 : ¬ (x ≠ y) → P X (pc + 3) ls st K v r c s Q), P X pc ls (q_I y :: q_I x :: st) K v r c s Q
def ru_if_lt (P : q_P) : Prop := ∀ {X : q_X} {pc : Nat} {ls : q_Ls} {st : List q_V} {K : q_K} {v : q_N} {r : q_A} {c : Nat} {s : Nat} {Q : q_Q} {x off : Int} {tgt : Nat} (d : decode (q_b X) pc = .ok (.ifCond .lt off, 3)) (ht : (pc : Int) + off = (tgt : Int)) (hx : q_iI x) (k1 : x < 0 → P X tgt ls st K v r c s Q) (k2 : ¬ (x < 0) → P X (pc + 3) ls st K v r c s Q), P X pc ls (q_I x :: st) K v r c s Q
def ru_icmp_lt (P : q_P) : Prop := ∀ {X : q_X} {pc : Nat} {ls : q_Ls} {st : List q_V} {K : q_K} {v : q_N} {r : q_A} {c : Nat} {s : Nat} {Q : q_Q} {x y off : Int} {tgt : Nat} (d : decode (q_b X) pc = .ok (.if_icmp .lt off, 3)) (ht : (pc : Int) + off = (tgt : Int)) (hx : q_iI x) (hy : q_iI y) (k1 : x < y → P X tgt ls st K v r c s Q) (k2 : ¬ (x < y) → P X (pc + 3) ls st K v r c s Q), P X pc ls (q_I y :: q_I x :: st) K v r c s Q
def ru_if_ge (P : q_P) : Prop := ∀ {X : q_X} {pc : Nat} {ls : q_Ls} {st : List q_V} {K : q_K} {v : q_N} {r : q_A} {c : Nat} {s : Nat} {Q : q_Q} {x off : Int} {tgt : Nat} (d : decode (q_b X) pc = .ok (.ifCond .ge off, 3)) (ht : (pc : Int) + off = (tgt : Int)) (hx : q_iI x) (k1 : 0 ≤ x → P X tgt ls st K v r c s Q) (k2 : ¬ (0 ≤ x) → P X (pc + 3) ls st K v r c s Q), P X pc ls (q_I x :: st) K v r c s Q
def ru_icmp_ge (P : q_P) : Prop := ∀ {X : q_X} {pc : Nat} {ls : q_Ls} {st : List q_V} {K : q_K} {v : q_N} {r : q_A} {c : Nat} {s : Nat} {Q : q_Q} {x y off : Int} {tgt : Nat} (d : decode (q_b X) pc = .ok (.if_icmp .ge off, 3)) (ht : (pc : Int) + off = (tgt : Int)) (hx : q_iI x) (hy : q_iI y) (k1 : y ≤ x → P X tgt ls st K v r c s Q) (k2 : ¬ (y ≤ x) → P X (pc + 3) ls st K v r c s Q), P X pc ls (q_I y :: q_I x :: st) K v r c s Q
def ru_if_gt (P : q_P) : Prop := ∀ {X : q_X} {pc : Nat} {ls : q_Ls} {st : List q_V} {K : q_K} {v : q_N} {r : q_A} {c : Nat} {s : Nat} {Q : q_Q} {x off : Int} {tgt : Nat} (d : decode (q_b X) pc = .ok (.ifCond .gt off, 3)) (ht : (pc : Int) + off = (tgt : Int)) (hx : q_iI x) (k1 : 0 < x → P X tgt ls st K v r c s Q) (k2 : ¬ (0 < x) → P X (pc + 3) ls st K v r c s Q), P X pc ls (q_I x :: st) K v r c s Q
def ru_icmp_gt (P : q_P) : Prop := ∀ {X : q_X} {pc : Nat} {ls : q_Ls} {st : List q_V} {K : q_K} {v : q_N} {r : q_A} {c : Nat} {s : Nat} {Q : q_Q} {x y off : Int} {tgt : Nat} (d : decode (q_b X) pc = .ok (.if_icmp .gt off, 3)) (ht : (pc : Int) + off = (tgt : Int)) (hx : q_iI x) (hy : q_iI y) (k1 : y < x → P X tgt ls st K v r c s Q) (k2 : ¬ (y < x) → P X (pc + 3) ls st K v r c s Q), P X pc ls (q_I y :: q_I x :: st) K v r c s Q
def ru_if_le (P : q_P) : Prop := ∀ {X : q_X} {pc : Nat} {ls : q_Ls} {st : List q_V} {K : q_K} {v : q_N} {r : q_A} {c : Nat} {s : Nat} {Q : q_Q} {x off : Int} {tgt : Nat} (d : decode (q_b X) pc = .ok (.ifCond .le off, 3)) (ht : (pc : Int) + off = (tgt : Int)) (hx : q_iI x) (k1 : x ≤ 0 → P X tgt ls st K v r c s Q) (k2 : ¬ (x ≤ 0) → P X (pc + 3) ls st K v r c s Q), P X pc ls (q_I x :: st) K v r c s Q
def ru_icmp_le (P : q_P) : Prop := ∀ {X : q_X} {pc : Nat} {ls : q_Ls} {st : List q_V} {K : q_K} {v : q_N} {r : q_A} {c : Nat} {s : Nat} {Q : q_Q} {x y off : Int} {tgt : Nat} (d : decode (q_b X) pc = .ok (.if_icmp .le off, 3)) (ht : (pc : Int) + off = (tgt : Int)) (hx : q_iI x) (hy : q_iI y) (k1 : x ≤ y → P X tgt ls st K v r c s Q) (k2 : ¬ (x ≤ y) → P X (pc + 3) ls st K v r c s Q), P X pc ls (q_I y :: q_I x :: st) K v r c s Q
def ru_goto (P : q_P) : Prop := ∀ {X : q_X} {pc : Nat} {ls : q_Ls} {st : List q_V} {K : q_K} {v : q_N} {r : q_A} {c : Nat} {s : Nat} {Q : q_Q} {off : Int} {tgt : Nat} (d : decode (q_b X) pc = .ok (.goto off, 3)) (ht : (pc : Int) + off = (tgt : Int)) (k1 : P X tgt ls st K v r c s Q), P X pc ls st K v r c s Q
def ru_tsIn (P : q_P) : Prop := ∀ {X : q_X} {pc : Nat} {ls : q_Ls} {st : List q_V} {K : q_K} {v : q_N} {r : q_A} {c : Nat} {s : Nat} {Q : q_Q} {dflt lo hi : Int} {offs : Array Int} {len : Nat} {x off : Int} {j tgt : Nat} (d : decode (q_b X) pc = .ok (.tableswitch dflt lo hi offs, len)) (hx : q_iI x) (hj : x = lo + (j : Int)) (hh : x ≤ hi) (ho : offs[j]? = some off) (ht : (pc : Int) + off = (tgt : Int)) (k1 : P X tgt ls st K v r c s Q), P X pc ls (q_I x :: st) K v r c s Q
def ru_tsOut (P : q_P) : Prop := ∀ {X : q_X} {pc : Nat} {ls : q_Ls} {st : List q_V} {K : q_K} {v : q_N} {r : q_A} {c : Nat} {s : Nat} {Q : q_Q} {dflt lo hi : Int} {offs : Array Int} {len : Nat} {x : Int} {tgt : Nat} (d : decode (q_b X) pc = .ok (.tableswitch dflt lo hi offs, len)) (hx : q_iI x) (hh : x < lo ∨ hi < x) (ht : (pc : Int) + dflt = (tgt : Int)) (k1 : P X tgt ls st K v r c s Q), P X pc ls (q_I x :: st) K v r c s Q
def ru_dup (P : q_P) : Prop := ∀ {X : q_X} {pc : Nat} {ls : q_Ls} {st : List q_V} {K : q_K} {v : q_N} {r : q_A} {c : Nat} {s : Nat} {Q : q_Q} {x : q_V} (d : decode (q_b X) pc = .ok (.dup, 1)) (hc : q_cat x = 1) (k1 : P X (pc + 1) ls (x :: x :: st) K v r c s Q), P X pc ls (x :: st) K v r c s Q
def ru_dup2 (P : q_P) : Prop := ∀ {X : q_X} {pc : Nat} {ls : q_Ls} {st : List q_V} {K : q_K} {v : q_N} {r : q_A} {c : Nat} {s : Nat} {Q : q_Q} {x y : q_V} (d : decode (q_b X) pc = .ok (.dup2, 1)) (hx : q_cat x = 1) (hy : q_cat y = 1) (k1 : P X (pc + 1) ls (x :: y :: x :: y :: st) K v r c s Q), P X pc ls (x :: y :: st) K v r c s Q
def ru_pop (P : q_P) : Prop := ∀ {X : q_X} {pc : Nat} {ls : q_Ls} {st : List q_V} {K : q_K} {v : q_N} {r : q_A} {c : Nat} {s : Nat} {Q : q_Q} {x : q_V} (d : decode (q_b X) pc = .ok (.pop, 1)) (hc : q_cat x = 1) (k1 : P X (pc + 1) ls st K v r c s Q), P X pc ls (x :: st) K v r c s Q
def ru_getI (P : q_P) : Prop := ∀ {X : q_X} {pc : Nat} {ls : q_Ls} {st : List q_V} {K : q_K} {v : q_N} {r : q_A} {c : Nat} {s : Nat} {Q : q_Q} {a idx ci t : Nat} {j : Int} {fin : Bool} (d : decode (q_b X) pc = .ok (.getfield idx, 3)) (hf : q_fl (q_y X).cls idx ci j t fin) (ht : t = 0 ∨ t = 2) (hk : (K a).1 = ci + 1) (k1 : P X (pc + 3) ls (q_I (v a j) :: st) K v r c s Q), P X pc ls (q_R a :: st) K v r c s Q
def ru_getL (P : q_P) : Prop := ∀ {X : q_X} {pc : Nat} {ls : q_Ls} {st : List q_V} {K : q_K} {v : q_N} {r : q_A} {c : Nat} {s : Nat} {Q : q_Q} {a idx ci : Nat} {j : Int} {fin : Bool} (d : decode (q_b X) pc = .ok (.getfield idx, 3)) (hf : q_fl (q_y X).cls idx ci j 1 fin) (hk : (K a).1 = ci + 1) (k1 : P X (pc + 3) ls (q_L (v a j) :: st) K v r c s Q), P X pc ls (q_R a :: st) K v r c s Q
def ru_getR (P : q_P) : Prop := ∀ {X : q_X} {pc : Nat} {ls : q_Ls} {st : List q_V} {K : q_K} {v : q_N} {r : q_A} {c : Nat} {s : Nat} {Q : q_Q} {a idx ci : Nat} {j : Int} {fin : Bool} (d : decode (q_b X) pc = .ok (.getfield idx, 3)) (hf : q_fl (q_y X).cls idx ci j 3 fin) (hk : (K a).1 = ci + 1) (hn : (K (r a j)).1 ≠ 0) (k1 : P X (pc + 3) ls (q_R (r a j) :: st) K v r c s Q), P X pc ls (q_R a :: st) K v r c s Q
def ru_putI (P : q_P) : Prop := ∀ {X : q_X} {pc : Nat} {ls : q_Ls} {st : List q_V} {K : q_K} {v : q_N} {r : q_A} {c : Nat} {s : Nat} {Q : q_Q} {a idx ci : Nat} {j z : Int} {fin : Bool} (d : decode (q_b X) pc = .ok (.putfield idx, 3)) (hf : q_fl (q_y X).cls idx ci j 0 fin) (hfi : fin = false ∨ ((q_y X).name = "<init>" ∧ ∃ T N, vwCl[ci]? = some ((q_y X).cls, T, N))) (hk : (K a).1 = ci + 1) (hz : q_iI z) (k1 : P X (pc + 3) ls st K (q_up v a j z) r c s Q), P X pc ls (q_I z :: q_R a :: st) K v r c s Q
def ru_putB (P : q_P) : Prop := ∀ {X : q_X} {pc : Nat} {ls : q_Ls} {st : List q_V} {K : q_K} {v : q_N} {r : q_A} {c : Nat} {s : Nat} {Q : q_Q} {a idx ci : Nat} {j z : Int} {fin : Bool} (d : decode (q_b X) pc = .ok (.putfield idx, 3)) (hf : q_fl (q_y X).cls idx ci j 2 fin) (hfi : fin = false ∨ ((q_y X).name = "<init>" ∧ ∃ T N, vwCl[ci]? = some ((q_y X).cls, T, N))) (hk : (K a).1 = ci + 1) (hz : z = 0 ∨ z = 1) (k1 : P X (pc + 3) ls st K (q_up v a j z) r c s Q), P X pc ls (q_I z :: q_R a :: st) K v r c s Q
def ru_putL (P : q_P) : Prop := ∀ {X : q_X} {pc : Nat} {ls : q_Ls} {st : List q_V} {K : q_K} {v : q_N} {r : q_A} {c : Nat} {s : Nat} {Q : q_Q} {a idx ci : Nat} {j z : Int} {fin : Bool} (d : decode (q_b X) pc = .ok (.putfield idx, 3)) (hf : q_fl (q_y X).cls idx ci j 1 fin) (hfi : fin = false ∨ ((q_y X).name = "<init>" ∧ ∃ T N, vwCl[ci]? = some ((q_y X).cls, T, N))) (hk : (K a).1 = ci + 1) (hz : q_iL z) (k1 : P X (pc + 3) ls st K (q_up v a j z) r c s Q), P X pc ls (q_L z :: q_R a :: st) K v r c s Q
def ru_putR (P : q_P) : Prop := ∀ {X : q_X} {pc : Nat} {ls : q_Ls} {st : List q_V} {K : q_K} {v : q_N} {r : q_A} {c : Nat} {s : Nat} {Q : q_Q} {a b idx ci : Nat} {j : Int} {fin : Bool} (d : decode (q_b X) pc = .ok (.putfield idx, 3)) (hf : q_fl (q_y X).cls idx ci j 3 fin) (hfi : fin = false ∨ ((q_y X).name = "<init>" ∧ ∃ T N, vwCl[ci]? = some ((q_y X).cls, T, N))) (hk : (K a).1 = ci + 1) (hz : (K b).1 ≠ 0) (k1 : P X (pc + 3) ls st K v (q_ur r a j b) c s Q), P X pc ls (q_R b :: q_R a :: st) K v r c s Q
def ru_iald (P : q_P) : Prop := ∀ {X : q_X} {pc : Nat} {ls : q_Ls} {st : List q_V} {K : q_K} {v : q_N} {r : q_A} {c : Nat} {s : Nat} {Q : q_Q} {a : Nat} {i : Int} (d : decode (q_b X) pc = .ok (.iaload, 1)) (hk : (K a).1 = 20 ∨ (K a).1 = 25) (hi : 0 ≤ i) (hn : i < ((K a).2.1 : Int)) (k1 : P X (pc + 1) ls (q_I (v a i) :: st) K v r c s Q), P X pc ls (q_I i :: q_R a :: st) K v r c s Q
def ru_lald (P : q_P) : Prop := ∀ {X : q_X} {pc : Nat} {ls : q_Ls} {st : List q_V} {K : q_K} {v : q_N} {r : q_A} {c : Nat} {s : Nat} {Q : q_Q} {a : Nat} {i : Int} (d : decode (q_b X) pc = .ok (.laload, 1)) (hk : (K a).1 = 21) (hi : 0 ≤ i) (hn : i < ((K a).2.1 : Int)) (k1 : P X (pc + 1) ls (q_L (v a i) :: st) K v r c s Q), P X pc ls (q_I i :: q_R a :: st) K v r c s Q
def ru_zald (P : q_P) : Prop := ∀ {X : q_X} {pc : Nat} {ls : q_Ls} {st : List q_V} {K : q_K} {v : q_N} {r : q_A} {c : Nat} {s : Nat} {Q : q_Q} {a : Nat} {i : Int} (d : decode (q_b X) pc = .ok (.baload, 1)) (hk : (K a).1 = 22) (hi : 0 ≤ i) (hn : i < ((K a).2.1 : Int)) (k1 : P X (pc + 1) ls (q_I (v a i) :: st) K v r c s Q), P X pc ls (q_I i :: q_R a :: st) K v r c s Q
def ru_aald (P : q_P) : Prop := ∀ {X : q_X} {pc : Nat} {ls : q_Ls} {st : List q_V} {K : q_K} {v : q_N} {r : q_A} {c : Nat} {s : Nat} {Q : q_Q} {a ci : Nat} {i : Int} (d : decode (q_b X) pc = .ok (.aaload, 1)) (hk : (K a).1 = 30 + ci) (hc : ci < 12) (hi : 0 ≤ i) (hn : i < ((K a).2.1 : Int)) (hr : (K (r a i)).1 ≠ 0) (k1 : P X (pc + 1) ls (q_R (r a i) :: st) K v r c s Q), P X pc ls (q_I i :: q_R a :: st) K v r c s Q
def ru_iast (P : q_P) : Prop := ∀ {X : q_X} {pc : Nat} {ls : q_Ls} {st : List q_V} {K : q_K} {v : q_N} {r : q_A} {c : Nat} {s : Nat} {Q : q_Q} {a : Nat} {i x : Int} (d : decode (q_b X) pc = .ok (.iastore, 1)) (hk : (K a).1 = 20) (hi : 0 ≤ i) (hn : i < ((K a).2.1 : Int)) (hx : q_iI x) (k1 : P X (pc + 1) ls st K (q_up v a i x) r c s Q), P X pc ls (q_I x :: q_I i :: q_R a :: st) K v r c s Q
def ru_last (P : q_P) : Prop := ∀ {X : q_X} {pc : Nat} {ls : q_Ls} {st : List q_V} {K : q_K} {v : q_N} {r : q_A} {c : Nat} {s : Nat} {Q : q_Q} {a : Nat} {i x : Int} (d : decode (q_b X) pc = .ok (.lastore, 1)) (hk : (K a).1 = 21) (hi : 0 ≤ i) (hn : i < ((K a).2.1 : Int)) (hx : q_iL x) (k1 : P X (pc + 1) ls st K (q_up v a i x) r c s Q), P X pc ls (q_L x :: q_I i :: q_R a :: st) K v r c s Q
def ru_zast (P : q_P) : Prop := ∀ {X : q_X} {pc : Nat} {ls : q_Ls} {st : List q_V} {K : q_K} {v : q_N} {r : q_A} {c : Nat} {s : Nat} {Q : q_Q} {a : Nat} {i x : Int} (d : decode (q_b X) pc = .ok (.bastore, 1)) (hk : (K a).1 = 22) (hi : 0 ≤ i) (hn : i < ((K a).2.1 : Int)) (hx : x = 0 ∨ x = 1) (k1 : P X (pc + 1) ls st K (q_up v a i x) r c s Q), P X pc ls (q_I x :: q_I i :: q_R a :: st) K v r c s Q
def ru_aast (P : q_P) : Prop := ∀ {X : q_X} {pc : Nat} {ls : q_Ls} {st : List q_V} {K : q_K} {v : q_N} {r : q_A} {c : Nat} {s : Nat} {Q : q_Q} {a b ci : Nat} {i : Int} (d : decode (q_b X) pc = .ok (.aastore, 1)) (hk : (K a).1 = 30 + ci) (hc : ci < 12) (hi : 0 ≤ i) (hn : i < ((K a).2.1 : Int)) (hb : (K b).1 = ci + 1) (k1 : P X (pc + 1) ls st K v (q_ur r a i b) c s Q), P X pc ls (q_R b :: q_I i :: q_R a :: st) K v r c s Q
def ru_alen (P : q_P) : Prop := ∀ {X : q_X} {pc : Nat} {ls : q_Ls} {st : List q_V} {K : q_K} {v : q_N} {r : q_A} {c : Nat} {s : Nat} {Q : q_Q} {a : Nat} (d : decode (q_b X) pc = .ok (.arraylength, 1)) (hk : (K a).1 = 20 ∨ (K a).1 = 25) (hn : (K a).2.1 < 2147483648) (k1 : P X (pc + 1) ls (q_I ((K a).2.1 : Int) :: st) K v r c s Q), P X pc ls (q_R a :: st) K v r c s Q
def ru_new (P : q_P) : Prop := ∀ {X : q_X} {pc : Nat} {ls : q_Ls} {st : List q_V} {K : q_K} {v : q_N} {r : q_A} {c : Nat} {s : Nat} {Q : q_Q} {idx ci tag c2 s2 : Nat} (d : decode (q_b X) pc = .ok (.new idx, 3)) (hw : q_nw (q_y X).cls idx ci) (hc : c2 + 1 ≤ c) (hs : s2 + q_sz ci ≤ s) (k1 : ∀ q, (K q).1 = 0 → P X (pc + 3) ls (q_R q :: st) (q_uk K q (ci + 1, 0, tag)) (q_z v q) (q_zr r q) c2 s2 Q), P X pc ls st K v r c s Q
def ru_newI (P : q_P) : Prop := ∀ {X : q_X} {pc : Nat} {ls : q_Ls} {st : List q_V} {K : q_K} {v : q_N} {r : q_A} {c : Nat} {s : Nat} {Q : q_Q} {z : Int} {n tag c2 s2 : Nat} (d : decode (q_b X) pc = .ok (.newarray .int, 2)) (hw : Cond.arrayClass (newarray.typeOf .int) ∈ q_tw) (hz : z = (n : Int)) (hn : n ≤ 67108864) (hc : c2 + 1 ≤ c) (hs : s2 + n ≤ s) (k1 : ∀ q, (K q).1 = 0 → P X (pc + 2) ls (q_R q :: st) (q_uk K q (20, n, tag)) (q_z v q) (q_zr r q) c2 s2 Q), P X pc ls (q_I z :: st) K v r c s Q
def ru_newL (P : q_P) : Prop := ∀ {X : q_X} {pc : Nat} {ls : q_Ls} {st : List q_V} {K : q_K} {v : q_N} {r : q_A} {c : Nat} {s : Nat} {Q : q_Q} {z : Int} {n tag c2 s2 : Nat} (d : decode (q_b X) pc = .ok (.newarray .long, 2)) (hw : Cond.arrayClass (newarray.typeOf .long) ∈ q_tw) (hz : z = (n : Int)) (hn : n ≤ 67108864) (hc : c2 + 1 ≤ c) (hs : s2 + n ≤ s) (k1 : ∀ q, (K q).1 = 0 → P X (pc + 2) ls (q_R q :: st) (q_uk K q (21, n, tag)) (q_z v q) (q_zr r q) c2 s2 Q), P X pc ls (q_I z :: st) K v r c s Q
def ru_newZ (P : q_P) : Prop := ∀ {X : q_X} {pc : Nat} {ls : q_Ls} {st : List q_V} {K : q_K} {v : q_N} {r : q_A} {c : Nat} {s : Nat} {Q : q_Q} {z : Int} {n tag c2 s2 : Nat} (d : decode (q_b X) pc = .ok (.newarray .boolean, 2)) (hw : Cond.arrayClass (newarray.typeOf .boolean) ∈ q_tw) (hz : z = (n : Int)) (hn : n ≤ 67108864) (hc : c2 + 1 ≤ c) (hs : s2 + n ≤ s) (k1 : ∀ q, (K q).1 = 0 → P X (pc + 2) ls (q_R q :: st) (q_uk K q (22, n, tag)) (q_z v q) (q_zr r q) c2 s2 Q), P X pc ls (q_I z :: st) K v r c s Q
def ru_newA (P : q_P) : Prop := ∀ {X : q_X} {pc : Nat} {ls : q_Ls} {st : List q_V} {K : q_K} {v : q_N} {r : q_A} {c : Nat} {s : Nat} {Q : q_Q} {z : Int} {n idx ci tag c2 s2 : Nat} (d : decode (q_b X) pc = .ok (.anewarray idx, 3)) (hw : q_aw (q_y X).cls idx ci) (hz : z = (n : Int)) (hn : n ≤ 67108864) (hc : c2 + 1 ≤ c) (hs : s2 + n ≤ s) (k1 : ∀ q, (K q).1 = 0 → P X (pc + 3) ls (q_R q :: st) (q_uk K q (30 + ci, n, tag)) (q_z v q) (q_zr r q) c2 s2 Q), P X pc ls (q_I z :: st) K v r c s Q
def ru_callS (P : q_P) : Prop := ∀ {X : q_X} {pc : Nat} {ls : q_Ls} {st : List q_V} {K : q_K} {v : q_N} {r : q_A} {c : Nat} {s : Nat} {Q : q_Q} {Y : q_X} {idx n c1 s1 c2 s2 : Nat} {as rest : List q_V} {ls0 : q_Ls} {Q1 : q_Q} (d : decode (q_b X) pc = .ok (.invokestatic idx, 3)) (hw : q_ok Y n) (hl : Cond.methodLink (q_y X).cls idx (q_y Y) ∈ q_tw) (hst : Cond.static (q_y Y) ∈ q_tw) (hown : (q_y Y).cls = (q_y X).cls) (hx : q_hh X = []) (hst2 : st = as.reverse ++ rest) (hln : as.length = n) (hls : q_ent (q_n Y) as = ls0) (hfit : q_fit X Y) (hcc : c1 + c2 ≤ c) (hss : s1 + s2 ≤ s) (hr8 : (rest.map q_cat).sum ≤ 8) (hnm : (q_y Y).name ≠ "law") (k1 : P Y 0 ls0 [] K v r c1 s1 Q1) (k2 : ∀ o K1 v1 r1, Q1 (Sum.inl o) K1 v1 r1 → P X (pc + 3) ls (o.toList ++ rest) K1 v1 r1 c2 s2 Q) (k3 : ∀ E K1 v1 r1, Q1 (Sum.inr E) K1 v1 r1 → Q (Sum.inr E) K1 v1 r1), P X pc ls st K v r c s Q
def ru_callV (P : q_P) : Prop := ∀ {X : q_X} {pc : Nat} {ls : q_Ls} {st : List q_V} {K : q_K} {v : q_N} {r : q_A} {c : Nat} {s : Nat} {Q : q_Q} {Y : q_X} {idx n c1 s1 c2 s2 : Nat} {as rest : List q_V} {ls0 : q_Ls} {Q1 : q_Q} {a ci : Nat} (d : decode (q_b X) pc = .ok (.invokevirtual idx, 3)) (hw : q_ok Y n) (hl : Cond.methodLink (q_y X).cls idx (q_y Y) ∈ q_tw) (hst : Cond.instanceMethod (q_y Y) ∈ q_tw) (hse : Cond.selects (q_y Y).cls (q_y Y) (q_y Y) ∈ q_tw) (hka : (K a).1 = ci + 1) (hcl : ∃ T N, vwCl[ci]? = some ((q_y Y).cls, T, N)) (hx : q_hh X = []) (hhY : q_hh Y = []) (hst2 : st = as.reverse ++ q_R a :: rest) (hln : as.length = n) (hls : q_ent (q_n Y) (q_R a :: as) = ls0) (hfit : q_fit X Y) (hcc : c1 + c2 ≤ c) (hss : s1 + s2 ≤ s) (hr8 : (rest.map q_cat).sum ≤ 8) (hnm : (q_y Y).name ≠ "law") (k1 : P Y 0 ls0 [] K v r c1 s1 Q1) (k2 : ∀ o K1 v1 r1, Q1 (Sum.inl o) K1 v1 r1 → P X (pc + 3) ls (o.toList ++ rest) K1 v1 r1 c2 s2 Q) (k3 : ∀ E K1 v1 r1, Q1 (Sum.inr E) K1 v1 r1 → Q (Sum.inr E) K1 v1 r1), P X pc ls st K v r c s Q
def ru_callVH (P : q_P) : Prop := ∀ {X : q_X} {pc : Nat} {ls : q_Ls} {st : List q_V} {K : q_K} {v : q_N} {r : q_A} {c : Nat} {s : Nat} {Q : q_Q} {Y : q_X} {idx n c1 s1 c2 s2 : Nat} {as rest : List q_V} {ls0 : q_Ls} {Q1 : q_Q} {a ci : Nat} (d : decode (q_b X) pc = .ok (.invokevirtual idx, 3)) (hw : q_ok Y n) (hl : Cond.methodLink (q_y X).cls idx (q_y Y) ∈ q_tw) (hst : Cond.instanceMethod (q_y Y) ∈ q_tw) (hse : Cond.selects (q_y Y).cls (q_y Y) (q_y Y) ∈ q_tw) (hka : (K a).1 = ci + 1) (hcl : ∃ T N, vwCl[ci]? = some ((q_y Y).cls, T, N)) (hhY : q_hh Y = []) (hst2 : st = as.reverse ++ q_R a :: rest) (hln : as.length = n) (hls : q_ent (q_n Y) (q_R a :: as) = ls0) (hfit : q_fit X Y) (hcc : c1 + c2 ≤ c) (hss : s1 + s2 ≤ s) (hr8 : (rest.map q_cat).sum ≤ 8) (hnm : (q_y Y).name ≠ "law") (k1 : P Y 0 ls0 [] K v r c1 s1 Q1) (k2 : ∀ o K1 v1 r1, Q1 (Sum.inl o) K1 v1 r1 → P X (pc + 3) ls (o.toList ++ rest) K1 v1 r1 c2 s2 Q) (k3 : ∀ E K1 v1 r1, Q1 (Sum.inr E) K1 v1 r1 → ∃ h, q_hd X pc E h ∧ ∀ q, P X h ls [q_R q] K1 v1 r1 c2 s2 Q), P X pc ls st K v r c s Q
def ru_callI (P : q_P) : Prop := ∀ {X : q_X} {pc : Nat} {ls : q_Ls} {st : List q_V} {K : q_K} {v : q_N} {r : q_A} {c : Nat} {s : Nat} {Q : q_Q} {Y : q_X} {idx n c1 s1 c2 s2 : Nat} {as rest : List q_V} {ls0 : q_Ls} {Q1 : q_Q} {a : Nat} (d : decode (q_b X) pc = .ok (.invokespecial idx, 3)) (hw : q_ok Y n) (hini : (q_y Y).name = "<init>") (hrt : q_rt Y = none) (hl : Cond.methodLink (q_y X).cls idx (q_y Y) ∈ q_tw ∨ ∃ host, Cond.methodLinkNest (q_y X).cls idx (q_y Y) host ∈ q_nest) (hst : Cond.instanceMethod (q_y Y) ∈ q_tw) (hhY : q_hh Y = []) (hst2 : st = as.reverse ++ q_R a :: rest) (hln : as.length = n) (hls : q_ent (q_n Y) (q_R a :: as) = ls0) (hfit : q_fit X Y) (hcc : c1 + c2 ≤ c) (hss : s1 + s2 ≤ s) (hr8 : (rest.map q_cat).sum ≤ 8) (hnm : (q_y Y).name ≠ "law") (k1 : P Y 0 ls0 [] K v r c1 s1 Q1) (k2 : ∀ o K1 v1 r1, Q1 (Sum.inl o) K1 v1 r1 → P X (pc + 3) ls (o.toList ++ rest) K1 v1 r1 c2 s2 Q) (k3 : ∀ E K1 v1 r1, ¬ Q1 (Sum.inr E) K1 v1 r1), P X pc ls st K v r c s Q
def ru_objI (P : q_P) : Prop := ∀ {X : q_X} {pc : Nat} {ls : q_Ls} {st : List q_V} {K : q_K} {v : q_N} {r : q_A} {c : Nat} {s : Nat} {Q : q_Q} {a idx : Nat} (d : decode (q_b X) pc = .ok (.invokespecial idx, 3)) (hl : Cond.methodLink (q_y X).cls idx Lib.objectInit ∈ q_tw) (hr8 : (st.map q_cat).sum ≤ 8) (hfr : 1 ≤ q_fr X ∧ 20 ≤ q_lo X) (k1 : P X (pc + 3) ls st K v r c s Q), P X pc ls (q_R a :: st) K v r c s Q
def ru_mmin (P : q_P) : Prop := ∀ {X : q_X} {pc : Nat} {ls : q_Ls} {st : List q_V} {K : q_K} {v : q_N} {r : q_A} {c : Nat} {s : Nat} {Q : q_Q} {idx : Nat} {x y : Int} (d : decode (q_b X) pc = .ok (.invokestatic idx, 3)) (hl : Cond.methodLink (q_y X).cls idx Lib.Math.min.name ∈ q_tw) (hr8 : (st.map q_cat).sum ≤ 8) (hfr : 1 ≤ q_fr X ∧ 40 ≤ q_lo X) (hx : q_iI x) (hy : q_iI y) (k1 : P X (pc + 3) ls (q_I (min x y) :: st) K v r c s Q), P X pc ls (q_I y :: q_I x :: st) K v r c s Q
def ru_mmax (P : q_P) : Prop := ∀ {X : q_X} {pc : Nat} {ls : q_Ls} {st : List q_V} {K : q_K} {v : q_N} {r : q_A} {c : Nat} {s : Nat} {Q : q_Q} {idx : Nat} {x y : Int} (d : decode (q_b X) pc = .ok (.invokestatic idx, 3)) (hl : Cond.methodLink (q_y X).cls idx Lib.Math.max.name ∈ q_tw) (hr8 : (st.map q_cat).sum ≤ 8) (hfr : 1 ≤ q_fr X ∧ 40 ≤ q_lo X) (hx : q_iI x) (hy : q_iI y) (k1 : P X (pc + 3) ls (q_I (max x y) :: st) K v r c s Q), P X pc ls (q_I y :: q_I x :: st) K v r c s Q
def ru_acopy (P : q_P) : Prop := ∀ {X : q_X} {pc : Nat} {ls : q_Ls} {st : List q_V} {K : q_K} {v : q_N} {r : q_A} {c : Nat} {s : Nat} {Q : q_Q} {idx a b : Nat} {sp dp n : Int} (d : decode (q_b X) pc = .ok (.invokestatic idx, 3)) (hl : Cond.methodLink (q_y X).cls idx arraycopyName ∈ q_tw) (hr8 : (st.map q_cat).sum ≤ 8) (hfr : 1 ≤ q_fr X ∧ 60 ≤ q_lo X) (ha : (K a).1 = 20) (hb : (K b).1 = 20) (h1 : 0 ≤ sp ∧ sp + n ≤ ((K a).2.1 : Int)) (h2 : 0 ≤ dp ∧ dp + n ≤ ((K b).2.1 : Int)) (h3 : 0 ≤ n) (hka : (K a).2.1 < 2147483648) (hkb : (K b).2.1 < 2147483648) (k1 : P X (pc + 3) ls st K (q_cp v a sp b dp n) r c s Q), P X pc ls (q_I n :: q_I dp :: q_R b :: q_I sp :: q_R a :: st) K v r c s Q
def ru_ret (P : q_P) : Prop := ∀ {X : q_X} {pc : Nat} {ls : q_Ls} {K : q_K} {v : q_N} {r : q_A} {c : Nat} {s : Nat} {Q : q_Q} (d : decode (q_b X) pc = .ok (.return_, 1)) (hr : q_rt X = none) (hq : Q (Sum.inl none) K v r) , P X pc ls [] K v r c s Q
def ru_iret (P : q_P) : Prop := ∀ {X : q_X} {pc : Nat} {ls : q_Ls} {K : q_K} {v : q_N} {r : q_A} {c : Nat} {s : Nat} {Q : q_Q} {z : Int} (d : decode (q_b X) pc = .ok (.ireturn, 1)) (hr : q_rt X = some .int ∨ (q_rt X = some .boolean ∧ (z = 0 ∨ z = 1))) (hq : Q (Sum.inl (some (q_I z))) K v r) , P X pc ls [q_I z] K v r c s Q
def ru_aret (P : q_P) : Prop := ∀ {X : q_X} {pc : Nat} {ls : q_Ls} {K : q_K} {v : q_N} {r : q_A} {c : Nat} {s : Nat} {Q : q_Q} {a : Nat} {cn : String} (d : decode (q_b X) pc = .ok (.areturn, 1)) (hr : q_rt X = some (.object cn)) (hq : Q (Sum.inl (some (q_R a))) K v r) , P X pc ls [q_R a] K v r c s Q
def ru_thrS (P : q_P) : Prop := ∀ {X : q_X} {pc : Nat} {ls : q_Ls} {st : List q_V} {K : q_K} {v : q_N} {r : q_A} {c : Nat} {s : Nat} {Q : q_Q} {ik is ic : Nat} {E : String} (d0 : decode (q_b X) pc = .ok (.new ik, 3)) (d3 : decode (q_b X) (pc + 3) = .ok (.dup, 1)) (d4 : decode (q_b X) (pc + 4) = .ok (.ldc is, 2)) (d6 : decode (q_b X) (pc + 6) = .ok (.invokespecial ic, 3)) (d9 : decode (q_b X) (pc + 9) = .ok (.athrow, 1)) (he : q_ex (q_y X).cls ik ic E) (hs : ∃ tx, ((q_y X).cls, is, tx) ∈ q_strs) (hx : q_hh X = []) (hr8 : (st.map q_cat).sum ≤ 8) (hfr : 6 ≤ q_fr X ∧ 90 ≤ q_lo X) (hc : 1 ≤ c) (hs6 : 6 ≤ s) (hq : Q (Sum.inr E) K v r) , P X pc ls st K v r c s Q
def ru_thrW (P : q_P) : Prop := ∀ {X : q_X} {pc : Nat} {ls : q_Ls} {st : List q_V} {K : q_K} {v : q_N} {r : q_A} {c : Nat} {s : Nat} {Q : q_Q} {ik is ic : Nat} {E : String} (d0 : decode (q_b X) pc = .ok (.new ik, 3)) (d3 : decode (q_b X) (pc + 3) = .ok (.dup, 1)) (d4 : decode (q_b X) (pc + 4) = .ok (.ldc_w is, 3)) (d7 : decode (q_b X) (pc + 7) = .ok (.invokespecial ic, 3)) (d10 : decode (q_b X) (pc + 10) = .ok (.athrow, 1)) (he : q_ex (q_y X).cls ik ic E) (hs : ∃ tx, ((q_y X).cls, is, tx) ∈ q_strs) (hx : q_hh X = []) (hr8 : (st.map q_cat).sum ≤ 8) (hfr : 6 ≤ q_fr X ∧ 90 ≤ q_lo X) (hc : 1 ≤ c) (hs6 : 6 ≤ s) (hq : Q (Sum.inr E) K v r) , P X pc ls st K v r c s Q
def ru_conseq (P : q_P) : Prop := ∀ {X : q_X} {pc : Nat} {ls : q_Ls} {st : List q_V} {K : q_K} {v : q_N} {r : q_A} {c : Nat} {s : Nat} {Q : q_Q} {Q1 : q_Q} (h : ∀ o K1 v1 r1, Q1 o K1 v1 r1 → Q o K1 v1 r1) (k1 : P X pc ls st K v r c s Q1), P X pc ls st K v r c s Q
def ru_room (P : q_P) : Prop := ∀ {X : q_X} {pc : Nat} {ls : q_Ls} {st : List q_V} {K : q_K} {v : q_N} {r : q_A} {c : Nat} {s : Nat} {Q : q_Q} {c1 s1 : Nat} (hc : c1 ≤ c) (hs : s1 ≤ s) (k1 : P X pc ls st K v r c1 s1 Q), P X pc ls st K v r c s Q
def ru_memo (P : q_P) : Prop := ∀ {X : q_X} {pc : Nat} {ls : q_Ls} {st : List q_V} {K : q_K} {v : q_N} {r : q_A} {c : Nat} {s : Nat} {Q : q_Q}  (k1 : q_mem K v → P X pc ls st K v r c s Q), P X pc ls st K v r c s Q
def ru_k0 (P : q_P) : Prop := ∀ {X : q_X} {pc : Nat} {ls : q_Ls} {st : List q_V} {K : q_K} {v : q_N} {r : q_A} {c : Nat} {s : Nat} {Q : q_Q}  (k1 : (K 0).1 = 0 → P X pc ls st K v r c s Q), P X pc ls st K v r c s Q
def ru_g0 (P : q_P) : Prop := ru_iconst P ∧ ru_bipush P ∧ ru_sipush P ∧ ru_lconst P ∧ ru_ldc2 P ∧ ru_iload_n P ∧ ru_iload P ∧ ru_aload_n P
def ru_g1 (P : q_P) : Prop := ru_aload P ∧ ru_lload_n P ∧ ru_lload P ∧ ru_istore_n P ∧ ru_istore P ∧ ru_astore_n P ∧ ru_astore P ∧ ru_lstore_n P
def ru_g2 (P : q_P) : Prop := ru_iinc P ∧ ru_iadd P ∧ ru_isub P ∧ ru_imul P ∧ ru_idiv P ∧ ru_irem P ∧ ru_iand63 P ∧ ru_ladd P
def ru_g3 (P : q_P) : Prop := ru_lmul P ∧ ru_ldiv P ∧ ru_lrem P ∧ ru_lcmp P ∧ ru_i2l P ∧ ru_l2i P ∧ ru_if_eq P ∧ ru_icmp_eq P
def ru_g4 (P : q_P) : Prop := ru_if_ne P ∧ ru_icmp_ne P ∧ ru_if_lt P ∧ ru_icmp_lt P ∧ ru_if_ge P ∧ ru_icmp_ge P ∧ ru_if_gt P ∧ ru_icmp_gt P
def ru_g5 (P : q_P) : Prop := ru_if_le P ∧ ru_icmp_le P ∧ ru_goto P ∧ ru_tsIn P ∧ ru_tsOut P ∧ ru_dup P ∧ ru_dup2 P ∧ ru_pop P
def ru_g6 (P : q_P) : Prop := ru_getI P ∧ ru_getL P ∧ ru_getR P ∧ ru_putI P ∧ ru_putB P ∧ ru_putL P ∧ ru_putR P ∧ ru_iald P
def ru_g7 (P : q_P) : Prop := ru_lald P ∧ ru_zald P ∧ ru_aald P ∧ ru_iast P ∧ ru_last P ∧ ru_zast P ∧ ru_aast P ∧ ru_alen P
def ru_g8 (P : q_P) : Prop := ru_new P ∧ ru_newI P ∧ ru_newL P ∧ ru_newZ P ∧ ru_newA P ∧ ru_callS P ∧ ru_callV P ∧ ru_callVH P
def ru_g9 (P : q_P) : Prop := ru_callI P ∧ ru_objI P ∧ ru_mmin P ∧ ru_mmax P ∧ ru_acopy P ∧ ru_ret P ∧ ru_iret P ∧ ru_aret P
def ru_g10 (P : q_P) : Prop := ru_thrS P ∧ ru_thrW P ∧ ru_conseq P ∧ ru_room P ∧ ru_memo P ∧ ru_k0 P
def q_closed (P : q_P) : Prop := ru_g0 P ∧ ru_g1 P ∧ ru_g2 P ∧ ru_g3 P ∧ ru_g4 P ∧ ru_g5 P ∧ ru_g6 P ∧ ru_g7 P ∧ ru_g8 P ∧ ru_g9 P ∧ ru_g10 P
def q_Ev : q_P := fun X pc ls st K v r c s Q => ∀ P : q_P, q_closed P → P X pc ls st K v r c s Q
theorem q_iconst : ru_iconst q_Ev := @fun _ _ _ _ _ _ _ _ _ _ _ d k1 P hP => hP.1.1 d (k1 P hP)
theorem q_bipush : ru_bipush q_Ev := @fun _ _ _ _ _ _ _ _ _ _ _ d hn k1 P hP => hP.1.2.1 d hn (k1 P hP)
theorem q_sipush : ru_sipush q_Ev := @fun _ _ _ _ _ _ _ _ _ _ _ d hn k1 P hP => hP.1.2.2.1 d hn (k1 P hP)
theorem q_lconst : ru_lconst q_Ev := @fun _ _ _ _ _ _ _ _ _ _ _ _ d hn k1 P hP => hP.1.2.2.2.1 d hn (k1 P hP)
theorem q_ldc2 : ru_ldc2 q_Ev := @fun _ _ _ _ _ _ _ _ _ _ _ _ d hw k1 P hP => hP.1.2.2.2.2.1 d hw (k1 P hP)
theorem q_iload_n : ru_iload_n q_Ev := @fun _ _ _ _ _ _ _ _ _ _ _ _ d hl k1 P hP => hP.1.2.2.2.2.2.1 d hl (k1 P hP)
theorem q_iload : ru_iload q_Ev := @fun _ _ _ _ _ _ _ _ _ _ _ _ d hl k1 P hP => hP.1.2.2.2.2.2.2.1 d hl (k1 P hP)
theorem q_aload_n : ru_aload_n q_Ev := @fun _ _ _ _ _ _ _ _ _ _ _ _ d hl k1 P hP => hP.1.2.2.2.2.2.2.2 d hl (k1 P hP)
theorem q_aload : ru_aload q_Ev := @fun _ _ _ _ _ _ _ _ _ _ _ _ d hl k1 P hP => hP.2.1.1 d hl (k1 P hP)
theorem q_lload_n : ru_lload_n q_Ev := @fun _ _ _ _ _ _ _ _ _ _ _ _ d hl k1 P hP => hP.2.1.2.1 d hl (k1 P hP)
theorem q_lload : ru_lload q_Ev := @fun _ _ _ _ _ _ _ _ _ _ _ _ d hl k1 P hP => hP.2.1.2.2.1 d hl (k1 P hP)
theorem q_istore_n : ru_istore_n q_Ev := @fun _ _ _ _ _ _ _ _ _ _ _ _ _ d hn hl k1 P hP => hP.2.1.2.2.2.1 d hn hl (k1 P hP)
theorem q_istore : ru_istore q_Ev := @fun _ _ _ _ _ _ _ _ _ _ _ _ _ d hn hl k1 P hP => hP.2.1.2.2.2.2.1 d hn hl (k1 P hP)
theorem q_astore_n : ru_astore_n q_Ev := @fun _ _ _ _ _ _ _ _ _ _ _ _ _ d hn hl k1 P hP => hP.2.1.2.2.2.2.2.1 d hn hl (k1 P hP)
theorem q_astore : ru_astore q_Ev := @fun _ _ _ _ _ _ _ _ _ _ _ _ _ d hn hl k1 P hP => hP.2.1.2.2.2.2.2.2.1 d hn hl (k1 P hP)
theorem q_lstore_n : ru_lstore_n q_Ev := @fun _ _ _ _ _ _ _ _ _ _ _ _ _ d hn hl k1 P hP => hP.2.1.2.2.2.2.2.2.2 d hn hl (k1 P hP)
theorem q_iinc : ru_iinc q_Ev := @fun _ _ _ _ _ _ _ _ _ _ _ _ _ _ d hi hn hl k1 P hP => hP.2.2.1.1 d hi hn hl (k1 P hP)
theorem q_iadd : ru_iadd q_Ev := @fun _ _ _ _ _ _ _ _ _ _ _ _ d k1 P hP => hP.2.2.1.2.1 d (k1 P hP)
theorem q_isub : ru_isub q_Ev := @fun _ _ _ _ _ _ _ _ _ _ _ _ d k1 P hP => hP.2.2.1.2.2.1 d (k1 P hP)
theorem q_imul : ru_imul q_Ev := @fun _ _ _ _ _ _ _ _ _ _ _ _ d k1 P hP => hP.2.2.1.2.2.2.1 d (k1 P hP)
theorem q_idiv : ru_idiv q_Ev := @fun _ _ _ _ _ _ _ _ _ _ _ _ d hx hy k1 P hP => hP.2.2.1.2.2.2.2.1 d hx hy (k1 P hP)
theorem q_irem : ru_irem q_Ev := @fun _ _ _ _ _ _ _ _ _ _ _ _ d hx hy k1 P hP => hP.2.2.1.2.2.2.2.2.1 d hx hy (k1 P hP)
theorem q_iand63 : ru_iand63 q_Ev := @fun _ _ _ _ _ _ _ _ _ _ _ _ d hy hx k1 P hP => hP.2.2.1.2.2.2.2.2.2.1 d hy hx (k1 P hP)
theorem q_ladd : ru_ladd q_Ev := @fun _ _ _ _ _ _ _ _ _ _ _ _ d k1 P hP => hP.2.2.1.2.2.2.2.2.2.2 d (k1 P hP)
theorem q_lmul : ru_lmul q_Ev := @fun _ _ _ _ _ _ _ _ _ _ _ _ d k1 P hP => hP.2.2.2.1.1 d (k1 P hP)
theorem q_ldiv : ru_ldiv q_Ev := @fun _ _ _ _ _ _ _ _ _ _ _ _ d hx hy k1 P hP => hP.2.2.2.1.2.1 d hx hy (k1 P hP)
theorem q_lrem : ru_lrem q_Ev := @fun _ _ _ _ _ _ _ _ _ _ _ _ d hx hy k1 P hP => hP.2.2.2.1.2.2.1 d hx hy (k1 P hP)
theorem q_lcmp : ru_lcmp q_Ev := @fun _ _ _ _ _ _ _ _ _ _ _ _ d hx hy k1 P hP => hP.2.2.2.1.2.2.2.1 d hx hy (k1 P hP)
theorem q_i2l : ru_i2l q_Ev := @fun _ _ _ _ _ _ _ _ _ _ _ d hx k1 P hP => hP.2.2.2.1.2.2.2.2.1 d hx (k1 P hP)
theorem q_l2i : ru_l2i q_Ev := @fun _ _ _ _ _ _ _ _ _ _ _ d k1 P hP => hP.2.2.2.1.2.2.2.2.2.1 d (k1 P hP)
theorem q_if_eq : ru_if_eq q_Ev := @fun _ _ _ _ _ _ _ _ _ _ _ _ _ d ht hx k1 k2 P hP => hP.2.2.2.1.2.2.2.2.2.2.1 d ht hx (fun x0 => k1 x0 P hP) (fun x0 => k2 x0 P hP)
theorem q_icmp_eq : ru_icmp_eq q_Ev := @fun _ _ _ _ _ _ _ _ _ _ _ _ _ _ d ht hx hy k1 k2 P hP => hP.2.2.2.1.2.2.2.2.2.2.2 d ht hx hy (fun x0 => k1 x0 P hP) (fun x0 => k2 x0 P hP)
theorem q_if_ne : ru_if_ne q_Ev := @fun _ _ _ _ _ _ _ _ _ _ _ _ _ d ht hx k1 k2 P hP => hP.2.2.2.2.1.1 d ht hx (fun x0 => k1 x0 P hP) (fun x0 => k2 x0 P hP)
theorem q_icmp_ne : ru_icmp_ne q_Ev := @fun _ _ _ _ _ _ _ _ _ _ _ _ _ _ d ht hx hy k1 k2 P hP => hP.2.2.2.2.1.2.1 d ht hx hy (fun x0 => k1 x0 P hP) (fun x0 => k2 x0 P hP)
theorem q_if_lt : ru_if_lt q_Ev := @fun _ _ _ _ _ _ _ _ _ _ _ _ _ d ht hx k1 k2 P hP => hP.2.2.2.2.1.2.2.1 d ht hx (fun x0 => k1 x0 P hP) (fun x0 => k2 x0 P hP)
theorem q_icmp_lt : ru_icmp_lt q_Ev := @fun _ _ _ _ _ _ _ _ _ _ _ _ _ _ d ht hx hy k1 k2 P hP => hP.2.2.2.2.1.2.2.2.1 d ht hx hy (fun x0 => k1 x0 P hP) (fun x0 => k2 x0 P hP)
theorem q_if_ge : ru_if_ge q_Ev := @fun _ _ _ _ _ _ _ _ _ _ _ _ _ d ht hx k1 k2 P hP => hP.2.2.2.2.1.2.2.2.2.1 d ht hx (fun x0 => k1 x0 P hP) (fun x0 => k2 x0 P hP)
theorem q_icmp_ge : ru_icmp_ge q_Ev := @fun _ _ _ _ _ _ _ _ _ _ _ _ _ _ d ht hx hy k1 k2 P hP => hP.2.2.2.2.1.2.2.2.2.2.1 d ht hx hy (fun x0 => k1 x0 P hP) (fun x0 => k2 x0 P hP)
theorem q_if_gt : ru_if_gt q_Ev := @fun _ _ _ _ _ _ _ _ _ _ _ _ _ d ht hx k1 k2 P hP => hP.2.2.2.2.1.2.2.2.2.2.2.1 d ht hx (fun x0 => k1 x0 P hP) (fun x0 => k2 x0 P hP)
theorem q_icmp_gt : ru_icmp_gt q_Ev := @fun _ _ _ _ _ _ _ _ _ _ _ _ _ _ d ht hx hy k1 k2 P hP => hP.2.2.2.2.1.2.2.2.2.2.2.2 d ht hx hy (fun x0 => k1 x0 P hP) (fun x0 => k2 x0 P hP)
theorem q_if_le : ru_if_le q_Ev := @fun _ _ _ _ _ _ _ _ _ _ _ _ _ d ht hx k1 k2 P hP => hP.2.2.2.2.2.1.1 d ht hx (fun x0 => k1 x0 P hP) (fun x0 => k2 x0 P hP)
theorem q_icmp_le : ru_icmp_le q_Ev := @fun _ _ _ _ _ _ _ _ _ _ _ _ _ _ d ht hx hy k1 k2 P hP => hP.2.2.2.2.2.1.2.1 d ht hx hy (fun x0 => k1 x0 P hP) (fun x0 => k2 x0 P hP)
theorem q_goto : ru_goto q_Ev := @fun _ _ _ _ _ _ _ _ _ _ _ _ d ht k1 P hP => hP.2.2.2.2.2.1.2.2.1 d ht (k1 P hP)
theorem q_tsIn : ru_tsIn q_Ev := @fun _ _ _ _ _ _ _ _ _ _ _ _ _ _ _ _ _ _ _ d hx hj hh ho ht k1 P hP => hP.2.2.2.2.2.1.2.2.2.1 d hx hj hh ho ht (k1 P hP)
theorem q_tsOut : ru_tsOut q_Ev := @fun _ _ _ _ _ _ _ _ _ _ _ _ _ _ _ _ _ d hx hh ht k1 P hP => hP.2.2.2.2.2.1.2.2.2.2.1 d hx hh ht (k1 P hP)
theorem q_dup : ru_dup q_Ev := @fun _ _ _ _ _ _ _ _ _ _ _ d hc k1 P hP => hP.2.2.2.2.2.1.2.2.2.2.2.1 d hc (k1 P hP)
theorem q_dup2 : ru_dup2 q_Ev := @fun _ _ _ _ _ _ _ _ _ _ _ _ d hx hy k1 P hP => hP.2.2.2.2.2.1.2.2.2.2.2.2.1 d hx hy (k1 P hP)
theorem q_pop : ru_pop q_Ev := @fun _ _ _ _ _ _ _ _ _ _ _ d hc k1 P hP => hP.2.2.2.2.2.1.2.2.2.2.2.2.2 d hc (k1 P hP)
theorem q_getI : ru_getI q_Ev := @fun _ _ _ _ _ _ _ _ _ _ _ _ _ _ _ _ d hf ht hk k1 P hP => hP.2.2.2.2.2.2.1.1 d hf ht hk (k1 P hP)
theorem q_getL : ru_getL q_Ev := @fun _ _ _ _ _ _ _ _ _ _ _ _ _ _ _ d hf hk k1 P hP => hP.2.2.2.2.2.2.1.2.1 d hf hk (k1 P hP)
theorem q_getR : ru_getR q_Ev := @fun _ _ _ _ _ _ _ _ _ _ _ _ _ _ _ d hf hk hn k1 P hP => hP.2.2.2.2.2.2.1.2.2.1 d hf hk hn (k1 P hP)
theorem q_putI : ru_putI q_Ev := @fun _ _ _ _ _ _ _ _ _ _ _ _ _ _ _ _ d hf hfi hk hz k1 P hP => hP.2.2.2.2.2.2.1.2.2.2.1 d hf hfi hk hz (k1 P hP)
theorem q_putB : ru_putB q_Ev := @fun _ _ _ _ _ _ _ _ _ _ _ _ _ _ _ _ d hf hfi hk hz k1 P hP => hP.2.2.2.2.2.2.1.2.2.2.2.1 d hf hfi hk hz (k1 P hP)
theorem q_putL : ru_putL q_Ev := @fun _ _ _ _ _ _ _ _ _ _ _ _ _ _ _ _ d hf hfi hk hz k1 P hP => hP.2.2.2.2.2.2.1.2.2.2.2.2.1 d hf hfi hk hz (k1 P hP)
theorem q_putR : ru_putR q_Ev := @fun _ _ _ _ _ _ _ _ _ _ _ _ _ _ _ _ d hf hfi hk hz k1 P hP => hP.2.2.2.2.2.2.1.2.2.2.2.2.2.1 d hf hfi hk hz (k1 P hP)
theorem q_iald : ru_iald q_Ev := @fun _ _ _ _ _ _ _ _ _ _ _ _ d hk hi hn k1 P hP => hP.2.2.2.2.2.2.1.2.2.2.2.2.2.2 d hk hi hn (k1 P hP)
theorem q_lald : ru_lald q_Ev := @fun _ _ _ _ _ _ _ _ _ _ _ _ d hk hi hn k1 P hP => hP.2.2.2.2.2.2.2.1.1 d hk hi hn (k1 P hP)
theorem q_zald : ru_zald q_Ev := @fun _ _ _ _ _ _ _ _ _ _ _ _ d hk hi hn k1 P hP => hP.2.2.2.2.2.2.2.1.2.1 d hk hi hn (k1 P hP)
theorem q_aald : ru_aald q_Ev := @fun _ _ _ _ _ _ _ _ _ _ _ _ _ d hk hc hi hn hr k1 P hP => hP.2.2.2.2.2.2.2.1.2.2.1 d hk hc hi hn hr (k1 P hP)
theorem q_iast : ru_iast q_Ev := @fun _ _ _ _ _ _ _ _ _ _ _ _ _ d hk hi hn hx k1 P hP => hP.2.2.2.2.2.2.2.1.2.2.2.1 d hk hi hn hx (k1 P hP)
theorem q_last : ru_last q_Ev := @fun _ _ _ _ _ _ _ _ _ _ _ _ _ d hk hi hn hx k1 P hP => hP.2.2.2.2.2.2.2.1.2.2.2.2.1 d hk hi hn hx (k1 P hP)
theorem q_zast : ru_zast q_Ev := @fun _ _ _ _ _ _ _ _ _ _ _ _ _ d hk hi hn hx k1 P hP => hP.2.2.2.2.2.2.2.1.2.2.2.2.2.1 d hk hi hn hx (k1 P hP)
theorem q_aast : ru_aast q_Ev := @fun _ _ _ _ _ _ _ _ _ _ _ _ _ _ d hk hc hi hn hb k1 P hP => hP.2.2.2.2.2.2.2.1.2.2.2.2.2.2.1 d hk hc hi hn hb (k1 P hP)
theorem q_alen : ru_alen q_Ev := @fun _ _ _ _ _ _ _ _ _ _ _ d hk hn k1 P hP => hP.2.2.2.2.2.2.2.1.2.2.2.2.2.2.2 d hk hn (k1 P hP)
theorem q_new : ru_new q_Ev := @fun _ _ _ _ _ _ _ _ _ _ _ _ _ _ _ d hw hc hs k1 P hP => hP.2.2.2.2.2.2.2.2.1.1 d hw hc hs (fun x0 x1 => k1 x0 x1 P hP)
theorem q_newI : ru_newI q_Ev := @fun _ _ _ _ _ _ _ _ _ _ _ _ _ _ _ d hw hz hn hc hs k1 P hP => hP.2.2.2.2.2.2.2.2.1.2.1 d hw hz hn hc hs (fun x0 x1 => k1 x0 x1 P hP)
theorem q_newL : ru_newL q_Ev := @fun _ _ _ _ _ _ _ _ _ _ _ _ _ _ _ d hw hz hn hc hs k1 P hP => hP.2.2.2.2.2.2.2.2.1.2.2.1 d hw hz hn hc hs (fun x0 x1 => k1 x0 x1 P hP)
theorem q_newZ : ru_newZ q_Ev := @fun _ _ _ _ _ _ _ _ _ _ _ _ _ _ _ d hw hz hn hc hs k1 P hP => hP.2.2.2.2.2.2.2.2.1.2.2.2.1 d hw hz hn hc hs (fun x0 x1 => k1 x0 x1 P hP)
theorem q_newA : ru_newA q_Ev := @fun _ _ _ _ _ _ _ _ _ _ _ _ _ _ _ _ _ d hw hz hn hc hs k1 P hP => hP.2.2.2.2.2.2.2.2.1.2.2.2.2.1 d hw hz hn hc hs (fun x0 x1 => k1 x0 x1 P hP)
theorem q_callS : ru_callS q_Ev := @fun _ _ _ _ _ _ _ _ _ _ _ _ _ _ _ _ _ _ _ _ _ d hw hl hst hown hx hst2 hln hls hfit hcc hss hr8 hnm k1 k2 k3 P hP => hP.2.2.2.2.2.2.2.2.1.2.2.2.2.2.1 d hw hl hst hown hx hst2 hln hls hfit hcc hss hr8 hnm (k1 P hP) (fun x0 x1 x2 x3 x4 => k2 x0 x1 x2 x3 x4 P hP) k3
theorem q_callV : ru_callV q_Ev := @fun _ _ _ _ _ _ _ _ _ _ _ _ _ _ _ _ _ _ _ _ _ _ _ d hw hl hst hse hka hcl hx hhY hst2 hln hls hfit hcc hss hr8 hnm k1 k2 k3 P hP => hP.2.2.2.2.2.2.2.2.1.2.2.2.2.2.2.1 d hw hl hst hse hka hcl hx hhY hst2 hln hls hfit hcc hss hr8 hnm (k1 P hP) (fun x0 x1 x2 x3 x4 => k2 x0 x1 x2 x3 x4 P hP) k3
theorem q_callVH : ru_callVH q_Ev := @fun _ _ _ _ _ _ _ _ _ _ _ _ _ _ _ _ _ _ _ _ _ _ _ d hw hl hst hse hka hcl hhY hst2 hln hls hfit hcc hss hr8 hnm k1 k2 k3 P hP => hP.2.2.2.2.2.2.2.2.1.2.2.2.2.2.2.2 d hw hl hst hse hka hcl hhY hst2 hln hls hfit hcc hss hr8 hnm (k1 P hP) (fun x0 x1 x2 x3 x4 => k2 x0 x1 x2 x3 x4 P hP) (fun E K1 v1 r1 h9 => ((k3 E K1 v1 r1 h9).elim fun h h8 => ⟨h, h8.1, fun q => h8.2 q P hP⟩))
theorem q_callI : ru_callI q_Ev := @fun _ _ _ _ _ _ _ _ _ _ _ _ _ _ _ _ _ _ _ _ _ _ d hw hini hrt hl hst hhY hst2 hln hls hfit hcc hss hr8 hnm k1 k2 k3 P hP => hP.2.2.2.2.2.2.2.2.2.1.1 d hw hini hrt hl hst hhY hst2 hln hls hfit hcc hss hr8 hnm (k1 P hP) (fun x0 x1 x2 x3 x4 => k2 x0 x1 x2 x3 x4 P hP) k3
theorem q_objI : ru_objI q_Ev := @fun _ _ _ _ _ _ _ _ _ _ _ _ d hl hr8 hfr k1 P hP => hP.2.2.2.2.2.2.2.2.2.1.2.1 d hl hr8 hfr (k1 P hP)
theorem q_mmin : ru_mmin q_Ev := @fun _ _ _ _ _ _ _ _ _ _ _ _ _ d hl hr8 hfr hx hy k1 P hP => hP.2.2.2.2.2.2.2.2.2.1.2.2.1 d hl hr8 hfr hx hy (k1 P hP)
theorem q_mmax : ru_mmax q_Ev := @fun _ _ _ _ _ _ _ _ _ _ _ _ _ d hl hr8 hfr hx hy k1 P hP => hP.2.2.2.2.2.2.2.2.2.1.2.2.2.1 d hl hr8 hfr hx hy (k1 P hP)
theorem q_acopy : ru_acopy q_Ev := @fun _ _ _ _ _ _ _ _ _ _ _ _ _ _ _ _ d hl hr8 hfr ha hb h1 h2 h3 hka hkb k1 P hP => hP.2.2.2.2.2.2.2.2.2.1.2.2.2.2.1 d hl hr8 hfr ha hb h1 h2 h3 hka hkb (k1 P hP)
theorem q_ret : ru_ret q_Ev := @fun _ _ _ _ _ _ _ _ _ d hr hq P hP => hP.2.2.2.2.2.2.2.2.2.1.2.2.2.2.2.1 d hr hq
theorem q_iret : ru_iret q_Ev := @fun _ _ _ _ _ _ _ _ _ _ d hr hq P hP => hP.2.2.2.2.2.2.2.2.2.1.2.2.2.2.2.2.1 d hr hq
theorem q_aret : ru_aret q_Ev := @fun _ _ _ _ _ _ _ _ _ _ _ d hr hq P hP => hP.2.2.2.2.2.2.2.2.2.1.2.2.2.2.2.2.2 d hr hq
theorem q_thrS : ru_thrS q_Ev := @fun _ _ _ _ _ _ _ _ _ _ _ _ _ _ d0 d3 d4 d6 d9 he hs hx hr8 hfr hc hs6 hq P hP => hP.2.2.2.2.2.2.2.2.2.2.1 d0 d3 d4 d6 d9 he hs hx hr8 hfr hc hs6 hq
theorem q_thrW : ru_thrW q_Ev := @fun _ _ _ _ _ _ _ _ _ _ _ _ _ _ d0 d3 d4 d7 d10 he hs hx hr8 hfr hc hs6 hq P hP => hP.2.2.2.2.2.2.2.2.2.2.2.1 d0 d3 d4 d7 d10 he hs hx hr8 hfr hc hs6 hq
theorem q_conseq : ru_conseq q_Ev := @fun _ _ _ _ _ _ _ _ _ _ _ h k1 P hP => hP.2.2.2.2.2.2.2.2.2.2.2.2.1 h (k1 P hP)
theorem q_room : ru_room q_Ev := @fun _ _ _ _ _ _ _ _ _ _ _ _ hc hs k1 P hP => hP.2.2.2.2.2.2.2.2.2.2.2.2.2.1 hc hs (k1 P hP)
theorem q_memo : ru_memo q_Ev := @fun _ _ _ _ _ _ _ _ _ _ k1 P hP => hP.2.2.2.2.2.2.2.2.2.2.2.2.2.2.1 (fun x0 => k1 x0 P hP)
theorem q_k0 : ru_k0 q_Ev := @fun _ _ _ _ _ _ _ _ _ _ k1 P hP => hP.2.2.2.2.2.2.2.2.2.2.2.2.2.2.2 (fun x0 => k1 x0 P hP)
