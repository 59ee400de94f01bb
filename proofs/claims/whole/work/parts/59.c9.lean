def viC (C : q_S) (f h m d c : Int) : q_S := q_us (q_us (q_us (q_us (q_us (q_us C 901 5 1) 901 0 f) 901 1 h) 901 2 m) 901 3 d) 901 4 (1000000 + 3 * c)
set_option maxRecDepth 20000 in
set_option maxHeartbeats 4000000 in
theorem c_9_init {K : q_K} {B C : q_S} {x y : Nat} {c : Int} (hx : K x = (10, 0, 901)) (hy : K y = (1, 0, 1000000 + 3 * c)) (hc : 0 ≤ c) {f h m d : Int} (hf : q_iI f) (hh : q_iI h) (hm : q_iI m) (hd : q_iI d) : q_E mX9_init 0 [some (q_R x), some (q_I f), some (q_I h), some (q_I m), some (q_I d), some (q_R y)] [] K B C 0 0 (e_is none K B (viC C f h m d c)) := by
  refine e_aload_n dX9_init_0 rfl ?_
  refine e_objI dX9_init_1 l_X9_3 (Nat.le_of_ble_eq_true rfl) ⟨by decide, by decide⟩ ?_
  refine e_aload_n dX9_init_4 rfl ?_
  refine e_iconst dX9_init_5 ?_
  refine c_putB (by decide) dX9_init_6 f_X9_9 rfl hx (by decide) (by omega) ?_
  refine e_aload_n dX9_init_9 rfl ?_
  refine e_iload_n dX9_init_10 rfl ?_
  refine c_putIf (by decide) dX9_init_11 f_X9_15 (Or.inr ⟨rfl, _, _, rfl⟩) hx (by decide) hf ?_
  refine e_aload_n dX9_init_14 rfl ?_
  refine e_iload_n dX9_init_15 rfl ?_
  refine c_putIf (by decide) dX9_init_16 f_X9_19 (Or.inr ⟨rfl, _, _, rfl⟩) hx (by decide) hh ?_
  refine e_aload_n dX9_init_19 rfl ?_
  refine e_iload_n dX9_init_20 rfl ?_
  refine c_putIf (by decide) dX9_init_21 f_X9_22 (Or.inr ⟨rfl, _, _, rfl⟩) hx (by decide) hm ?_
  refine e_aload_n dX9_init_24 rfl ?_
  refine e_iload dX9_init_25 rfl ?_
  refine c_putIf (by decide) dX9_init_27 f_X9_25 (Or.inr ⟨rfl, _, _, rfl⟩) hx (by decide) hd ?_
  refine e_aload_n dX9_init_30 rfl ?_
  refine e_aload dX9_init_31 rfl ?_
  refine c_putRf (1000000 + 3 * c) (by decide) dX9_init_33 f_X9_28 (Or.inr ⟨rfl, _, _, rfl⟩) hx (by decide) hy (Nat.succ_ne_zero _) (kof_ct hc) (Or.inl (by show ¬ q_sc (1000000 + 3 * c); omega)) ?_
  exact e_ret dX9_init_36 rfl (e_ok rfl rfl rfl)
set_option maxRecDepth 20000 in
set_option maxHeartbeats 4000000 in
theorem c_5_add {K : q_K} {B C : q_S} {l y : Nat} {f n : Int} (hL : K l = (6, 0, 104)) (hy : K y = (10, 0, 1000 + n)) (hf : 0 ≤ f ∧ f ≤ 15) (hn : 0 ≤ n ∧ n < 120) (h0 : C 104 0 = n) (h1 : C (1000 + n) 0 = f) : q_E mX5_add 0 [some (q_R l), some (q_R y)] [] K B C 0 0 (e_is (some (q_I n)) K B (q_us (q_us (q_us C 125 n (1000 + n)) 124 f n) 104 0 (n + 1))) := by
  refine e_aload_n dX5_add_0 rfl ?_
  refine c_getI (by decide) dX5_add_1 f_X5_9 (Or.inl rfl) hL ?_
  rw [h0]
  refine e_bipush dX5_add_4 (by decide) ?_
  refine e_icmp_ge (tgt := 25) dX5_add_6 (by decide) ⟨by omega, by omega⟩ ⟨by omega, by omega⟩ (fun c_6 => ?_) (fun c_6 => ?_)
  · exfalso; omega
  · refine e_aload_n dX5_add_9 rfl ?_
    refine c_getI (by omega) dX5_add_10 f_X5_32 (Or.inl rfl) hy ?_
    rw [h1]
    refine e_if_lt (tgt := 25) dX5_add_13 (by decide) ⟨by omega, by omega⟩ (fun c_13 => ?_) (fun c_13 => ?_)
    · exfalso; omega
    · refine e_aload_n dX5_add_16 rfl ?_
      refine c_getI (by omega) dX5_add_17 f_X5_32 (Or.inl rfl) hy ?_
      rw [h1]
      refine e_bipush dX5_add_20 (by decide) ?_
      refine e_icmp_lt (tgt := 27) dX5_add_22 (by decide) ⟨by omega, by omega⟩ ⟨by omega, by omega⟩ (fun c_22 => ?_) (fun c_22 => ?_)
      · refine e_aload_n dX5_add_27 rfl ?_
        refine c_getR (kt := (39, 120, 125)) (by decide) (Or.inl (by decide)) dX5_add_28 f_X5_21 hL rfl (Nat.succ_ne_zero _) (fun q_28 h_28 => ?_)
        refine e_aload_n dX5_add_31 rfl ?_
        refine c_getI (by decide) dX5_add_32 f_X5_9 (Or.inl rfl) hL ?_
        rw [h0]
        refine e_aload_n dX5_add_35 rfl ?_
        refine c_aast (ci := 9) (1000 + n) (by decide) dX5_add_36 h_28 (by decide) (by omega) (by omega) (by decide) hy (by have := kof_v (v := n) ⟨by omega, by omega⟩; unfold vtag at this; rw [if_neg (by omega)] at this; exact this) (by show ¬ q_sc (1000 + n); omega) ?_
        refine e_aload_n dX5_add_37 rfl ?_
        refine c_getR (kt := (20, 16, 124)) (by decide) (Or.inl (by decide)) dX5_add_38 f_X5_15 hL rfl (Nat.succ_ne_zero _) (fun q_38 h_38 => ?_)
        refine e_aload_n dX5_add_41 rfl ?_
        refine c_getI (by omega) dX5_add_42 f_X5_32 (Or.inl rfl) hy ?_
        try simp only [q_us_ap, editsF_3, Int.reduceEq, Int.reduceNeg, false_and, and_false, and_self, if_true, if_false, true_and, and_true, ite_self]
        rw [if_neg (show ¬ (1000 + n = 125 ∧ 0 = n) by omega), h1]
        refine e_aload_n dX5_add_45 rfl ?_
        refine c_getI (by decide) dX5_add_46 f_X5_9 (Or.inl rfl) hL ?_
        try simp only [q_us_ap, editsF_3, Int.reduceEq, Int.reduceNeg, false_and, and_false, and_self, if_true, if_false, true_and, and_true, ite_self]
        rw [h0]
        refine c_iast (by decide) dX5_add_49 h_38 (by omega) (by omega) (by decide) ⟨by omega, by omega⟩ ?_
        refine e_aload_n dX5_add_50 rfl ?_
        refine e_dup dX5_add_51 rfl ?_
        refine c_getI (by decide) dX5_add_52 f_X5_9 (Or.inl rfl) hL ?_
        try simp only [q_us_ap, editsF_3, Int.reduceEq, Int.reduceNeg, false_and, and_false, and_self, if_true, if_false, true_and, and_true, ite_self]
        rw [h0]
        refine e_iconst dX5_add_55 ?_
        refine e_iadd dX5_add_56 ?_
        refine c_putI (by decide) dX5_add_57 f_X5_9 rfl hL (by decide) ⟨by omega, by omega⟩ ?_
        refine e_aload_n dX5_add_60 rfl ?_
        refine c_getI (by decide) dX5_add_61 f_X5_9 (Or.inl rfl) hL ?_
        try simp only [q_us_ap, editsF_3, Int.reduceEq, Int.reduceNeg, false_and, and_false, and_self, if_true, if_false, true_and, and_true, ite_self]
        refine e_iconst dX5_add_64 ?_
        refine e_isub dX5_add_65 ?_
        exact e_iret dX5_add_66 (Or.inl rfl) (e_ok (by congr 2; omega) rfl rfl)
      · exfalso; omega
