set_option maxRecDepth 20000 in
set_option maxHeartbeats 4000000 in
theorem m_i2 {K : q_K} {C : q_S} {x : Nat} {Q : q_Q2} (hx : K x = (12, 0, 450)) (g1 : C 450 12 = 1) (H : q_E mX11_init 300 [some (q_R x), some (q_I 3)] [] K (m00 12 3) C 0 0 Q) : ∀ (r k : Nat), k + r = 3 → q_E mX11_init 281 [some (q_R x), some (q_I (k : Int))] [] K (m00 12 k) C 0 0 Q := by
  intro r
  induction r with
  | zero =>
    intro k h1
    have ek : k = 3 := by omega
    subst ek
    refine e_iload_n dX11_init_281 rfl ?_
    refine e_iconst dX11_init_282 ?_
    refine e_icmp_ge (tgt := 300) dX11_init_283 (by decide) ⟨by omega, by omega⟩ ⟨by omega, by omega⟩ (fun c_283 => ?_) (fun c_283 => ?_)
    · exact H
    · exfalso; omega
  | succ r ih =>
    intro k h1
    have ihx := ih (k + 1) (by omega)
    rw [show ((k + 1 : Nat) : Int) = (k : Int) + 1 by omega, ← m00_b] at ihx
    refine e_iload_n dX11_init_281 rfl ?_
    refine e_iconst dX11_init_282 ?_
    refine e_icmp_ge (tgt := 300) dX11_init_283 (by decide) ⟨by omega, by omega⟩ ⟨by omega, by omega⟩ (fun c_283 => ?_) (fun c_283 => ?_)
    · exfalso; omega
    · refine e_aload_n dX11_init_286 rfl ?_
      refine c_getR (kt := (20, 3, 12)) (by decide) (Or.inr (by rw [g1]; decide)) dX11_init_287 f_X11_35 hx rfl (Nat.succ_ne_zero _) (fun q_287 h_287 => ?_)
      refine e_iload_n dX11_init_290 rfl ?_
      refine e_bipush dX11_init_291 (by decide) ?_
      refine m_iast (by decide) dX11_init_293 h_287 (by omega) (by omega) ⟨by omega, by omega⟩ ?_
      refine e_iinc (ls2 := [_, _]) dX11_init_294 rfl (Nat.le_of_ble_eq_true rfl) rfl ?_
      refine e_goto (tgt := 281) dX11_init_297 (by decide) ?_
      exact ihx
set_option maxRecDepth 20000 in
set_option maxHeartbeats 4000000 in
theorem m_i1 {K : q_K} {C : q_S} {x : Nat} {Q : q_Q2} (hx : K x = (12, 0, 450)) (g1 : C 450 25 = 1) (g2 : C 450 26 = 1) (H : q_E mX11_init 279 [some (q_R x), some (q_I 12)] [] K (m00 12 0) C 0 0 Q) : ∀ (r k : Nat), k + r = 12 → q_E mX11_init 251 [some (q_R x), some (q_I (k : Int))] [] K (m00 k 0) C 0 0 Q := by
  intro r
  induction r with
  | zero =>
    intro k h1
    have ek : k = 12 := by omega
    subst ek
    refine e_iload_n dX11_init_251 rfl ?_
    refine e_bipush dX11_init_252 (by decide) ?_
    refine e_icmp_ge (tgt := 279) dX11_init_254 (by decide) ⟨by omega, by omega⟩ ⟨by omega, by omega⟩ (fun c_254 => ?_) (fun c_254 => ?_)
    · exact H
    · exfalso; omega
  | succ r ih =>
    intro k h1
    have ihx := ih (k + 1) (by omega)
    rw [show ((k + 1 : Nat) : Int) = (k : Int) + 1 by omega, ← m00_a] at ihx
    refine e_iload_n dX11_init_251 rfl ?_
    refine e_bipush dX11_init_252 (by decide) ?_
    refine e_icmp_ge (tgt := 279) dX11_init_254 (by decide) ⟨by omega, by omega⟩ ⟨by omega, by omega⟩ (fun c_254 => ?_) (fun c_254 => ?_)
    · exfalso; omega
    · refine e_aload_n dX11_init_257 rfl ?_
      refine c_getR (kt := (20, 12, 25)) (by decide) (Or.inr (by rw [g1]; decide)) dX11_init_258 f_X11_68 hx rfl (Nat.succ_ne_zero _) (fun q_258 h_258 => ?_)
      refine e_iload_n dX11_init_261 rfl ?_
      refine e_iconst dX11_init_262 ?_
      refine m_iast (by decide) dX11_init_263 h_258 (by omega) (by omega) ⟨by omega, by omega⟩ ?_
      refine e_aload_n dX11_init_264 rfl ?_
      refine c_getR (kt := (20, 12, 26)) (by decide) (Or.inr (by rw [g2]; decide)) dX11_init_265 f_X11_71 hx rfl (Nat.succ_ne_zero _) (fun q_265 h_265 => ?_)
      refine e_iload_n dX11_init_268 rfl ?_
      refine e_sipush dX11_init_269 (by decide) ?_
      refine m_iast (by decide) dX11_init_272 h_265 (by omega) (by omega) ⟨by omega, by omega⟩ ?_
      refine e_iinc (ls2 := [_, _]) dX11_init_273 rfl (Nat.le_of_ble_eq_true rfl) rfl ?_
      refine e_goto (tgt := 251) dX11_init_276 (by decide) ?_
      exact ihx
set_option maxRecDepth 20000 in
set_option maxHeartbeats 4000000 in
theorem m_init {K : q_K} {C : q_S} {x : Nat} (y0 : (K x).1 = 0) (h450 : ∀ j, C 450 j = 0) (hf : ∀ t : Int, t < 100 → q_fre K t) : q_E mX11_init 0 [some (q_R x), none] [] (q_uk K x (12, 0, 450)) (fun _ _ => 0) C 30 90660 (fun o K2 M2 C2 => o = Sum.inl none ∧ M2 = m0 ∧ q_nx K K2 (fun t => t < 100) ∧ K2 x = (12, 0, 50) ∧ ∀ t j : Int, t ≠ 450 → C2 t j = C t j) := by
  have hx : q_uk K x (12, 0, 450) x = (12, 0, 450) := uk_p
  refine e_aload_n dX11_init_0 rfl ?_
  refine e_objI dX11_init_1 l_X11_1 (Nat.le_of_ble_eq_true rfl) ⟨by decide, by decide⟩ ?_
  refine e_aload_n dX11_init_4 rfl ?_
  refine e_bipush dX11_init_5 (by decide) ?_
  refine m_newI (t := 2) (n := 48) (c2 := 29) (s2 := 90612) (by decide) (fre_uk (hf 2 (by decide)) (by decide)) dX11_init_7 g_aI rfl (by decide) (by omega) (by omega) (fun n_7 z_7 y_7 => ?_)
  replace hx := uk_k (k := (20, 48, 2)) y_7 hx (Nat.succ_ne_zero _)
  have h_7 : q_uk (q_uk K x (12, 0, 450)) n_7 (20, 48, 2) n_7 = (20, 48, 2) := uk_p
  rw [zt_0]
  refine c_putRf 1 (by decide) dX11_init_9 f_X11_7 (Or.inr ⟨rfl, _, _, rfl⟩) hx (by decide) h_7 (Nat.succ_ne_zero _) rfl (Or.inl (by decide)) ?_
  refine e_aload_n dX11_init_12 rfl ?_
  refine e_bipush dX11_init_13 (by decide) ?_
  refine m_newL (t := 3) (n := 48) (c2 := 28) (s2 := 90564) (by decide) (fre_uk (fre_uk (hf 3 (by decide)) (by decide)) (by decide)) dX11_init_15 g_aL rfl (by decide) (by omega) (by omega) (fun n_15 z_15 y_15 => ?_)
  replace hx := uk_k (k := (21, 48, 3)) y_15 hx (Nat.succ_ne_zero _)
  have h_15 : q_uk (q_uk (q_uk K x (12, 0, 450)) n_7 (20, 48, 2)) n_15 (21, 48, 3) n_15 = (21, 48, 3) := uk_p
  rw [zt_0]
  refine c_putRf 1 (by decide) dX11_init_17 f_X11_13 (Or.inr ⟨rfl, _, _, rfl⟩) hx (by decide) h_15 (Nat.succ_ne_zero _) rfl (Or.inl (by decide)) ?_
  refine e_aload_n dX11_init_20 rfl ?_
  refine e_bipush dX11_init_21 (by decide) ?_
  refine m_newI (t := 4) (n := 48) (c2 := 27) (s2 := 90516) (by decide) (fre_uk (fre_uk (fre_uk (hf 4 (by decide)) (by decide)) (by decide)) (by decide)) dX11_init_23 g_aI rfl (by decide) (by omega) (by omega) (fun n_23 z_23 y_23 => ?_)
  replace hx := uk_k (k := (20, 48, 4)) y_23 hx (Nat.succ_ne_zero _)
  have h_23 : q_uk (q_uk (q_uk (q_uk K x (12, 0, 450)) n_7 (20, 48, 2)) n_15 (21, 48, 3)) n_23 (20, 48, 4) n_23 = (20, 48, 4) := uk_p
  rw [zt_0]
  refine c_putRf 1 (by decide) dX11_init_25 f_X11_17 (Or.inr ⟨rfl, _, _, rfl⟩) hx (by decide) h_23 (Nat.succ_ne_zero _) rfl (Or.inl (by decide)) ?_
  refine e_aload_n dX11_init_28 rfl ?_
  refine e_bipush dX11_init_29 (by decide) ?_
  refine m_newI (t := 5) (n := 48) (c2 := 26) (s2 := 90468) (by decide) (fre_uk (fre_uk (fre_uk (fre_uk (hf 5 (by decide)) (by decide)) (by decide)) (by decide)) (by decide)) dX11_init_31 g_aI rfl (by decide) (by omega) (by omega) (fun n_31 z_31 y_31 => ?_)
  replace hx := uk_k (k := (20, 48, 5)) y_31 hx (Nat.succ_ne_zero _)
  have h_31 : q_uk (q_uk (q_uk (q_uk (q_uk K x (12, 0, 450)) n_7 (20, 48, 2)) n_15 (21, 48, 3)) n_23 (20, 48, 4)) n_31 (20, 48, 5) n_31 = (20, 48, 5) := uk_p
  rw [zt_0]
  refine c_putRf 1 (by decide) dX11_init_33 f_X11_20 (Or.inr ⟨rfl, _, _, rfl⟩) hx (by decide) h_31 (Nat.succ_ne_zero _) rfl (Or.inl (by decide)) ?_
  refine e_aload_n dX11_init_36 rfl ?_
  refine e_bipush dX11_init_37 (by decide) ?_
  refine m_newI (t := 6) (n := 48) (c2 := 25) (s2 := 90420) (by decide) (fre_uk (fre_uk (fre_uk (fre_uk (fre_uk (hf 6 (by decide)) (by decide)) (by decide)) (by decide)) (by decide)) (by decide)) dX11_init_39 g_aI rfl (by decide) (by omega) (by omega) (fun n_39 z_39 y_39 => ?_)
  replace hx := uk_k (k := (20, 48, 6)) y_39 hx (Nat.succ_ne_zero _)
  have h_39 : q_uk (q_uk (q_uk (q_uk (q_uk (q_uk K x (12, 0, 450)) n_7 (20, 48, 2)) n_15 (21, 48, 3)) n_23 (20, 48, 4)) n_31 (20, 48, 5)) n_39 (20, 48, 6) n_39 = (20, 48, 6) := uk_p
  rw [zt_0]
  refine c_putRf 1 (by decide) dX11_init_41 f_X11_23 (Or.inr ⟨rfl, _, _, rfl⟩) hx (by decide) h_39 (Nat.succ_ne_zero _) rfl (Or.inl (by decide)) ?_
  refine e_aload_n dX11_init_44 rfl ?_
  refine e_bipush dX11_init_45 (by decide) ?_
  refine m_newI (t := 7) (n := 48) (c2 := 24) (s2 := 90372) (by decide) (fre_uk (fre_uk (fre_uk (fre_uk (fre_uk (fre_uk (hf 7 (by decide)) (by decide)) (by decide)) (by decide)) (by decide)) (by decide)) (by decide)) dX11_init_47 g_aI rfl (by decide) (by omega) (by omega) (fun n_47 z_47 y_47 => ?_)
  replace hx := uk_k (k := (20, 48, 7)) y_47 hx (Nat.succ_ne_zero _)
  have h_47 : q_uk (q_uk (q_uk (q_uk (q_uk (q_uk (q_uk K x (12, 0, 450)) n_7 (20, 48, 2)) n_15 (21, 48, 3)) n_23 (20, 48, 4)) n_31 (20, 48, 5)) n_39 (20, 48, 6)) n_47 (20, 48, 7) n_47 = (20, 48, 7) := uk_p
  rw [zt_0]
  refine c_putRf 1 (by decide) dX11_init_49 f_X11_26 (Or.inr ⟨rfl, _, _, rfl⟩) hx (by decide) h_47 (Nat.succ_ne_zero _) rfl (Or.inl (by decide)) ?_
  refine e_aload_n dX11_init_52 rfl ?_
  refine e_bipush dX11_init_53 (by decide) ?_
  refine m_newI (t := 8) (n := 48) (c2 := 23) (s2 := 90324) (by decide) (fre_uk (fre_uk (fre_uk (fre_uk (fre_uk (fre_uk (fre_uk (hf 8 (by decide)) (by decide)) (by decide)) (by decide)) (by decide)) (by decide)) (by decide)) (by decide)) dX11_init_55 g_aI rfl (by decide) (by omega) (by omega) (fun n_55 z_55 y_55 => ?_)
  replace hx := uk_k (k := (20, 48, 8)) y_55 hx (Nat.succ_ne_zero _)
  have h_55 : q_uk (q_uk (q_uk (q_uk (q_uk (q_uk (q_uk (q_uk K x (12, 0, 450)) n_7 (20, 48, 2)) n_15 (21, 48, 3)) n_23 (20, 48, 4)) n_31 (20, 48, 5)) n_39 (20, 48, 6)) n_47 (20, 48, 7)) n_55 (20, 48, 8) n_55 = (20, 48, 8) := uk_p
  rw [zt_0]
  refine c_putRf 1 (by decide) dX11_init_57 f_X11_29 (Or.inr ⟨rfl, _, _, rfl⟩) hx (by decide) h_55 (Nat.succ_ne_zero _) rfl (Or.inl (by decide)) ?_
  refine e_aload_n dX11_init_60 rfl ?_
  refine e_iconst dX11_init_61 ?_
  refine m_newI (t := 11) (n := 3) (c2 := 22) (s2 := 90321) (by decide) (fre_uk (fre_uk (fre_uk (fre_uk (fre_uk (fre_uk (fre_uk (fre_uk (hf 11 (by decide)) (by decide)) (by decide)) (by decide)) (by decide)) (by decide)) (by decide)) (by decide)) (by decide)) dX11_init_62 g_aI rfl (by decide) (by omega) (by omega) (fun n_62 z_62 y_62 => ?_)
  replace hx := uk_k (k := (20, 3, 11)) y_62 hx (Nat.succ_ne_zero _)
  have h_62 : q_uk (q_uk (q_uk (q_uk (q_uk (q_uk (q_uk (q_uk (q_uk K x (12, 0, 450)) n_7 (20, 48, 2)) n_15 (21, 48, 3)) n_23 (20, 48, 4)) n_31 (20, 48, 5)) n_39 (20, 48, 6)) n_47 (20, 48, 7)) n_55 (20, 48, 8)) n_62 (20, 3, 11) n_62 = (20, 3, 11) := uk_p
  rw [zt_0]
  refine c_putRf 1 (by decide) dX11_init_64 f_X11_32 (Or.inr ⟨rfl, _, _, rfl⟩) hx (by decide) h_62 (Nat.succ_ne_zero _) rfl (Or.inl (by decide)) ?_
  refine e_aload_n dX11_init_67 rfl ?_
  refine e_iconst dX11_init_68 ?_
  refine m_newI (t := 12) (n := 3) (c2 := 21) (s2 := 90318) (by decide) (fre_uk (fre_uk (fre_uk (fre_uk (fre_uk (fre_uk (fre_uk (fre_uk (fre_uk (hf 12 (by decide)) (by decide)) (by decide)) (by decide)) (by decide)) (by decide)) (by decide)) (by decide)) (by decide)) (by decide)) dX11_init_69 g_aI rfl (by decide) (by omega) (by omega) (fun n_69 z_69 y_69 => ?_)
  replace hx := uk_k (k := (20, 3, 12)) y_69 hx (Nat.succ_ne_zero _)
  have h_69 : q_uk (q_uk (q_uk (q_uk (q_uk (q_uk (q_uk (q_uk (q_uk (q_uk K x (12, 0, 450)) n_7 (20, 48, 2)) n_15 (21, 48, 3)) n_23 (20, 48, 4)) n_31 (20, 48, 5)) n_39 (20, 48, 6)) n_47 (20, 48, 7)) n_55 (20, 48, 8)) n_62 (20, 3, 11)) n_69 (20, 3, 12) n_69 = (20, 3, 12) := uk_p
  rw [zt_0]
  refine c_putRf 1 (by decide) dX11_init_71 f_X11_35 (Or.inr ⟨rfl, _, _, rfl⟩) hx (by decide) h_69 (Nat.succ_ne_zero _) rfl (Or.inl (by decide)) ?_
  refine e_aload_n dX11_init_74 rfl ?_
  refine e_sipush dX11_init_75 (by decide) ?_
  refine m_newI (t := 14) (n := 4000) (c2 := 20) (s2 := 86318) (by decide) (fre_uk (fre_uk (fre_uk (fre_uk (fre_uk (fre_uk (fre_uk (fre_uk (fre_uk (fre_uk (hf 14 (by decide)) (by decide)) (by decide)) (by decide)) (by decide)) (by decide)) (by decide)) (by decide)) (by decide)) (by decide)) (by decide)) dX11_init_78 g_aI rfl (by decide) (by omega) (by omega) (fun n_78 z_78 y_78 => ?_)
  replace hx := uk_k (k := (20, 4000, 14)) y_78 hx (Nat.succ_ne_zero _)
  have h_78 : q_uk (q_uk (q_uk (q_uk (q_uk (q_uk (q_uk (q_uk (q_uk (q_uk (q_uk K x (12, 0, 450)) n_7 (20, 48, 2)) n_15 (21, 48, 3)) n_23 (20, 48, 4)) n_31 (20, 48, 5)) n_39 (20, 48, 6)) n_47 (20, 48, 7)) n_55 (20, 48, 8)) n_62 (20, 3, 11)) n_69 (20, 3, 12)) n_78 (20, 4000, 14) n_78 = (20, 4000, 14) := uk_p
  rw [zt_0]
  refine c_putRf 1 (by decide) dX11_init_80 f_X11_38 (Or.inr ⟨rfl, _, _, rfl⟩) hx (by decide) h_78 (Nat.succ_ne_zero _) rfl (Or.inl (by decide)) ?_
  refine e_aload_n dX11_init_83 rfl ?_
  refine e_sipush dX11_init_84 (by decide) ?_
  refine m_newI (t := 15) (n := 4000) (c2 := 19) (s2 := 82318) (by decide) (fre_uk (fre_uk (fre_uk (fre_uk (fre_uk (fre_uk (fre_uk (fre_uk (fre_uk (fre_uk (fre_uk (hf 15 (by decide)) (by decide)) (by decide)) (by decide)) (by decide)) (by decide)) (by decide)) (by decide)) (by decide)) (by decide)) (by decide)) (by decide)) dX11_init_87 g_aI rfl (by decide) (by omega) (by omega) (fun n_87 z_87 y_87 => ?_)
  replace hx := uk_k (k := (20, 4000, 15)) y_87 hx (Nat.succ_ne_zero _)
  have h_87 : q_uk (q_uk (q_uk (q_uk (q_uk (q_uk (q_uk (q_uk (q_uk (q_uk (q_uk (q_uk K x (12, 0, 450)) n_7 (20, 48, 2)) n_15 (21, 48, 3)) n_23 (20, 48, 4)) n_31 (20, 48, 5)) n_39 (20, 48, 6)) n_47 (20, 48, 7)) n_55 (20, 48, 8)) n_62 (20, 3, 11)) n_69 (20, 3, 12)) n_78 (20, 4000, 14)) n_87 (20, 4000, 15) n_87 = (20, 4000, 15) := uk_p
  rw [zt_0]
  refine c_putRf 1 (by decide) dX11_init_89 f_X11_41 (Or.inr ⟨rfl, _, _, rfl⟩) hx (by decide) h_87 (Nat.succ_ne_zero _) rfl (Or.inl (by decide)) ?_
  refine e_aload_n dX11_init_92 rfl ?_
  refine e_bipush dX11_init_93 (by decide) ?_
  refine m_newI (t := 17) (n := 120) (c2 := 18) (s2 := 82198) (by decide) (fre_uk (fre_uk (fre_uk (fre_uk (fre_uk (fre_uk (fre_uk (fre_uk (fre_uk (fre_uk (fre_uk (fre_uk (hf 17 (by decide)) (by decide)) (by decide)) (by decide)) (by decide)) (by decide)) (by decide)) (by decide)) (by decide)) (by decide)) (by decide)) (by decide)) (by decide)) dX11_init_95 g_aI rfl (by decide) (by omega) (by omega) (fun n_95 z_95 y_95 => ?_)
  replace hx := uk_k (k := (20, 120, 17)) y_95 hx (Nat.succ_ne_zero _)
  have h_95 : q_uk (q_uk (q_uk (q_uk (q_uk (q_uk (q_uk (q_uk (q_uk (q_uk (q_uk (q_uk (q_uk K x (12, 0, 450)) n_7 (20, 48, 2)) n_15 (21, 48, 3)) n_23 (20, 48, 4)) n_31 (20, 48, 5)) n_39 (20, 48, 6)) n_47 (20, 48, 7)) n_55 (20, 48, 8)) n_62 (20, 3, 11)) n_69 (20, 3, 12)) n_78 (20, 4000, 14)) n_87 (20, 4000, 15)) n_95 (20, 120, 17) n_95 = (20, 120, 17) := uk_p
  rw [zt_0]
  refine c_putRf 1 (by decide) dX11_init_97 f_X11_44 (Or.inr ⟨rfl, _, _, rfl⟩) hx (by decide) h_95 (Nat.succ_ne_zero _) rfl (Or.inl (by decide)) ?_
  refine e_aload_n dX11_init_100 rfl ?_
  refine e_bipush dX11_init_101 (by decide) ?_
  refine m_newI (t := 18) (n := 120) (c2 := 17) (s2 := 82078) (by decide) (fre_uk (fre_uk (fre_uk (fre_uk (fre_uk (fre_uk (fre_uk (fre_uk (fre_uk (fre_uk (fre_uk (fre_uk (fre_uk (hf 18 (by decide)) (by decide)) (by decide)) (by decide)) (by decide)) (by decide)) (by decide)) (by decide)) (by decide)) (by decide)) (by decide)) (by decide)) (by decide)) (by decide)) dX11_init_103 g_aI rfl (by decide) (by omega) (by omega) (fun n_103 z_103 y_103 => ?_)
  replace hx := uk_k (k := (20, 120, 18)) y_103 hx (Nat.succ_ne_zero _)
  have h_103 : q_uk (q_uk (q_uk (q_uk (q_uk (q_uk (q_uk (q_uk (q_uk (q_uk (q_uk (q_uk (q_uk (q_uk K x (12, 0, 450)) n_7 (20, 48, 2)) n_15 (21, 48, 3)) n_23 (20, 48, 4)) n_31 (20, 48, 5)) n_39 (20, 48, 6)) n_47 (20, 48, 7)) n_55 (20, 48, 8)) n_62 (20, 3, 11)) n_69 (20, 3, 12)) n_78 (20, 4000, 14)) n_87 (20, 4000, 15)) n_95 (20, 120, 17)) n_103 (20, 120, 18) n_103 = (20, 120, 18) := uk_p
  rw [zt_0]
  refine c_putRf 1 (by decide) dX11_init_105 f_X11_47 (Or.inr ⟨rfl, _, _, rfl⟩) hx (by decide) h_103 (Nat.succ_ne_zero _) rfl (Or.inl (by decide)) ?_
  refine e_aload_n dX11_init_108 rfl ?_
  refine e_bipush dX11_init_109 (by decide) ?_
  refine m_newI (t := 19) (n := 120) (c2 := 16) (s2 := 81958) (by decide) (fre_uk (fre_uk (fre_uk (fre_uk (fre_uk (fre_uk (fre_uk (fre_uk (fre_uk (fre_uk (fre_uk (fre_uk (fre_uk (fre_uk (hf 19 (by decide)) (by decide)) (by decide)) (by decide)) (by decide)) (by decide)) (by decide)) (by decide)) (by decide)) (by decide)) (by decide)) (by decide)) (by decide)) (by decide)) (by decide)) dX11_init_111 g_aI rfl (by decide) (by omega) (by omega) (fun n_111 z_111 y_111 => ?_)
  replace hx := uk_k (k := (20, 120, 19)) y_111 hx (Nat.succ_ne_zero _)
  have h_111 : q_uk (q_uk (q_uk (q_uk (q_uk (q_uk (q_uk (q_uk (q_uk (q_uk (q_uk (q_uk (q_uk (q_uk (q_uk K x (12, 0, 450)) n_7 (20, 48, 2)) n_15 (21, 48, 3)) n_23 (20, 48, 4)) n_31 (20, 48, 5)) n_39 (20, 48, 6)) n_47 (20, 48, 7)) n_55 (20, 48, 8)) n_62 (20, 3, 11)) n_69 (20, 3, 12)) n_78 (20, 4000, 14)) n_87 (20, 4000, 15)) n_95 (20, 120, 17)) n_103 (20, 120, 18)) n_111 (20, 120, 19) n_111 = (20, 120, 19) := uk_p
  rw [zt_0]
  refine c_putRf 1 (by decide) dX11_init_113 f_X11_50 (Or.inr ⟨rfl, _, _, rfl⟩) hx (by decide) h_111 (Nat.succ_ne_zero _) rfl (Or.inl (by decide)) ?_
  refine e_aload_n dX11_init_116 rfl ?_
  refine e_bipush dX11_init_117 (by decide) ?_
  refine m_newI (t := 20) (n := 120) (c2 := 15) (s2 := 81838) (by decide) (fre_uk (fre_uk (fre_uk (fre_uk (fre_uk (fre_uk (fre_uk (fre_uk (fre_uk (fre_uk (fre_uk (fre_uk (fre_uk (fre_uk (fre_uk (hf 20 (by decide)) (by decide)) (by decide)) (by decide)) (by decide)) (by decide)) (by decide)) (by decide)) (by decide)) (by decide)) (by decide)) (by decide)) (by decide)) (by decide)) (by decide)) (by decide)) dX11_init_119 g_aI rfl (by decide) (by omega) (by omega) (fun n_119 z_119 y_119 => ?_)
  replace hx := uk_k (k := (20, 120, 20)) y_119 hx (Nat.succ_ne_zero _)
  have h_119 : q_uk (q_uk (q_uk (q_uk (q_uk (q_uk (q_uk (q_uk (q_uk (q_uk (q_uk (q_uk (q_uk (q_uk (q_uk (q_uk K x (12, 0, 450)) n_7 (20, 48, 2)) n_15 (21, 48, 3)) n_23 (20, 48, 4)) n_31 (20, 48, 5)) n_39 (20, 48, 6)) n_47 (20, 48, 7)) n_55 (20, 48, 8)) n_62 (20, 3, 11)) n_69 (20, 3, 12)) n_78 (20, 4000, 14)) n_87 (20, 4000, 15)) n_95 (20, 120, 17)) n_103 (20, 120, 18)) n_111 (20, 120, 19)) n_119 (20, 120, 20) n_119 = (20, 120, 20) := uk_p
  rw [zt_0]
  refine c_putRf 1 (by decide) dX11_init_121 f_X11_53 (Or.inr ⟨rfl, _, _, rfl⟩) hx (by decide) h_119 (Nat.succ_ne_zero _) rfl (Or.inl (by decide)) ?_
  refine e_aload_n dX11_init_124 rfl ?_
  refine e_bipush dX11_init_125 (by decide) ?_
  refine m_newL (t := 21) (n := 120) (c2 := 14) (s2 := 81718) (by decide) (fre_uk (fre_uk (fre_uk (fre_uk (fre_uk (fre_uk (fre_uk (fre_uk (fre_uk (fre_uk (fre_uk (fre_uk (fre_uk (fre_uk (fre_uk (fre_uk (hf 21 (by decide)) (by decide)) (by decide)) (by decide)) (by decide)) (by decide)) (by decide)) (by decide)) (by decide)) (by decide)) (by decide)) (by decide)) (by decide)) (by decide)) (by decide)) (by decide)) (by decide)) dX11_init_127 g_aL rfl (by decide) (by omega) (by omega) (fun n_127 z_127 y_127 => ?_)
  replace hx := uk_k (k := (21, 120, 21)) y_127 hx (Nat.succ_ne_zero _)
  have h_127 : q_uk (q_uk (q_uk (q_uk (q_uk (q_uk (q_uk (q_uk (q_uk (q_uk (q_uk (q_uk (q_uk (q_uk (q_uk (q_uk (q_uk K x (12, 0, 450)) n_7 (20, 48, 2)) n_15 (21, 48, 3)) n_23 (20, 48, 4)) n_31 (20, 48, 5)) n_39 (20, 48, 6)) n_47 (20, 48, 7)) n_55 (20, 48, 8)) n_62 (20, 3, 11)) n_69 (20, 3, 12)) n_78 (20, 4000, 14)) n_87 (20, 4000, 15)) n_95 (20, 120, 17)) n_103 (20, 120, 18)) n_111 (20, 120, 19)) n_119 (20, 120, 20)) n_127 (21, 120, 21) n_127 = (21, 120, 21) := uk_p
  rw [zt_0]
  refine c_putRf 1 (by decide) dX11_init_129 f_X11_56 (Or.inr ⟨rfl, _, _, rfl⟩) hx (by decide) h_127 (Nat.succ_ne_zero _) rfl (Or.inl (by decide)) ?_
  refine e_aload_n dX11_init_132 rfl ?_
  refine e_bipush dX11_init_133 (by decide) ?_
  refine m_newI (t := 22) (n := 120) (c2 := 13) (s2 := 81598) (by decide) (fre_uk (fre_uk (fre_uk (fre_uk (fre_uk (fre_uk (fre_uk (fre_uk (fre_uk (fre_uk (fre_uk (fre_uk (fre_uk (fre_uk (fre_uk (fre_uk (fre_uk (hf 22 (by decide)) (by decide)) (by decide)) (by decide)) (by decide)) (by decide)) (by decide)) (by decide)) (by decide)) (by decide)) (by decide)) (by decide)) (by decide)) (by decide)) (by decide)) (by decide)) (by decide)) (by decide)) dX11_init_135 g_aI rfl (by decide) (by omega) (by omega) (fun n_135 z_135 y_135 => ?_)
  replace hx := uk_k (k := (20, 120, 22)) y_135 hx (Nat.succ_ne_zero _)
  have h_135 : q_uk (q_uk (q_uk (q_uk (q_uk (q_uk (q_uk (q_uk (q_uk (q_uk (q_uk (q_uk (q_uk (q_uk (q_uk (q_uk (q_uk (q_uk K x (12, 0, 450)) n_7 (20, 48, 2)) n_15 (21, 48, 3)) n_23 (20, 48, 4)) n_31 (20, 48, 5)) n_39 (20, 48, 6)) n_47 (20, 48, 7)) n_55 (20, 48, 8)) n_62 (20, 3, 11)) n_69 (20, 3, 12)) n_78 (20, 4000, 14)) n_87 (20, 4000, 15)) n_95 (20, 120, 17)) n_103 (20, 120, 18)) n_111 (20, 120, 19)) n_119 (20, 120, 20)) n_127 (21, 120, 21)) n_135 (20, 120, 22) n_135 = (20, 120, 22) := uk_p
  rw [zt_0]
  refine c_putRf 1 (by decide) dX11_init_137 f_X11_59 (Or.inr ⟨rfl, _, _, rfl⟩) hx (by decide) h_135 (Nat.succ_ne_zero _) rfl (Or.inl (by decide)) ?_
  refine e_aload_n dX11_init_140 rfl ?_
  refine e_bipush dX11_init_141 (by decide) ?_
  refine m_newI (t := 23) (n := 16) (c2 := 12) (s2 := 81582) (by decide) (fre_uk (fre_uk (fre_uk (fre_uk (fre_uk (fre_uk (fre_uk (fre_uk (fre_uk (fre_uk (fre_uk (fre_uk (fre_uk (fre_uk (fre_uk (fre_uk (fre_uk (fre_uk (hf 23 (by decide)) (by decide)) (by decide)) (by decide)) (by decide)) (by decide)) (by decide)) (by decide)) (by decide)) (by decide)) (by decide)) (by decide)) (by decide)) (by decide)) (by decide)) (by decide)) (by decide)) (by decide)) (by decide)) dX11_init_143 g_aI rfl (by decide) (by omega) (by omega) (fun n_143 z_143 y_143 => ?_)
  replace hx := uk_k (k := (20, 16, 23)) y_143 hx (Nat.succ_ne_zero _)
  have h_143 : q_uk (q_uk (q_uk (q_uk (q_uk (q_uk (q_uk (q_uk (q_uk (q_uk (q_uk (q_uk (q_uk (q_uk (q_uk (q_uk (q_uk (q_uk (q_uk K x (12, 0, 450)) n_7 (20, 48, 2)) n_15 (21, 48, 3)) n_23 (20, 48, 4)) n_31 (20, 48, 5)) n_39 (20, 48, 6)) n_47 (20, 48, 7)) n_55 (20, 48, 8)) n_62 (20, 3, 11)) n_69 (20, 3, 12)) n_78 (20, 4000, 14)) n_87 (20, 4000, 15)) n_95 (20, 120, 17)) n_103 (20, 120, 18)) n_111 (20, 120, 19)) n_119 (20, 120, 20)) n_127 (21, 120, 21)) n_135 (20, 120, 22)) n_143 (20, 16, 23) n_143 = (20, 16, 23) := uk_p
  rw [zt_0]
  refine c_putRf 1 (by decide) dX11_init_145 f_X11_62 (Or.inr ⟨rfl, _, _, rfl⟩) hx (by decide) h_143 (Nat.succ_ne_zero _) rfl (Or.inl (by decide)) ?_
  refine e_aload_n dX11_init_148 rfl ?_
  refine e_bipush dX11_init_149 (by decide) ?_
  refine m_newI (t := 24) (n := 16) (c2 := 11) (s2 := 81566) (by decide) (fre_uk (fre_uk (fre_uk (fre_uk (fre_uk (fre_uk (fre_uk (fre_uk (fre_uk (fre_uk (fre_uk (fre_uk (fre_uk (fre_uk (fre_uk (fre_uk (fre_uk (fre_uk (fre_uk (hf 24 (by decide)) (by decide)) (by decide)) (by decide)) (by decide)) (by decide)) (by decide)) (by decide)) (by decide)) (by decide)) (by decide)) (by decide)) (by decide)) (by decide)) (by decide)) (by decide)) (by decide)) (by decide)) (by decide)) (by decide)) dX11_init_151 g_aI rfl (by decide) (by omega) (by omega) (fun n_151 z_151 y_151 => ?_)
  replace hx := uk_k (k := (20, 16, 24)) y_151 hx (Nat.succ_ne_zero _)
  have h_151 : q_uk (q_uk (q_uk (q_uk (q_uk (q_uk (q_uk (q_uk (q_uk (q_uk (q_uk (q_uk (q_uk (q_uk (q_uk (q_uk (q_uk (q_uk (q_uk (q_uk K x (12, 0, 450)) n_7 (20, 48, 2)) n_15 (21, 48, 3)) n_23 (20, 48, 4)) n_31 (20, 48, 5)) n_39 (20, 48, 6)) n_47 (20, 48, 7)) n_55 (20, 48, 8)) n_62 (20, 3, 11)) n_69 (20, 3, 12)) n_78 (20, 4000, 14)) n_87 (20, 4000, 15)) n_95 (20, 120, 17)) n_103 (20, 120, 18)) n_111 (20, 120, 19)) n_119 (20, 120, 20)) n_127 (21, 120, 21)) n_135 (20, 120, 22)) n_143 (20, 16, 23)) n_151 (20, 16, 24) n_151 = (20, 16, 24) := uk_p
  rw [zt_0]
  refine c_putRf 1 (by decide) dX11_init_153 f_X11_65 (Or.inr ⟨rfl, _, _, rfl⟩) hx (by decide) h_151 (Nat.succ_ne_zero _) rfl (Or.inl (by decide)) ?_
  refine e_aload_n dX11_init_156 rfl ?_
  refine e_bipush dX11_init_157 (by decide) ?_
  refine m_newI (t := 25) (n := 12) (c2 := 10) (s2 := 81554) (by decide) (fre_uk (fre_uk (fre_uk (fre_uk (fre_uk (fre_uk (fre_uk (fre_uk (fre_uk (fre_uk (fre_uk (fre_uk (fre_uk (fre_uk (fre_uk (fre_uk (fre_uk (fre_uk (fre_uk (fre_uk (hf 25 (by decide)) (by decide)) (by decide)) (by decide)) (by decide)) (by decide)) (by decide)) (by decide)) (by decide)) (by decide)) (by decide)) (by decide)) (by decide)) (by decide)) (by decide)) (by decide)) (by decide)) (by decide)) (by decide)) (by decide)) (by decide)) dX11_init_159 g_aI rfl (by decide) (by omega) (by omega) (fun n_159 z_159 y_159 => ?_)
  replace hx := uk_k (k := (20, 12, 25)) y_159 hx (Nat.succ_ne_zero _)
  have h_159 : q_uk (q_uk (q_uk (q_uk (q_uk (q_uk (q_uk (q_uk (q_uk (q_uk (q_uk (q_uk (q_uk (q_uk (q_uk (q_uk (q_uk (q_uk (q_uk (q_uk (q_uk K x (12, 0, 450)) n_7 (20, 48, 2)) n_15 (21, 48, 3)) n_23 (20, 48, 4)) n_31 (20, 48, 5)) n_39 (20, 48, 6)) n_47 (20, 48, 7)) n_55 (20, 48, 8)) n_62 (20, 3, 11)) n_69 (20, 3, 12)) n_78 (20, 4000, 14)) n_87 (20, 4000, 15)) n_95 (20, 120, 17)) n_103 (20, 120, 18)) n_111 (20, 120, 19)) n_119 (20, 120, 20)) n_127 (21, 120, 21)) n_135 (20, 120, 22)) n_143 (20, 16, 23)) n_151 (20, 16, 24)) n_159 (20, 12, 25) n_159 = (20, 12, 25) := uk_p
  rw [zt_0]
  refine c_putRf 1 (by decide) dX11_init_161 f_X11_68 (Or.inr ⟨rfl, _, _, rfl⟩) hx (by decide) h_159 (Nat.succ_ne_zero _) rfl (Or.inl (by decide)) ?_
  refine e_aload_n dX11_init_164 rfl ?_
  refine e_bipush dX11_init_165 (by decide) ?_
  refine m_newI (t := 26) (n := 12) (c2 := 9) (s2 := 81542) (by decide) (fre_uk (fre_uk (fre_uk (fre_uk (fre_uk (fre_uk (fre_uk (fre_uk (fre_uk (fre_uk (fre_uk (fre_uk (fre_uk (fre_uk (fre_uk (fre_uk (fre_uk (fre_uk (fre_uk (fre_uk (fre_uk (hf 26 (by decide)) (by decide)) (by decide)) (by decide)) (by decide)) (by decide)) (by decide)) (by decide)) (by decide)) (by decide)) (by decide)) (by decide)) (by decide)) (by decide)) (by decide)) (by decide)) (by decide)) (by decide)) (by decide)) (by decide)) (by decide)) (by decide)) dX11_init_167 g_aI rfl (by decide) (by omega) (by omega) (fun n_167 z_167 y_167 => ?_)
  replace hx := uk_k (k := (20, 12, 26)) y_167 hx (Nat.succ_ne_zero _)
  have h_167 : q_uk (q_uk (q_uk (q_uk (q_uk (q_uk (q_uk (q_uk (q_uk (q_uk (q_uk (q_uk (q_uk (q_uk (q_uk (q_uk (q_uk (q_uk (q_uk (q_uk (q_uk (q_uk K x (12, 0, 450)) n_7 (20, 48, 2)) n_15 (21, 48, 3)) n_23 (20, 48, 4)) n_31 (20, 48, 5)) n_39 (20, 48, 6)) n_47 (20, 48, 7)) n_55 (20, 48, 8)) n_62 (20, 3, 11)) n_69 (20, 3, 12)) n_78 (20, 4000, 14)) n_87 (20, 4000, 15)) n_95 (20, 120, 17)) n_103 (20, 120, 18)) n_111 (20, 120, 19)) n_119 (20, 120, 20)) n_127 (21, 120, 21)) n_135 (20, 120, 22)) n_143 (20, 16, 23)) n_151 (20, 16, 24)) n_159 (20, 12, 25)) n_167 (20, 12, 26) n_167 = (20, 12, 26) := uk_p
  rw [zt_0]
  refine c_putRf 1 (by decide) dX11_init_169 f_X11_71 (Or.inr ⟨rfl, _, _, rfl⟩) hx (by decide) h_167 (Nat.succ_ne_zero _) rfl (Or.inl (by decide)) ?_
  refine e_aload_n dX11_init_172 rfl ?_
  refine e_bipush dX11_init_173 (by decide) ?_
  refine m_newI (t := 28) (n := 10) (c2 := 8) (s2 := 81532) (by decide) (fre_uk (fre_uk (fre_uk (fre_uk (fre_uk (fre_uk (fre_uk (fre_uk (fre_uk (fre_uk (fre_uk (fre_uk (fre_uk (fre_uk (fre_uk (fre_uk (fre_uk (fre_uk (fre_uk (fre_uk (fre_uk (fre_uk (hf 28 (by decide)) (by decide)) (by decide)) (by decide)) (by decide)) (by decide)) (by decide)) (by decide)) (by decide)) (by decide)) (by decide)) (by decide)) (by decide)) (by decide)) (by decide)) (by decide)) (by decide)) (by decide)) (by decide)) (by decide)) (by decide)) (by decide)) (by decide)) dX11_init_175 g_aI rfl (by decide) (by omega) (by omega) (fun n_175 z_175 y_175 => ?_)
  replace hx := uk_k (k := (20, 10, 28)) y_175 hx (Nat.succ_ne_zero _)
  have h_175 : q_uk (q_uk (q_uk (q_uk (q_uk (q_uk (q_uk (q_uk (q_uk (q_uk (q_uk (q_uk (q_uk (q_uk (q_uk (q_uk (q_uk (q_uk (q_uk (q_uk (q_uk (q_uk (q_uk K x (12, 0, 450)) n_7 (20, 48, 2)) n_15 (21, 48, 3)) n_23 (20, 48, 4)) n_31 (20, 48, 5)) n_39 (20, 48, 6)) n_47 (20, 48, 7)) n_55 (20, 48, 8)) n_62 (20, 3, 11)) n_69 (20, 3, 12)) n_78 (20, 4000, 14)) n_87 (20, 4000, 15)) n_95 (20, 120, 17)) n_103 (20, 120, 18)) n_111 (20, 120, 19)) n_119 (20, 120, 20)) n_127 (21, 120, 21)) n_135 (20, 120, 22)) n_143 (20, 16, 23)) n_151 (20, 16, 24)) n_159 (20, 12, 25)) n_167 (20, 12, 26)) n_175 (20, 10, 28) n_175 = (20, 10, 28) := uk_p
  rw [zt_0]
  refine c_putRf 1 (by decide) dX11_init_177 f_X11_74 (Or.inr ⟨rfl, _, _, rfl⟩) hx (by decide) h_175 (Nat.succ_ne_zero _) rfl (Or.inl (by decide)) ?_
  refine e_aload_n dX11_init_180 rfl ?_
  refine e_bipush dX11_init_181 (by decide) ?_
  refine m_newI (t := 29) (n := 10) (c2 := 7) (s2 := 81522) (by decide) (fre_uk (fre_uk (fre_uk (fre_uk (fre_uk (fre_uk (fre_uk (fre_uk (fre_uk (fre_uk (fre_uk (fre_uk (fre_uk (fre_uk (fre_uk (fre_uk (fre_uk (fre_uk (fre_uk (fre_uk (fre_uk (fre_uk (fre_uk (hf 29 (by decide)) (by decide)) (by decide)) (by decide)) (by decide)) (by decide)) (by decide)) (by decide)) (by decide)) (by decide)) (by decide)) (by decide)) (by decide)) (by decide)) (by decide)) (by decide)) (by decide)) (by decide)) (by decide)) (by decide)) (by decide)) (by decide)) (by decide)) (by decide)) dX11_init_183 g_aI rfl (by decide) (by omega) (by omega) (fun n_183 z_183 y_183 => ?_)
  replace hx := uk_k (k := (20, 10, 29)) y_183 hx (Nat.succ_ne_zero _)
  have h_183 : q_uk (q_uk (q_uk (q_uk (q_uk (q_uk (q_uk (q_uk (q_uk (q_uk (q_uk (q_uk (q_uk (q_uk (q_uk (q_uk (q_uk (q_uk (q_uk (q_uk (q_uk (q_uk (q_uk (q_uk K x (12, 0, 450)) n_7 (20, 48, 2)) n_15 (21, 48, 3)) n_23 (20, 48, 4)) n_31 (20, 48, 5)) n_39 (20, 48, 6)) n_47 (20, 48, 7)) n_55 (20, 48, 8)) n_62 (20, 3, 11)) n_69 (20, 3, 12)) n_78 (20, 4000, 14)) n_87 (20, 4000, 15)) n_95 (20, 120, 17)) n_103 (20, 120, 18)) n_111 (20, 120, 19)) n_119 (20, 120, 20)) n_127 (21, 120, 21)) n_135 (20, 120, 22)) n_143 (20, 16, 23)) n_151 (20, 16, 24)) n_159 (20, 12, 25)) n_167 (20, 12, 26)) n_175 (20, 10, 28)) n_183 (20, 10, 29) n_183 = (20, 10, 29) := uk_p
  rw [zt_0]
  refine c_putRf 1 (by decide) dX11_init_185 f_X11_77 (Or.inr ⟨rfl, _, _, rfl⟩) hx (by decide) h_183 (Nat.succ_ne_zero _) rfl (Or.inl (by decide)) ?_
  refine e_aload_n dX11_init_188 rfl ?_
  refine e_bipush dX11_init_189 (by decide) ?_
  refine m_newI (t := 30) (n := 10) (c2 := 6) (s2 := 81512) (by decide) (fre_uk (fre_uk (fre_uk (fre_uk (fre_uk (fre_uk (fre_uk (fre_uk (fre_uk (fre_uk (fre_uk (fre_uk (fre_uk (fre_uk (fre_uk (fre_uk (fre_uk (fre_uk (fre_uk (fre_uk (fre_uk (fre_uk (fre_uk (fre_uk (hf 30 (by decide)) (by decide)) (by decide)) (by decide)) (by decide)) (by decide)) (by decide)) (by decide)) (by decide)) (by decide)) (by decide)) (by decide)) (by decide)) (by decide)) (by decide)) (by decide)) (by decide)) (by decide)) (by decide)) (by decide)) (by decide)) (by decide)) (by decide)) (by decide)) (by decide)) dX11_init_191 g_aI rfl (by decide) (by omega) (by omega) (fun n_191 z_191 y_191 => ?_)
  replace hx := uk_k (k := (20, 10, 30)) y_191 hx (Nat.succ_ne_zero _)
  have h_191 : q_uk (q_uk (q_uk (q_uk (q_uk (q_uk (q_uk (q_uk (q_uk (q_uk (q_uk (q_uk (q_uk (q_uk (q_uk (q_uk (q_uk (q_uk (q_uk (q_uk (q_uk (q_uk (q_uk (q_uk (q_uk K x (12, 0, 450)) n_7 (20, 48, 2)) n_15 (21, 48, 3)) n_23 (20, 48, 4)) n_31 (20, 48, 5)) n_39 (20, 48, 6)) n_47 (20, 48, 7)) n_55 (20, 48, 8)) n_62 (20, 3, 11)) n_69 (20, 3, 12)) n_78 (20, 4000, 14)) n_87 (20, 4000, 15)) n_95 (20, 120, 17)) n_103 (20, 120, 18)) n_111 (20, 120, 19)) n_119 (20, 120, 20)) n_127 (21, 120, 21)) n_135 (20, 120, 22)) n_143 (20, 16, 23)) n_151 (20, 16, 24)) n_159 (20, 12, 25)) n_167 (20, 12, 26)) n_175 (20, 10, 28)) n_183 (20, 10, 29)) n_191 (20, 10, 30) n_191 = (20, 10, 30) := uk_p
  rw [zt_0]
  refine c_putRf 1 (by decide) dX11_init_193 f_X11_80 (Or.inr ⟨rfl, _, _, rfl⟩) hx (by decide) h_191 (Nat.succ_ne_zero _) rfl (Or.inl (by decide)) ?_
  refine e_aload_n dX11_init_196 rfl ?_
  refine e_sipush dX11_init_197 (by decide) ?_
  refine m_newI (t := 31) (n := 20000) (c2 := 5) (s2 := 61512) (by decide) (fre_uk (fre_uk (fre_uk (fre_uk (fre_uk (fre_uk (fre_uk (fre_uk (fre_uk (fre_uk (fre_uk (fre_uk (fre_uk (fre_uk (fre_uk (fre_uk (fre_uk (fre_uk (fre_uk (fre_uk (fre_uk (fre_uk (fre_uk (fre_uk (fre_uk (hf 31 (by decide)) (by decide)) (by decide)) (by decide)) (by decide)) (by decide)) (by decide)) (by decide)) (by decide)) (by decide)) (by decide)) (by decide)) (by decide)) (by decide)) (by decide)) (by decide)) (by decide)) (by decide)) (by decide)) (by decide)) (by decide)) (by decide)) (by decide)) (by decide)) (by decide)) (by decide)) dX11_init_200 g_aI rfl (by decide) (by omega) (by omega) (fun n_200 z_200 y_200 => ?_)
  replace hx := uk_k (k := (20, 20000, 31)) y_200 hx (Nat.succ_ne_zero _)
  have h_200 : q_uk (q_uk (q_uk (q_uk (q_uk (q_uk (q_uk (q_uk (q_uk (q_uk (q_uk (q_uk (q_uk (q_uk (q_uk (q_uk (q_uk (q_uk (q_uk (q_uk (q_uk (q_uk (q_uk (q_uk (q_uk (q_uk K x (12, 0, 450)) n_7 (20, 48, 2)) n_15 (21, 48, 3)) n_23 (20, 48, 4)) n_31 (20, 48, 5)) n_39 (20, 48, 6)) n_47 (20, 48, 7)) n_55 (20, 48, 8)) n_62 (20, 3, 11)) n_69 (20, 3, 12)) n_78 (20, 4000, 14)) n_87 (20, 4000, 15)) n_95 (20, 120, 17)) n_103 (20, 120, 18)) n_111 (20, 120, 19)) n_119 (20, 120, 20)) n_127 (21, 120, 21)) n_135 (20, 120, 22)) n_143 (20, 16, 23)) n_151 (20, 16, 24)) n_159 (20, 12, 25)) n_167 (20, 12, 26)) n_175 (20, 10, 28)) n_183 (20, 10, 29)) n_191 (20, 10, 30)) n_200 (20, 20000, 31) n_200 = (20, 20000, 31) := uk_p
  rw [zt_0]
  refine c_putRf 1 (by decide) dX11_init_202 f_X11_83 (Or.inr ⟨rfl, _, _, rfl⟩) hx (by decide) h_200 (Nat.succ_ne_zero _) rfl (Or.inl (by decide)) ?_
  refine e_aload_n dX11_init_205 rfl ?_
  refine e_sipush dX11_init_206 (by decide) ?_
  refine m_newI (t := 32) (n := 20000) (c2 := 4) (s2 := 41512) (by decide) (fre_uk (fre_uk (fre_uk (fre_uk (fre_uk (fre_uk (fre_uk (fre_uk (fre_uk (fre_uk (fre_uk (fre_uk (fre_uk (fre_uk (fre_uk (fre_uk (fre_uk (fre_uk (fre_uk (fre_uk (fre_uk (fre_uk (fre_uk (fre_uk (fre_uk (fre_uk (hf 32 (by decide)) (by decide)) (by decide)) (by decide)) (by decide)) (by decide)) (by decide)) (by decide)) (by decide)) (by decide)) (by decide)) (by decide)) (by decide)) (by decide)) (by decide)) (by decide)) (by decide)) (by decide)) (by decide)) (by decide)) (by decide)) (by decide)) (by decide)) (by decide)) (by decide)) (by decide)) (by decide)) dX11_init_209 g_aI rfl (by decide) (by omega) (by omega) (fun n_209 z_209 y_209 => ?_)
  replace hx := uk_k (k := (20, 20000, 32)) y_209 hx (Nat.succ_ne_zero _)
  have h_209 : q_uk (q_uk (q_uk (q_uk (q_uk (q_uk (q_uk (q_uk (q_uk (q_uk (q_uk (q_uk (q_uk (q_uk (q_uk (q_uk (q_uk (q_uk (q_uk (q_uk (q_uk (q_uk (q_uk (q_uk (q_uk (q_uk (q_uk K x (12, 0, 450)) n_7 (20, 48, 2)) n_15 (21, 48, 3)) n_23 (20, 48, 4)) n_31 (20, 48, 5)) n_39 (20, 48, 6)) n_47 (20, 48, 7)) n_55 (20, 48, 8)) n_62 (20, 3, 11)) n_69 (20, 3, 12)) n_78 (20, 4000, 14)) n_87 (20, 4000, 15)) n_95 (20, 120, 17)) n_103 (20, 120, 18)) n_111 (20, 120, 19)) n_119 (20, 120, 20)) n_127 (21, 120, 21)) n_135 (20, 120, 22)) n_143 (20, 16, 23)) n_151 (20, 16, 24)) n_159 (20, 12, 25)) n_167 (20, 12, 26)) n_175 (20, 10, 28)) n_183 (20, 10, 29)) n_191 (20, 10, 30)) n_200 (20, 20000, 31)) n_209 (20, 20000, 32) n_209 = (20, 20000, 32) := uk_p
  rw [zt_0]
  refine c_putRf 1 (by decide) dX11_init_211 f_X11_86 (Or.inr ⟨rfl, _, _, rfl⟩) hx (by decide) h_209 (Nat.succ_ne_zero _) rfl (Or.inl (by decide)) ?_
  refine e_aload_n dX11_init_214 rfl ?_
  refine e_sipush dX11_init_215 (by decide) ?_
  refine m_newI (t := 33) (n := 20000) (c2 := 3) (s2 := 21512) (by decide) (fre_uk (fre_uk (fre_uk (fre_uk (fre_uk (fre_uk (fre_uk (fre_uk (fre_uk (fre_uk (fre_uk (fre_uk (fre_uk (fre_uk (fre_uk (fre_uk (fre_uk (fre_uk (fre_uk (fre_uk (fre_uk (fre_uk (fre_uk (fre_uk (fre_uk (fre_uk (fre_uk (hf 33 (by decide)) (by decide)) (by decide)) (by decide)) (by decide)) (by decide)) (by decide)) (by decide)) (by decide)) (by decide)) (by decide)) (by decide)) (by decide)) (by decide)) (by decide)) (by decide)) (by decide)) (by decide)) (by decide)) (by decide)) (by decide)) (by decide)) (by decide)) (by decide)) (by decide)) (by decide)) (by decide)) (by decide)) dX11_init_218 g_aI rfl (by decide) (by omega) (by omega) (fun n_218 z_218 y_218 => ?_)
  replace hx := uk_k (k := (20, 20000, 33)) y_218 hx (Nat.succ_ne_zero _)
  have h_218 : q_uk (q_uk (q_uk (q_uk (q_uk (q_uk (q_uk (q_uk (q_uk (q_uk (q_uk (q_uk (q_uk (q_uk (q_uk (q_uk (q_uk (q_uk (q_uk (q_uk (q_uk (q_uk (q_uk (q_uk (q_uk (q_uk (q_uk (q_uk K x (12, 0, 450)) n_7 (20, 48, 2)) n_15 (21, 48, 3)) n_23 (20, 48, 4)) n_31 (20, 48, 5)) n_39 (20, 48, 6)) n_47 (20, 48, 7)) n_55 (20, 48, 8)) n_62 (20, 3, 11)) n_69 (20, 3, 12)) n_78 (20, 4000, 14)) n_87 (20, 4000, 15)) n_95 (20, 120, 17)) n_103 (20, 120, 18)) n_111 (20, 120, 19)) n_119 (20, 120, 20)) n_127 (21, 120, 21)) n_135 (20, 120, 22)) n_143 (20, 16, 23)) n_151 (20, 16, 24)) n_159 (20, 12, 25)) n_167 (20, 12, 26)) n_175 (20, 10, 28)) n_183 (20, 10, 29)) n_191 (20, 10, 30)) n_200 (20, 20000, 31)) n_209 (20, 20000, 32)) n_218 (20, 20000, 33) n_218 = (20, 20000, 33) := uk_p
  rw [zt_0]
  refine c_putRf 1 (by decide) dX11_init_220 f_X11_89 (Or.inr ⟨rfl, _, _, rfl⟩) hx (by decide) h_218 (Nat.succ_ne_zero _) rfl (Or.inl (by decide)) ?_
  refine e_aload_n dX11_init_223 rfl ?_
  refine e_sipush dX11_init_224 (by decide) ?_
  refine m_newI (t := 35) (n := 1500) (c2 := 2) (s2 := 20012) (by decide) (fre_uk (fre_uk (fre_uk (fre_uk (fre_uk (fre_uk (fre_uk (fre_uk (fre_uk (fre_uk (fre_uk (fre_uk (fre_uk (fre_uk (fre_uk (fre_uk (fre_uk (fre_uk (fre_uk (fre_uk (fre_uk (fre_uk (fre_uk (fre_uk (fre_uk (fre_uk (fre_uk (fre_uk (hf 35 (by decide)) (by decide)) (by decide)) (by decide)) (by decide)) (by decide)) (by decide)) (by decide)) (by decide)) (by decide)) (by decide)) (by decide)) (by decide)) (by decide)) (by decide)) (by decide)) (by decide)) (by decide)) (by decide)) (by decide)) (by decide)) (by decide)) (by decide)) (by decide)) (by decide)) (by decide)) (by decide)) (by decide)) (by decide)) dX11_init_227 g_aI rfl (by decide) (by omega) (by omega) (fun n_227 z_227 y_227 => ?_)
  replace hx := uk_k (k := (20, 1500, 35)) y_227 hx (Nat.succ_ne_zero _)
  have h_227 : q_uk (q_uk (q_uk (q_uk (q_uk (q_uk (q_uk (q_uk (q_uk (q_uk (q_uk (q_uk (q_uk (q_uk (q_uk (q_uk (q_uk (q_uk (q_uk (q_uk (q_uk (q_uk (q_uk (q_uk (q_uk (q_uk (q_uk (q_uk (q_uk K x (12, 0, 450)) n_7 (20, 48, 2)) n_15 (21, 48, 3)) n_23 (20, 48, 4)) n_31 (20, 48, 5)) n_39 (20, 48, 6)) n_47 (20, 48, 7)) n_55 (20, 48, 8)) n_62 (20, 3, 11)) n_69 (20, 3, 12)) n_78 (20, 4000, 14)) n_87 (20, 4000, 15)) n_95 (20, 120, 17)) n_103 (20, 120, 18)) n_111 (20, 120, 19)) n_119 (20, 120, 20)) n_127 (21, 120, 21)) n_135 (20, 120, 22)) n_143 (20, 16, 23)) n_151 (20, 16, 24)) n_159 (20, 12, 25)) n_167 (20, 12, 26)) n_175 (20, 10, 28)) n_183 (20, 10, 29)) n_191 (20, 10, 30)) n_200 (20, 20000, 31)) n_209 (20, 20000, 32)) n_218 (20, 20000, 33)) n_227 (20, 1500, 35) n_227 = (20, 1500, 35) := uk_p
  rw [zt_0]
  refine c_putRf 1 (by decide) dX11_init_229 f_X11_92 (Or.inr ⟨rfl, _, _, rfl⟩) hx (by decide) h_227 (Nat.succ_ne_zero _) rfl (Or.inl (by decide)) ?_
  refine e_aload_n dX11_init_232 rfl ?_
  refine e_bipush dX11_init_233 (by decide) ?_
  refine m_newI (t := 40) (n := 12) (c2 := 1) (s2 := 20000) (by decide) (fre_uk (fre_uk (fre_uk (fre_uk (fre_uk (fre_uk (fre_uk (fre_uk (fre_uk (fre_uk (fre_uk (fre_uk (fre_uk (fre_uk (fre_uk (fre_uk (fre_uk (fre_uk (fre_uk (fre_uk (fre_uk (fre_uk (fre_uk (fre_uk (fre_uk (fre_uk (fre_uk (fre_uk (fre_uk (hf 40 (by decide)) (by decide)) (by decide)) (by decide)) (by decide)) (by decide)) (by decide)) (by decide)) (by decide)) (by decide)) (by decide)) (by decide)) (by decide)) (by decide)) (by decide)) (by decide)) (by decide)) (by decide)) (by decide)) (by decide)) (by decide)) (by decide)) (by decide)) (by decide)) (by decide)) (by decide)) (by decide)) (by decide)) (by decide)) (by decide)) dX11_init_235 g_aI rfl (by decide) (by omega) (by omega) (fun n_235 z_235 y_235 => ?_)
  replace hx := uk_k (k := (20, 12, 40)) y_235 hx (Nat.succ_ne_zero _)
  have h_235 : q_uk (q_uk (q_uk (q_uk (q_uk (q_uk (q_uk (q_uk (q_uk (q_uk (q_uk (q_uk (q_uk (q_uk (q_uk (q_uk (q_uk (q_uk (q_uk (q_uk (q_uk (q_uk (q_uk (q_uk (q_uk (q_uk (q_uk (q_uk (q_uk (q_uk K x (12, 0, 450)) n_7 (20, 48, 2)) n_15 (21, 48, 3)) n_23 (20, 48, 4)) n_31 (20, 48, 5)) n_39 (20, 48, 6)) n_47 (20, 48, 7)) n_55 (20, 48, 8)) n_62 (20, 3, 11)) n_69 (20, 3, 12)) n_78 (20, 4000, 14)) n_87 (20, 4000, 15)) n_95 (20, 120, 17)) n_103 (20, 120, 18)) n_111 (20, 120, 19)) n_119 (20, 120, 20)) n_127 (21, 120, 21)) n_135 (20, 120, 22)) n_143 (20, 16, 23)) n_151 (20, 16, 24)) n_159 (20, 12, 25)) n_167 (20, 12, 26)) n_175 (20, 10, 28)) n_183 (20, 10, 29)) n_191 (20, 10, 30)) n_200 (20, 20000, 31)) n_209 (20, 20000, 32)) n_218 (20, 20000, 33)) n_227 (20, 1500, 35)) n_235 (20, 12, 40) n_235 = (20, 12, 40) := uk_p
  rw [zt_0]
  refine c_putRf 1 (by decide) dX11_init_237 f_X11_95 (Or.inr ⟨rfl, _, _, rfl⟩) hx (by decide) h_235 (Nat.succ_ne_zero _) rfl (Or.inl (by decide)) ?_
  refine e_aload_n dX11_init_240 rfl ?_
  refine e_sipush dX11_init_241 (by decide) ?_
  refine m_newI (t := 42) (n := 20000) (c2 := 0) (s2 := 0) (by decide) (fre_uk (fre_uk (fre_uk (fre_uk (fre_uk (fre_uk (fre_uk (fre_uk (fre_uk (fre_uk (fre_uk (fre_uk (fre_uk (fre_uk (fre_uk (fre_uk (fre_uk (fre_uk (fre_uk (fre_uk (fre_uk (fre_uk (fre_uk (fre_uk (fre_uk (fre_uk (fre_uk (fre_uk (fre_uk (fre_uk (hf 42 (by decide)) (by decide)) (by decide)) (by decide)) (by decide)) (by decide)) (by decide)) (by decide)) (by decide)) (by decide)) (by decide)) (by decide)) (by decide)) (by decide)) (by decide)) (by decide)) (by decide)) (by decide)) (by decide)) (by decide)) (by decide)) (by decide)) (by decide)) (by decide)) (by decide)) (by decide)) (by decide)) (by decide)) (by decide)) (by decide)) (by decide)) dX11_init_244 g_aI rfl (by decide) (by omega) (by omega) (fun n_244 z_244 y_244 => ?_)
  replace hx := uk_k (k := (20, 20000, 42)) y_244 hx (Nat.succ_ne_zero _)
  have h_244 : q_uk (q_uk (q_uk (q_uk (q_uk (q_uk (q_uk (q_uk (q_uk (q_uk (q_uk (q_uk (q_uk (q_uk (q_uk (q_uk (q_uk (q_uk (q_uk (q_uk (q_uk (q_uk (q_uk (q_uk (q_uk (q_uk (q_uk (q_uk (q_uk (q_uk (q_uk K x (12, 0, 450)) n_7 (20, 48, 2)) n_15 (21, 48, 3)) n_23 (20, 48, 4)) n_31 (20, 48, 5)) n_39 (20, 48, 6)) n_47 (20, 48, 7)) n_55 (20, 48, 8)) n_62 (20, 3, 11)) n_69 (20, 3, 12)) n_78 (20, 4000, 14)) n_87 (20, 4000, 15)) n_95 (20, 120, 17)) n_103 (20, 120, 18)) n_111 (20, 120, 19)) n_119 (20, 120, 20)) n_127 (21, 120, 21)) n_135 (20, 120, 22)) n_143 (20, 16, 23)) n_151 (20, 16, 24)) n_159 (20, 12, 25)) n_167 (20, 12, 26)) n_175 (20, 10, 28)) n_183 (20, 10, 29)) n_191 (20, 10, 30)) n_200 (20, 20000, 31)) n_209 (20, 20000, 32)) n_218 (20, 20000, 33)) n_227 (20, 1500, 35)) n_235 (20, 12, 40)) n_244 (20, 20000, 42) n_244 = (20, 20000, 42) := uk_p
  rw [zt_0]
  refine c_putRf 1 (by decide) dX11_init_246 f_X11_98 (Or.inr ⟨rfl, _, _, rfl⟩) hx (by decide) h_244 (Nat.succ_ne_zero _) rfl (Or.inl (by decide)) ?_
  refine e_iconst dX11_init_249 ?_
  refine e_istore_n (ls2 := [_, _]) dX11_init_250 (Nat.le_of_ble_eq_true rfl) rfl ?_
  have gall : ∀ j : Int, (q_us (q_us (q_us (q_us (q_us (q_us (q_us (q_us (q_us (q_us (q_us (q_us (q_us (q_us (q_us (q_us (q_us (q_us (q_us (q_us (q_us (q_us (q_us (q_us (q_us (q_us (q_us (q_us (q_us (q_us C 450 2 1) 450 3 1) 450 4 1) 450 5 1) 450 6 1) 450 7 1) 450 8 1) 450 11 1) 450 12 1) 450 14 1) 450 15 1) 450 17 1) 450 18 1) 450 19 1) 450 20 1) 450 21 1) 450 22 1) 450 23 1) 450 24 1) 450 25 1) 450 26 1) 450 28 1) 450 29 1) 450 30 1) 450 31 1) 450 32 1) 450 33 1) 450 35 1) 450 40 1) 450 42 1) 450 j = refI j := fun j => by
    simp only [q_us_ap, true_and, h450]; rfl
  have H3 : q_E mX11_init 300 [some (q_R x), some (q_I 3)] [] (q_uk (q_uk (q_uk (q_uk (q_uk (q_uk (q_uk (q_uk (q_uk (q_uk (q_uk (q_uk (q_uk (q_uk (q_uk (q_uk (q_uk (q_uk (q_uk (q_uk (q_uk (q_uk (q_uk (q_uk (q_uk (q_uk (q_uk (q_uk (q_uk (q_uk (q_uk K x (12, 0, 450)) n_7 (20, 48, 2)) n_15 (21, 48, 3)) n_23 (20, 48, 4)) n_31 (20, 48, 5)) n_39 (20, 48, 6)) n_47 (20, 48, 7)) n_55 (20, 48, 8)) n_62 (20, 3, 11)) n_69 (20, 3, 12)) n_78 (20, 4000, 14)) n_87 (20, 4000, 15)) n_95 (20, 120, 17)) n_103 (20, 120, 18)) n_111 (20, 120, 19)) n_119 (20, 120, 20)) n_127 (21, 120, 21)) n_135 (20, 120, 22)) n_143 (20, 16, 23)) n_151 (20, 16, 24)) n_159 (20, 12, 25)) n_167 (20, 12, 26)) n_175 (20, 10, 28)) n_183 (20, 10, 29)) n_191 (20, 10, 30)) n_200 (20, 20000, 31)) n_209 (20, 20000, 32)) n_218 (20, 20000, 33)) n_227 (20, 1500, 35)) n_235 (20, 12, 40)) n_244 (20, 20000, 42)) (m00 12 3) (q_us (q_us (q_us (q_us (q_us (q_us (q_us (q_us (q_us (q_us (q_us (q_us (q_us (q_us (q_us (q_us (q_us (q_us (q_us (q_us (q_us (q_us (q_us (q_us (q_us (q_us (q_us (q_us (q_us (q_us C 450 2 1) 450 3 1) 450 4 1) 450 5 1) 450 6 1) 450 7 1) 450 8 1) 450 11 1) 450 12 1) 450 14 1) 450 15 1) 450 17 1) 450 18 1) 450 19 1) 450 20 1) 450 21 1) 450 22 1) 450 23 1) 450 24 1) 450 25 1) 450 26 1) 450 28 1) 450 29 1) 450 30 1) 450 31 1) 450 32 1) 450 33 1) 450 35 1) 450 40 1) 450 42 1) 0 0 (fun o K2 M2 C2 => o = Sum.inl none ∧ M2 = m0 ∧ q_nx K K2 (fun t => t < 100) ∧ K2 x = (12, 0, 50) ∧ ∀ t j : Int, t ≠ 450 → C2 t j = C t j) := by
    refine e_fin (M2 := m0) (C2 := (q_us (q_us (q_us (q_us (q_us (q_us (q_us (q_us (q_us (q_us (q_us (q_us (q_us (q_us (q_us (q_us (q_us (q_us (q_us (q_us (q_us (q_us (q_us (q_us (q_us (q_us (q_us (q_us (q_us (q_us C 450 2 1) 450 3 1) 450 4 1) 450 5 1) 450 6 1) 450 7 1) 450 8 1) 450 11 1) 450 12 1) 450 14 1) 450 15 1) 450 17 1) 450 18 1) 450 19 1) 450 20 1) 450 21 1) 450 22 1) 450 23 1) 450 24 1) 450 25 1) 450 26 1) 450 28 1) 450 29 1) 450 30 1) 450 31 1) 450 32 1) 450 33 1) 450 35 1) 450 40 1) 450 42 1)) (q := x) (k := 12) (n := 0) (t := 450) (t2 := 50) hx (by decide) ⟨by decide, by decide⟩ (by decide) (Or.inr (fre_uk (fre_uk (fre_uk (fre_uk (fre_uk (fre_uk (fre_uk (fre_uk (fre_uk (fre_uk (fre_uk (fre_uk (fre_uk (fre_uk (fre_uk (fre_uk (fre_uk (fre_uk (fre_uk (fre_uk (fre_uk (fre_uk (fre_uk (fre_uk (fre_uk (fre_uk (fre_uk (fre_uk (fre_uk (fre_uk (fre_uk (hf 50 (by decide)) (by decide)) (by decide)) (by decide)) (by decide)) (by decide)) (by decide)) (by decide)) (by decide)) (by decide)) (by decide)) (by decide)) (by decide)) (by decide)) (by decide)) (by decide)) (by decide)) (by decide)) (by decide)) (by decide)) (by decide)) (by decide)) (by decide)) (by decide)) (by decide)) (by decide)) (by decide)) (by decide)) (by decide)) (by decide)) (by decide)) (by decide))) (fun t j a b d => ?_) (fun j a => ?_) (fun a => absurd a (by decide)) (fun j hj => ?_) ?_
    · unfold mg
      split
      · exact if_neg d
      · rfl
    · rw [mg_m (by decide), mg_c (by decide), gall]; exact if_pos rfl
    · rcases isr_11 hj with rfl | rfl | rfl | rfl | rfl | rfl | rfl | rfl | rfl | rfl | rfl | rfl | rfl | rfl | rfl | rfl | rfl | rfl | rfl | rfl | rfl | rfl | rfl | rfl | rfl | rfl | rfl | rfl | rfl | rfl <;> (rw [mg_c (by decide), gall]; exact ⟨by decide, rfl, by decide⟩)
    · exact e_ret dX11_init_300 rfl ⟨rfl, rfl, nz_E (nz_1 (nz_1 (nz_1 (nz_1 (nz_1 (nz_1 (nz_1 (nz_1 (nz_1 (nz_1 (nz_1 (nz_1 (nz_1 (nz_1 (nz_1 (nz_1 (nz_1 (nz_1 (nz_1 (nz_1 (nz_1 (nz_1 (nz_1 (nz_1 (nz_1 (nz_1 (nz_1 (nz_1 (nz_1 (nz_1 (nz_0 y0) y_7 (by decide)) y_15 (by decide)) y_23 (by decide)) y_31 (by decide)) y_39 (by decide)) y_47 (by decide)) y_55 (by decide)) y_62 (by decide)) y_69 (by decide)) y_78 (by decide)) y_87 (by decide)) y_95 (by decide)) y_103 (by decide)) y_111 (by decide)) y_119 (by decide)) y_127 (by decide)) y_135 (by decide)) y_143 (by decide)) y_151 (by decide)) y_159 (by decide)) y_167 (by decide)) y_175 (by decide)) y_183 (by decide)) y_191 (by decide)) y_200 (by decide)) y_209 (by decide)) y_218 (by decide)) y_227 (by decide)) y_235 (by decide)) y_244 (by decide)) y0 (by decide), uk_p, fun t j g => by simp only [q_us_ap, g, false_and, if_false]⟩
  have H1 : q_E mX11_init 279 [some (q_R x), some (q_I 12)] [] (q_uk (q_uk (q_uk (q_uk (q_uk (q_uk (q_uk (q_uk (q_uk (q_uk (q_uk (q_uk (q_uk (q_uk (q_uk (q_uk (q_uk (q_uk (q_uk (q_uk (q_uk (q_uk (q_uk (q_uk (q_uk (q_uk (q_uk (q_uk (q_uk (q_uk (q_uk K x (12, 0, 450)) n_7 (20, 48, 2)) n_15 (21, 48, 3)) n_23 (20, 48, 4)) n_31 (20, 48, 5)) n_39 (20, 48, 6)) n_47 (20, 48, 7)) n_55 (20, 48, 8)) n_62 (20, 3, 11)) n_69 (20, 3, 12)) n_78 (20, 4000, 14)) n_87 (20, 4000, 15)) n_95 (20, 120, 17)) n_103 (20, 120, 18)) n_111 (20, 120, 19)) n_119 (20, 120, 20)) n_127 (21, 120, 21)) n_135 (20, 120, 22)) n_143 (20, 16, 23)) n_151 (20, 16, 24)) n_159 (20, 12, 25)) n_167 (20, 12, 26)) n_175 (20, 10, 28)) n_183 (20, 10, 29)) n_191 (20, 10, 30)) n_200 (20, 20000, 31)) n_209 (20, 20000, 32)) n_218 (20, 20000, 33)) n_227 (20, 1500, 35)) n_235 (20, 12, 40)) n_244 (20, 20000, 42)) (m00 12 0) (q_us (q_us (q_us (q_us (q_us (q_us (q_us (q_us (q_us (q_us (q_us (q_us (q_us (q_us (q_us (q_us (q_us (q_us (q_us (q_us (q_us (q_us (q_us (q_us (q_us (q_us (q_us (q_us (q_us (q_us C 450 2 1) 450 3 1) 450 4 1) 450 5 1) 450 6 1) 450 7 1) 450 8 1) 450 11 1) 450 12 1) 450 14 1) 450 15 1) 450 17 1) 450 18 1) 450 19 1) 450 20 1) 450 21 1) 450 22 1) 450 23 1) 450 24 1) 450 25 1) 450 26 1) 450 28 1) 450 29 1) 450 30 1) 450 31 1) 450 32 1) 450 33 1) 450 35 1) 450 40 1) 450 42 1) 0 0 (fun o K2 M2 C2 => o = Sum.inl none ∧ M2 = m0 ∧ q_nx K K2 (fun t => t < 100) ∧ K2 x = (12, 0, 50) ∧ ∀ t j : Int, t ≠ 450 → C2 t j = C t j) := by
    refine e_iconst dX11_init_279 ?_
    refine e_istore_n (ls2 := [_, _]) dX11_init_280 (Nat.le_of_ble_eq_true rfl) rfl ?_
    exact m_i2 hx (by rw [gall]; rfl) H3 3 0 (by omega)
  have l1 := m_i1 hx (by rw [gall]; rfl) (by rw [gall]; rfl) H1 12 0 (by omega)
  rw [m00_0] at l1
  exact l1
