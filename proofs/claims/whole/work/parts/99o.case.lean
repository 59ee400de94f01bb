set_option maxRecDepth 20000 in
set_option maxHeartbeats 4000000 in
theorem lc_draft {l : Launch} {D : va_G} {B sb n : Nat} {Z : Int → Int} {K : q_K} {M C : q_S} {x m o : Nat} {i k : Int} {u5 u6 : Option q_V} {c s : Nat} (hn : n ≤ 2560) (hi : 0 ≤ i ∧ i + 5 ≤ (n : Int)) (hk : 0 ≤ k ∧ k < 512) (h0 : q_LI K M C x m o k) (hc : 16 ≤ c) (hs : 96 ≤ s)
    (kk : ∀ K2 M2 C2 w5 w6, q_LI K2 M2 C2 x m o (k + 1) → q_F l D B sb n Z 2480 [some (q_R 0), some (q_R x), some (q_R m), some (q_R o), some (q_I i), w5, w6] [] K2 M2 C2 (c - 16) (s - 96)) : q_F l D B sb n Z 208 [some (q_R 0), some (q_R x), some (q_R m), some (q_R o), some (q_I i), u5, u6] [] K M C c s := by
  obtain ⟨hx, hm, ho, hB, hR, h⟩ := h0
  have nb := nb_10 h.1.2.2.2.2 hk.2
  refine lz_aload_n dL_law_208 rfl ?_
  refine lz_aload_n dL_law_209 rfl ?_
  refine lz_iload dL_law_210 rfl ?_
  refine lz_iconst dL_law_212 ?_
  refine lz_iadd dL_law_213 ?_
  refine lz_sald dL_law_214 hn (by omega) (by omega) (fun hp1_214 => ?_)
  refine lz_aload_n dL_law_215 rfl ?_
  have oc := okc_draft h hk (Z (i + 1))
  refine lz_callS (as := [q_R x, q_I (Z (i + 1)), q_R o]) (rest := []) (c1 := 16) (s1 := 96) (c2 := c - 16) (s2 := s - 96) dL_law_216 k_L_draft l_L_124 s_L_draft rfl rfl rfl rfl (Nat.le_of_ble_eq_true rfl) ⟨by decide, by decide⟩ (by omega) (by omega) (Nat.le_of_ble_eq_true rfl) (by decide) (w_draft hx ho hR h hk hB (c := 16) (s := 96) (by omega) (by omega) hp1_214) (fun ov K2 M2 C2 g => ?_) (fun E K2 M2 C2 g => by obtain ⟨-, -, -, g5, -⟩ := g; cases g5)
  obtain ⟨⟨g1, g2⟩, g3, g4, g5, g6⟩ := g
  obtain rfl := Sum.inl.inj g5
  rw [g3]
  have hx2 := xt_get g1 hx (by decide)
  have hm2 := xt_get g1 hm (by decide)
  have ho2 := xt_get g1 ho (by decide)
  refine lz_istore (ls2 := [some (q_R 0), some (q_R x), some (q_R m), some (q_R o), some (q_I i), some (q_I ((draftF M (Z (i + 1))).2 50 41)), u6]) dL_law_219 (by decide) rfl ?_
  refine lz_aload_n dL_law_221 rfl ?_
  refine lz_aload_n dL_law_222 rfl ?_
  refine lz_iload dL_law_223 rfl ?_
  refine lz_iconst dL_law_225 ?_
  refine lz_iadd dL_law_226 ?_
  refine lz_sald dL_law_227 hn (by omega) (by omega) (fun hp1_227 => ?_)
  refine lz_cV (as := [q_I (Z (i + 1))]) (rest := []) dL_law_228 k_X11_draft l_L_129 i_X11_draft v_X11_draft hm2 rfl (by decide) ⟨_, _, rfl⟩ rfl rfl rfl (Nat.le_of_ble_eq_true rfl) ⟨by decide, by decide⟩ (Nat.le_of_ble_eq_true rfl) (by decide) (m_draft hm2 h.1.1  hp1_227 ) ?_
  refine lz_istore (ls2 := [some (q_R 0), some (q_R x), some (q_R m), some (q_R o), some (q_I i), some (q_I ((draftF M (Z (i + 1))).2 50 41)), some (q_I (draftF M (Z (i + 1))).1)]) dL_law_231 (by decide) rfl ?_
  refine lz_aload_n dL_law_233 rfl ?_
  refine lz_cV (as := []) (rest := []) dL_law_234 k_X11_thrown l_L_130 i_X11_thrown v_X11_thrown hm2 rfl (by decide) ⟨_, _, rfl⟩ rfl rfl rfl (Nat.le_of_ble_eq_true rfl) ⟨by decide, by decide⟩ (Nat.le_of_ble_eq_true rfl) (by decide) (m_thrown hm2) ?_
  refine lz_iload dL_law_237 rfl ?_
  refine lz_icmp_eq (tgt := 244) dL_law_239 (by decide) (iI_41 oc.1.1.1) rfl ?_
  refine lz_iload dL_law_244 rfl ?_
  refine lz_if_ne (tgt := 261) dL_law_246 (by decide) (iI_41 oc.1.1.1) (fun z9 => ?_) (fun z9 => ?_)
  · refine lz_goto (tgt := 2480) dL_law_261 (by decide) ?_
    exact kk _ _ _ _ _ ⟨hx2, hm2, ho2, g2, g4, oc.1⟩
  · refine lz_aload_n dL_law_249 rfl ?_
    refine lz_iconst dL_law_250 ?_
    refine lz_lald (by decide) dL_law_251 ho2 (by decide) (by decide) ?_
    refine lz_iload dL_law_252 rfl ?_
    refine lz_i2l dL_law_254 oc.2 ?_
    refine lz_lcmp dL_law_255 (iL_I oc.2) (g6 z9) ?_
    refine lz_if_eq (tgt := 261) dL_law_256 (by decide) q_zero (fun _ => ?_) (fun y => absurd rfl y)
    refine lz_goto (tgt := 2480) dL_law_261 (by decide) ?_
    exact kk _ _ _ _ _ ⟨hx2, hm2, ho2, g2, g4, oc.1⟩
set_option maxRecDepth 20000 in
set_option maxHeartbeats 4000000 in
theorem lc_write {l : Launch} {D : va_G} {B sb n : Nat} {Z : Int → Int} {K : q_K} {M C : q_S} {x m o : Nat} {i k : Int} {u5 u6 : Option q_V} {c s : Nat} (hn : n ≤ 2560) (hi : 0 ≤ i ∧ i + 5 ≤ (n : Int)) (hk : 0 ≤ k ∧ k < 512) (h0 : q_LI K M C x m o k) (hc : 16 ≤ c) (hs : 96 ≤ s)
    (kk : ∀ K2 M2 C2 w5 w6, q_LI K2 M2 C2 x m o (k + 1) → q_F l D B sb n Z 2480 [some (q_R 0), some (q_R x), some (q_R m), some (q_R o), some (q_I i), w5, w6] [] K2 M2 C2 (c - 16) (s - 96)) : q_F l D B sb n Z 264 [some (q_R 0), some (q_R x), some (q_R m), some (q_R o), some (q_I i), u5, u6] [] K M C c s := by
  obtain ⟨hx, hm, ho, hB, hR, h⟩ := h0
  have nb := nb_10 h.1.2.2.2.2 hk.2
  refine lz_aload_n dL_law_264 rfl ?_
  refine lz_aload_n dL_law_265 rfl ?_
  refine lz_iload dL_law_266 rfl ?_
  refine lz_iconst dL_law_268 ?_
  refine lz_iadd dL_law_269 ?_
  refine lz_sald dL_law_270 hn (by omega) (by omega) (fun hp1_270 => ?_)
  refine lz_aload_n dL_law_271 rfl ?_
  refine lz_iload dL_law_272 rfl ?_
  refine lz_iconst dL_law_274 ?_
  refine lz_iadd dL_law_275 ?_
  refine lz_sald dL_law_276 hn (by omega) (by omega) (fun hp2_276 => ?_)
  refine lz_aload_n dL_law_277 rfl ?_
  have oc := okc_write h hk (Z (i + 1)) (Z (i + 2))
  refine lz_callS (as := [q_R x, q_I (Z (i + 1)), q_I (Z (i + 2)), q_R o]) (rest := []) (c1 := 16) (s1 := 96) (c2 := c - 16) (s2 := s - 96) dL_law_278 k_L_write l_L_134 s_L_write rfl rfl rfl rfl (Nat.le_of_ble_eq_true rfl) ⟨by decide, by decide⟩ (by omega) (by omega) (Nat.le_of_ble_eq_true rfl) (by decide) (w_write hx ho hR h hk hB (c := 16) (s := 96) (by omega) (by omega) hp1_270 hp2_276) (fun ov K2 M2 C2 g => ?_) (fun E K2 M2 C2 g => by obtain ⟨-, -, -, g5, -⟩ := g; cases g5)
  obtain ⟨⟨g1, g2⟩, g3, g4, g5, g6⟩ := g
  obtain rfl := Sum.inl.inj g5
  rw [g3]
  have hx2 := xt_get g1 hx (by decide)
  have hm2 := xt_get g1 hm (by decide)
  have ho2 := xt_get g1 ho (by decide)
  refine lz_istore (ls2 := [some (q_R 0), some (q_R x), some (q_R m), some (q_R o), some (q_I i), some (q_I ((writeF M (Z (i + 1)) (Z (i + 2))).2 50 41)), u6]) dL_law_281 (by decide) rfl ?_
  refine lz_aload_n dL_law_283 rfl ?_
  refine lz_aload_n dL_law_284 rfl ?_
  refine lz_iload dL_law_285 rfl ?_
  refine lz_iconst dL_law_287 ?_
  refine lz_iadd dL_law_288 ?_
  refine lz_sald dL_law_289 hn (by omega) (by omega) (fun hp1_289 => ?_)
  refine lz_aload_n dL_law_290 rfl ?_
  refine lz_iload dL_law_291 rfl ?_
  refine lz_iconst dL_law_293 ?_
  refine lz_iadd dL_law_294 ?_
  refine lz_sald dL_law_295 hn (by omega) (by omega) (fun hp2_295 => ?_)
  refine lz_cV (as := [q_I (Z (i + 1)), q_I (Z (i + 2))]) (rest := []) dL_law_296 k_X11_write l_L_137 i_X11_write v_X11_write hm2 rfl (by decide) ⟨_, _, rfl⟩ rfl rfl rfl (Nat.le_of_ble_eq_true rfl) ⟨by decide, by decide⟩ (Nat.le_of_ble_eq_true rfl) (by decide) (m_write hm2 h.1.1  hp1_289 hp2_295 (by have := nb.2.1; omega)) ?_
  refine lz_istore (ls2 := [some (q_R 0), some (q_R x), some (q_R m), some (q_R o), some (q_I i), some (q_I ((writeF M (Z (i + 1)) (Z (i + 2))).2 50 41)), some (q_I (writeF M (Z (i + 1)) (Z (i + 2))).1)]) dL_law_299 (by decide) rfl ?_
  refine lz_aload_n dL_law_301 rfl ?_
  refine lz_cV (as := []) (rest := []) dL_law_302 k_X11_thrown l_L_130 i_X11_thrown v_X11_thrown hm2 rfl (by decide) ⟨_, _, rfl⟩ rfl rfl rfl (Nat.le_of_ble_eq_true rfl) ⟨by decide, by decide⟩ (Nat.le_of_ble_eq_true rfl) (by decide) (m_thrown hm2) ?_
  refine lz_iload dL_law_305 rfl ?_
  refine lz_icmp_eq (tgt := 312) dL_law_307 (by decide) (iI_41 oc.1.1.1) rfl ?_
  refine lz_iload dL_law_312 rfl ?_
  refine lz_if_ne (tgt := 329) dL_law_314 (by decide) (iI_41 oc.1.1.1) (fun z9 => ?_) (fun z9 => ?_)
  · refine lz_goto (tgt := 2480) dL_law_329 (by decide) ?_
    exact kk _ _ _ _ _ ⟨hx2, hm2, ho2, g2, g4, oc.1⟩
  · refine lz_aload_n dL_law_317 rfl ?_
    refine lz_iconst dL_law_318 ?_
    refine lz_lald (by decide) dL_law_319 ho2 (by decide) (by decide) ?_
    refine lz_iload dL_law_320 rfl ?_
    refine lz_i2l dL_law_322 oc.2 ?_
    refine lz_lcmp dL_law_323 (iL_I oc.2) (g6 z9) ?_
    refine lz_if_eq (tgt := 329) dL_law_324 (by decide) q_zero (fun _ => ?_) (fun y => absurd rfl y)
    refine lz_goto (tgt := 2480) dL_law_329 (by decide) ?_
    exact kk _ _ _ _ _ ⟨hx2, hm2, ho2, g2, g4, oc.1⟩
set_option maxRecDepth 20000 in
set_option maxHeartbeats 4000000 in
theorem lc_move {l : Launch} {D : va_G} {B sb n : Nat} {Z : Int → Int} {K : q_K} {M C : q_S} {x m o : Nat} {i k : Int} {u5 u6 : Option q_V} {c s : Nat} (hn : n ≤ 2560) (hi : 0 ≤ i ∧ i + 5 ≤ (n : Int)) (hk : 0 ≤ k ∧ k < 512) (h0 : q_LI K M C x m o k) (hc : 16 ≤ c) (hs : 96 ≤ s)
    (kk : ∀ K2 M2 C2 w5 w6, q_LI K2 M2 C2 x m o (k + 1) → q_F l D B sb n Z 2480 [some (q_R 0), some (q_R x), some (q_R m), some (q_R o), some (q_I i), w5, w6] [] K2 M2 C2 (c - 16) (s - 96)) : q_F l D B sb n Z 332 [some (q_R 0), some (q_R x), some (q_R m), some (q_R o), some (q_I i), u5, u6] [] K M C c s := by
  obtain ⟨hx, hm, ho, hB, hR, h⟩ := h0
  have nb := nb_10 h.1.2.2.2.2 hk.2
  refine lz_aload_n dL_law_332 rfl ?_
  refine lz_aload_n dL_law_333 rfl ?_
  refine lz_iload dL_law_334 rfl ?_
  refine lz_iconst dL_law_336 ?_
  refine lz_iadd dL_law_337 ?_
  refine lz_sald dL_law_338 hn (by omega) (by omega) (fun hp1_338 => ?_)
  refine lz_aload_n dL_law_339 rfl ?_
  refine lz_iload dL_law_340 rfl ?_
  refine lz_iconst dL_law_342 ?_
  refine lz_iadd dL_law_343 ?_
  refine lz_sald dL_law_344 hn (by omega) (by omega) (fun hp2_344 => ?_)
  refine lz_aload_n dL_law_345 rfl ?_
  refine lz_iload dL_law_346 rfl ?_
  refine lz_iconst dL_law_348 ?_
  refine lz_iadd dL_law_349 ?_
  refine lz_sald dL_law_350 hn (by omega) (by omega) (fun hp3_350 => ?_)
  refine lz_aload_n dL_law_351 rfl ?_
  have oc := okc_move h hk (Z (i + 1)) (Z (i + 2)) (Z (i + 3))
  refine lz_callS (as := [q_R x, q_I (Z (i + 1)), q_I (Z (i + 2)), q_I (Z (i + 3)), q_R o]) (rest := []) (c1 := 16) (s1 := 96) (c2 := c - 16) (s2 := s - 96) dL_law_352 k_L_move l_L_138 s_L_move rfl rfl rfl rfl (Nat.le_of_ble_eq_true rfl) ⟨by decide, by decide⟩ (by omega) (by omega) (Nat.le_of_ble_eq_true rfl) (by decide) (w_move hx ho hR h hk hB (c := 16) (s := 96) (by omega) (by omega) hp1_338 hp2_344 hp3_350) (fun ov K2 M2 C2 g => ?_) (fun E K2 M2 C2 g => by obtain ⟨-, -, -, g5, -⟩ := g; cases g5)
  obtain ⟨⟨g1, g2⟩, g3, g4, g5, g6⟩ := g
  obtain rfl := Sum.inl.inj g5
  rw [g3]
  have hx2 := xt_get g1 hx (by decide)
  have hm2 := xt_get g1 hm (by decide)
  have ho2 := xt_get g1 ho (by decide)
  refine lz_istore (ls2 := [some (q_R 0), some (q_R x), some (q_R m), some (q_R o), some (q_I i), some (q_I ((moveF M (Z (i + 1)) (Z (i + 2)) (Z (i + 3))).2 50 41)), u6]) dL_law_355 (by decide) rfl ?_
  refine lz_aload_n dL_law_357 rfl ?_
  refine lz_aload_n dL_law_358 rfl ?_
  refine lz_iload dL_law_359 rfl ?_
  refine lz_iconst dL_law_361 ?_
  refine lz_iadd dL_law_362 ?_
  refine lz_sald dL_law_363 hn (by omega) (by omega) (fun hp1_363 => ?_)
  refine lz_aload_n dL_law_364 rfl ?_
  refine lz_iload dL_law_365 rfl ?_
  refine lz_iconst dL_law_367 ?_
  refine lz_iadd dL_law_368 ?_
  refine lz_sald dL_law_369 hn (by omega) (by omega) (fun hp2_369 => ?_)
  refine lz_aload_n dL_law_370 rfl ?_
  refine lz_iload dL_law_371 rfl ?_
  refine lz_iconst dL_law_373 ?_
  refine lz_iadd dL_law_374 ?_
  refine lz_sald dL_law_375 hn (by omega) (by omega) (fun hp3_375 => ?_)
  refine lz_cV (as := [q_I (Z (i + 1)), q_I (Z (i + 2)), q_I (Z (i + 3))]) (rest := []) dL_law_376 k_X11_move l_L_141 i_X11_move v_X11_move hm2 rfl (by decide) ⟨_, _, rfl⟩ rfl rfl rfl (Nat.le_of_ble_eq_true rfl) ⟨by decide, by decide⟩ (Nat.le_of_ble_eq_true rfl) (by decide) (m_move hm2 h.1.1  hp1_363 hp2_369 hp3_375 (by have := nb.2.1; omega)) ?_
  refine lz_istore (ls2 := [some (q_R 0), some (q_R x), some (q_R m), some (q_R o), some (q_I i), some (q_I ((moveF M (Z (i + 1)) (Z (i + 2)) (Z (i + 3))).2 50 41)), some (q_I (moveF M (Z (i + 1)) (Z (i + 2)) (Z (i + 3))).1)]) dL_law_379 (by decide) rfl ?_
  refine lz_aload_n dL_law_381 rfl ?_
  refine lz_cV (as := []) (rest := []) dL_law_382 k_X11_thrown l_L_130 i_X11_thrown v_X11_thrown hm2 rfl (by decide) ⟨_, _, rfl⟩ rfl rfl rfl (Nat.le_of_ble_eq_true rfl) ⟨by decide, by decide⟩ (Nat.le_of_ble_eq_true rfl) (by decide) (m_thrown hm2) ?_
  refine lz_iload dL_law_385 rfl ?_
  refine lz_icmp_eq (tgt := 392) dL_law_387 (by decide) (iI_41 oc.1.1.1) rfl ?_
  refine lz_iload dL_law_392 rfl ?_
  refine lz_if_ne (tgt := 409) dL_law_394 (by decide) (iI_41 oc.1.1.1) (fun z9 => ?_) (fun z9 => ?_)
  · refine lz_goto (tgt := 2480) dL_law_409 (by decide) ?_
    exact kk _ _ _ _ _ ⟨hx2, hm2, ho2, g2, g4, oc.1⟩
  · refine lz_aload_n dL_law_397 rfl ?_
    refine lz_iconst dL_law_398 ?_
    refine lz_lald (by decide) dL_law_399 ho2 (by decide) (by decide) ?_
    refine lz_iload dL_law_400 rfl ?_
    refine lz_i2l dL_law_402 oc.2 ?_
    refine lz_lcmp dL_law_403 (iL_I oc.2) (g6 z9) ?_
    refine lz_if_eq (tgt := 409) dL_law_404 (by decide) q_zero (fun _ => ?_) (fun y => absurd rfl y)
    refine lz_goto (tgt := 2480) dL_law_409 (by decide) ?_
    exact kk _ _ _ _ _ ⟨hx2, hm2, ho2, g2, g4, oc.1⟩
set_option maxRecDepth 20000 in
set_option maxHeartbeats 4000000 in
theorem lc_erase {l : Launch} {D : va_G} {B sb n : Nat} {Z : Int → Int} {K : q_K} {M C : q_S} {x m o : Nat} {i k : Int} {u5 u6 : Option q_V} {c s : Nat} (hn : n ≤ 2560) (hi : 0 ≤ i ∧ i + 5 ≤ (n : Int)) (hk : 0 ≤ k ∧ k < 512) (h0 : q_LI K M C x m o k) (hc : 16 ≤ c) (hs : 96 ≤ s)
    (kk : ∀ K2 M2 C2 w5 w6, q_LI K2 M2 C2 x m o (k + 1) → q_F l D B sb n Z 2480 [some (q_R 0), some (q_R x), some (q_R m), some (q_R o), some (q_I i), w5, w6] [] K2 M2 C2 (c - 16) (s - 96)) : q_F l D B sb n Z 412 [some (q_R 0), some (q_R x), some (q_R m), some (q_R o), some (q_I i), u5, u6] [] K M C c s := by
  obtain ⟨hx, hm, ho, hB, hR, h⟩ := h0
  have nb := nb_10 h.1.2.2.2.2 hk.2
  refine lz_aload_n dL_law_412 rfl ?_
  refine lz_aload_n dL_law_413 rfl ?_
  refine lz_iload dL_law_414 rfl ?_
  refine lz_iconst dL_law_416 ?_
  refine lz_iadd dL_law_417 ?_
  refine lz_sald dL_law_418 hn (by omega) (by omega) (fun hp1_418 => ?_)
  refine lz_aload_n dL_law_419 rfl ?_
  refine lz_iload dL_law_420 rfl ?_
  refine lz_iconst dL_law_422 ?_
  refine lz_iadd dL_law_423 ?_
  refine lz_sald dL_law_424 hn (by omega) (by omega) (fun hp2_424 => ?_)
  refine lz_aload_n dL_law_425 rfl ?_
  have oc := okc_erase h hk (Z (i + 1)) (Z (i + 2))
  refine lz_callS (as := [q_R x, q_I (Z (i + 1)), q_I (Z (i + 2)), q_R o]) (rest := []) (c1 := 16) (s1 := 96) (c2 := c - 16) (s2 := s - 96) dL_law_426 k_L_erase l_L_142 s_L_erase rfl rfl rfl rfl (Nat.le_of_ble_eq_true rfl) ⟨by decide, by decide⟩ (by omega) (by omega) (Nat.le_of_ble_eq_true rfl) (by decide) (w_erase hx ho hR h hk hB (c := 16) (s := 96) (by omega) (by omega) hp1_418 hp2_424) (fun ov K2 M2 C2 g => ?_) (fun E K2 M2 C2 g => by obtain ⟨-, -, -, g5, -⟩ := g; cases g5)
  obtain ⟨⟨g1, g2⟩, g3, g4, g5, g6⟩ := g
  obtain rfl := Sum.inl.inj g5
  rw [g3]
  have hx2 := xt_get g1 hx (by decide)
  have hm2 := xt_get g1 hm (by decide)
  have ho2 := xt_get g1 ho (by decide)
  refine lz_istore (ls2 := [some (q_R 0), some (q_R x), some (q_R m), some (q_R o), some (q_I i), some (q_I ((eraseF M (Z (i + 1)) (Z (i + 2))).2 50 41)), u6]) dL_law_429 (by decide) rfl ?_
  refine lz_aload_n dL_law_431 rfl ?_
  refine lz_aload_n dL_law_432 rfl ?_
  refine lz_iload dL_law_433 rfl ?_
  refine lz_iconst dL_law_435 ?_
  refine lz_iadd dL_law_436 ?_
  refine lz_sald dL_law_437 hn (by omega) (by omega) (fun hp1_437 => ?_)
  refine lz_aload_n dL_law_438 rfl ?_
  refine lz_iload dL_law_439 rfl ?_
  refine lz_iconst dL_law_441 ?_
  refine lz_iadd dL_law_442 ?_
  refine lz_sald dL_law_443 hn (by omega) (by omega) (fun hp2_443 => ?_)
  refine lz_cV (as := [q_I (Z (i + 1)), q_I (Z (i + 2))]) (rest := []) dL_law_444 k_X11_erase l_L_144 i_X11_erase v_X11_erase hm2 rfl (by decide) ⟨_, _, rfl⟩ rfl rfl rfl (Nat.le_of_ble_eq_true rfl) ⟨by decide, by decide⟩ (Nat.le_of_ble_eq_true rfl) (by decide) (m_erase hm2 h.1.1  hp1_437 hp2_443 (by have := nb.2.1; omega)) ?_
  refine lz_istore (ls2 := [some (q_R 0), some (q_R x), some (q_R m), some (q_R o), some (q_I i), some (q_I ((eraseF M (Z (i + 1)) (Z (i + 2))).2 50 41)), some (q_I (eraseF M (Z (i + 1)) (Z (i + 2))).1)]) dL_law_447 (by decide) rfl ?_
  refine lz_aload_n dL_law_449 rfl ?_
  refine lz_cV (as := []) (rest := []) dL_law_450 k_X11_thrown l_L_130 i_X11_thrown v_X11_thrown hm2 rfl (by decide) ⟨_, _, rfl⟩ rfl rfl rfl (Nat.le_of_ble_eq_true rfl) ⟨by decide, by decide⟩ (Nat.le_of_ble_eq_true rfl) (by decide) (m_thrown hm2) ?_
  refine lz_iload dL_law_453 rfl ?_
  refine lz_icmp_eq (tgt := 460) dL_law_455 (by decide) (iI_41 oc.1.1.1) rfl ?_
  refine lz_iload dL_law_460 rfl ?_
  refine lz_if_ne (tgt := 477) dL_law_462 (by decide) (iI_41 oc.1.1.1) (fun z9 => ?_) (fun z9 => ?_)
  · refine lz_goto (tgt := 2480) dL_law_477 (by decide) ?_
    exact kk _ _ _ _ _ ⟨hx2, hm2, ho2, g2, g4, oc.1⟩
  · refine lz_aload_n dL_law_465 rfl ?_
    refine lz_iconst dL_law_466 ?_
    refine lz_lald (by decide) dL_law_467 ho2 (by decide) (by decide) ?_
    refine lz_iload dL_law_468 rfl ?_
    refine lz_i2l dL_law_470 oc.2 ?_
    refine lz_lcmp dL_law_471 (iL_I oc.2) (g6 z9) ?_
    refine lz_if_eq (tgt := 477) dL_law_472 (by decide) q_zero (fun _ => ?_) (fun y => absurd rfl y)
    refine lz_goto (tgt := 2480) dL_law_477 (by decide) ?_
    exact kk _ _ _ _ _ ⟨hx2, hm2, ho2, g2, g4, oc.1⟩
set_option maxRecDepth 20000 in
set_option maxHeartbeats 4000000 in
theorem lc_late {l : Launch} {D : va_G} {B sb n : Nat} {Z : Int → Int} {K : q_K} {M C : q_S} {x m o : Nat} {i k : Int} {u5 u6 : Option q_V} {c s : Nat} (hn : n ≤ 2560) (hi : 0 ≤ i ∧ i + 5 ≤ (n : Int)) (hk : 0 ≤ k ∧ k < 512) (h0 : q_LI K M C x m o k) (hc : 16 ≤ c) (hs : 96 ≤ s)
    (kk : ∀ K2 M2 C2 w5 w6, q_LI K2 M2 C2 x m o (k + 1) → q_F l D B sb n Z 2480 [some (q_R 0), some (q_R x), some (q_R m), some (q_R o), some (q_I i), w5, w6] [] K2 M2 C2 (c - 16) (s - 96)) : q_F l D B sb n Z 480 [some (q_R 0), some (q_R x), some (q_R m), some (q_R o), some (q_I i), u5, u6] [] K M C c s := by
  obtain ⟨hx, hm, ho, hB, hR, h⟩ := h0
  have nb := nb_10 h.1.2.2.2.2 hk.2
  refine lz_aload_n dL_law_480 rfl ?_
  refine lz_aload_n dL_law_481 rfl ?_
  refine lz_iload dL_law_482 rfl ?_
  refine lz_iconst dL_law_484 ?_
  refine lz_iadd dL_law_485 ?_
  refine lz_sald dL_law_486 hn (by omega) (by omega) (fun hp1_486 => ?_)
  refine lz_aload_n dL_law_487 rfl ?_
  refine lz_iload dL_law_488 rfl ?_
  refine lz_iconst dL_law_490 ?_
  refine lz_iadd dL_law_491 ?_
  refine lz_sald dL_law_492 hn (by omega) (by omega) (fun hp2_492 => ?_)
  refine lz_aload_n dL_law_493 rfl ?_
  have oc := okc_late h hk (Z (i + 1)) (Z (i + 2))
  refine lz_callS (as := [q_R x, q_I (Z (i + 1)), q_I (Z (i + 2)), q_R o]) (rest := []) (c1 := 16) (s1 := 96) (c2 := c - 16) (s2 := s - 96) dL_law_494 k_L_late l_L_145 s_L_late rfl rfl rfl rfl (Nat.le_of_ble_eq_true rfl) ⟨by decide, by decide⟩ (by omega) (by omega) (Nat.le_of_ble_eq_true rfl) (by decide) (w_late hx ho hR h hk hB (c := 16) (s := 96) (by omega) (by omega) hp1_486 hp2_492) (fun ov K2 M2 C2 g => ?_) (fun E K2 M2 C2 g => by obtain ⟨-, -, -, g5, -⟩ := g; cases g5)
  obtain ⟨⟨g1, g2⟩, g3, g4, g5, g6⟩ := g
  obtain rfl := Sum.inl.inj g5
  rw [g3]
  have hx2 := xt_get g1 hx (by decide)
  have hm2 := xt_get g1 hm (by decide)
  have ho2 := xt_get g1 ho (by decide)
  refine lz_istore (ls2 := [some (q_R 0), some (q_R x), some (q_R m), some (q_R o), some (q_I i), some (q_I ((lateF M (Z (i + 1)) (Z (i + 2))).2 50 41)), u6]) dL_law_497 (by decide) rfl ?_
  refine lz_aload_n dL_law_499 rfl ?_
  refine lz_aload_n dL_law_500 rfl ?_
  refine lz_iload dL_law_501 rfl ?_
  refine lz_iconst dL_law_503 ?_
  refine lz_iadd dL_law_504 ?_
  refine lz_sald dL_law_505 hn (by omega) (by omega) (fun hp1_505 => ?_)
  refine lz_aload_n dL_law_506 rfl ?_
  refine lz_iload dL_law_507 rfl ?_
  refine lz_iconst dL_law_509 ?_
  refine lz_iadd dL_law_510 ?_
  refine lz_sald dL_law_511 hn (by omega) (by omega) (fun hp2_511 => ?_)
  refine lz_cV (as := [q_I (Z (i + 1)), q_I (Z (i + 2))]) (rest := []) dL_law_512 k_X11_late l_L_147 i_X11_late v_X11_late hm2 rfl (by decide) ⟨_, _, rfl⟩ rfl rfl rfl (Nat.le_of_ble_eq_true rfl) ⟨by decide, by decide⟩ (Nat.le_of_ble_eq_true rfl) (by decide) (m_late hm2 h.1.1  hp1_505 hp2_511 ) ?_
  refine lz_istore (ls2 := [some (q_R 0), some (q_R x), some (q_R m), some (q_R o), some (q_I i), some (q_I ((lateF M (Z (i + 1)) (Z (i + 2))).2 50 41)), some (q_I (lateF M (Z (i + 1)) (Z (i + 2))).1)]) dL_law_515 (by decide) rfl ?_
  refine lz_aload_n dL_law_517 rfl ?_
  refine lz_cV (as := []) (rest := []) dL_law_518 k_X11_thrown l_L_130 i_X11_thrown v_X11_thrown hm2 rfl (by decide) ⟨_, _, rfl⟩ rfl rfl rfl (Nat.le_of_ble_eq_true rfl) ⟨by decide, by decide⟩ (Nat.le_of_ble_eq_true rfl) (by decide) (m_thrown hm2) ?_
  refine lz_iload dL_law_521 rfl ?_
  refine lz_icmp_eq (tgt := 528) dL_law_523 (by decide) (iI_41 oc.1.1.1) rfl ?_
  refine lz_iload dL_law_528 rfl ?_
  refine lz_if_ne (tgt := 545) dL_law_530 (by decide) (iI_41 oc.1.1.1) (fun z9 => ?_) (fun z9 => ?_)
  · refine lz_goto (tgt := 2480) dL_law_545 (by decide) ?_
    exact kk _ _ _ _ _ ⟨hx2, hm2, ho2, g2, g4, oc.1⟩
  · refine lz_aload_n dL_law_533 rfl ?_
    refine lz_iconst dL_law_534 ?_
    refine lz_lald (by decide) dL_law_535 ho2 (by decide) (by decide) ?_
    refine lz_iload dL_law_536 rfl ?_
    refine lz_i2l dL_law_538 oc.2 ?_
    refine lz_lcmp dL_law_539 (iL_I oc.2) (g6 z9) ?_
    refine lz_if_eq (tgt := 545) dL_law_540 (by decide) q_zero (fun _ => ?_) (fun y => absurd rfl y)
    refine lz_goto (tgt := 2480) dL_law_545 (by decide) ?_
    exact kk _ _ _ _ _ ⟨hx2, hm2, ho2, g2, g4, oc.1⟩
set_option maxRecDepth 20000 in
set_option maxHeartbeats 4000000 in
theorem lc_lose {l : Launch} {D : va_G} {B sb n : Nat} {Z : Int → Int} {K : q_K} {M C : q_S} {x m o : Nat} {i k : Int} {u5 u6 : Option q_V} {c s : Nat} (hn : n ≤ 2560) (hi : 0 ≤ i ∧ i + 5 ≤ (n : Int)) (hk : 0 ≤ k ∧ k < 512) (h0 : q_LI K M C x m o k) (hc : 16 ≤ c) (hs : 96 ≤ s)
    (kk : ∀ K2 M2 C2 w5 w6, q_LI K2 M2 C2 x m o (k + 1) → q_F l D B sb n Z 2480 [some (q_R 0), some (q_R x), some (q_R m), some (q_R o), some (q_I i), w5, w6] [] K2 M2 C2 (c - 16) (s - 96)) : q_F l D B sb n Z 548 [some (q_R 0), some (q_R x), some (q_R m), some (q_R o), some (q_I i), u5, u6] [] K M C c s := by
  obtain ⟨hx, hm, ho, hB, hR, h⟩ := h0
  have nb := nb_10 h.1.2.2.2.2 hk.2
  refine lz_aload_n dL_law_548 rfl ?_
  refine lz_aload_n dL_law_549 rfl ?_
  refine lz_iload dL_law_550 rfl ?_
  refine lz_iconst dL_law_552 ?_
  refine lz_iadd dL_law_553 ?_
  refine lz_sald dL_law_554 hn (by omega) (by omega) (fun hp1_554 => ?_)
  refine lz_aload_n dL_law_555 rfl ?_
  have oc := okc_lose h hk (Z (i + 1))
  refine lz_callS (as := [q_R x, q_I (Z (i + 1)), q_R o]) (rest := []) (c1 := 16) (s1 := 96) (c2 := c - 16) (s2 := s - 96) dL_law_556 k_L_lose l_L_148 s_L_lose rfl rfl rfl rfl (Nat.le_of_ble_eq_true rfl) ⟨by decide, by decide⟩ (by omega) (by omega) (Nat.le_of_ble_eq_true rfl) (by decide) (w_lose hx ho hR h hk hB (c := 16) (s := 96) (by omega) (by omega) hp1_554) (fun ov K2 M2 C2 g => ?_) (fun E K2 M2 C2 g => by obtain ⟨-, -, -, g5, -⟩ := g; cases g5)
  obtain ⟨⟨g1, g2⟩, g3, g4, g5, g6⟩ := g
  obtain rfl := Sum.inl.inj g5
  rw [g3]
  have hx2 := xt_get g1 hx (by decide)
  have hm2 := xt_get g1 hm (by decide)
  have ho2 := xt_get g1 ho (by decide)
  refine lz_istore (ls2 := [some (q_R 0), some (q_R x), some (q_R m), some (q_R o), some (q_I i), some (q_I ((loseF M (Z (i + 1))).2 50 41)), u6]) dL_law_559 (by decide) rfl ?_
  refine lz_aload_n dL_law_561 rfl ?_
  refine lz_aload_n dL_law_562 rfl ?_
  refine lz_iload dL_law_563 rfl ?_
  refine lz_iconst dL_law_565 ?_
  refine lz_iadd dL_law_566 ?_
  refine lz_sald dL_law_567 hn (by omega) (by omega) (fun hp1_567 => ?_)
  refine lz_cV (as := [q_I (Z (i + 1))]) (rest := []) dL_law_568 k_X11_lose l_L_150 i_X11_lose v_X11_lose hm2 rfl (by decide) ⟨_, _, rfl⟩ rfl rfl rfl (Nat.le_of_ble_eq_true rfl) ⟨by decide, by decide⟩ (Nat.le_of_ble_eq_true rfl) (by decide) (m_lose hm2 h.1.1  hp1_567 ) ?_
  refine lz_istore (ls2 := [some (q_R 0), some (q_R x), some (q_R m), some (q_R o), some (q_I i), some (q_I ((loseF M (Z (i + 1))).2 50 41)), some (q_I (loseF M (Z (i + 1))).1)]) dL_law_571 (by decide) rfl ?_
  refine lz_aload_n dL_law_573 rfl ?_
  refine lz_cV (as := []) (rest := []) dL_law_574 k_X11_thrown l_L_130 i_X11_thrown v_X11_thrown hm2 rfl (by decide) ⟨_, _, rfl⟩ rfl rfl rfl (Nat.le_of_ble_eq_true rfl) ⟨by decide, by decide⟩ (Nat.le_of_ble_eq_true rfl) (by decide) (m_thrown hm2) ?_
  refine lz_iload dL_law_577 rfl ?_
  refine lz_icmp_eq (tgt := 584) dL_law_579 (by decide) (iI_41 oc.1.1.1) rfl ?_
  refine lz_iload dL_law_584 rfl ?_
  refine lz_if_ne (tgt := 601) dL_law_586 (by decide) (iI_41 oc.1.1.1) (fun z9 => ?_) (fun z9 => ?_)
  · refine lz_goto (tgt := 2480) dL_law_601 (by decide) ?_
    exact kk _ _ _ _ _ ⟨hx2, hm2, ho2, g2, g4, oc.1⟩
  · refine lz_aload_n dL_law_589 rfl ?_
    refine lz_iconst dL_law_590 ?_
    refine lz_lald (by decide) dL_law_591 ho2 (by decide) (by decide) ?_
    refine lz_iload dL_law_592 rfl ?_
    refine lz_i2l dL_law_594 oc.2 ?_
    refine lz_lcmp dL_law_595 (iL_I oc.2) (g6 z9) ?_
    refine lz_if_eq (tgt := 601) dL_law_596 (by decide) q_zero (fun _ => ?_) (fun y => absurd rfl y)
    refine lz_goto (tgt := 2480) dL_law_601 (by decide) ?_
    exact kk _ _ _ _ _ ⟨hx2, hm2, ho2, g2, g4, oc.1⟩
set_option maxRecDepth 20000 in
set_option maxHeartbeats 4000000 in
theorem lc_scan {l : Launch} {D : va_G} {B sb n : Nat} {Z : Int → Int} {K : q_K} {M C : q_S} {x m o : Nat} {i k : Int} {u5 u6 : Option q_V} {c s : Nat} (hn : n ≤ 2560) (hi : 0 ≤ i ∧ i + 5 ≤ (n : Int)) (hk : 0 ≤ k ∧ k < 512) (h0 : q_LI K M C x m o k) (hc : 16 ≤ c) (hs : 96 ≤ s)
    (kk : ∀ K2 M2 C2 w5 w6, q_LI K2 M2 C2 x m o (k + 1) → q_F l D B sb n Z 2480 [some (q_R 0), some (q_R x), some (q_R m), some (q_R o), some (q_I i), w5, w6] [] K2 M2 C2 (c - 16) (s - 96)) : q_F l D B sb n Z 604 [some (q_R 0), some (q_R x), some (q_R m), some (q_R o), some (q_I i), u5, u6] [] K M C c s := by
  obtain ⟨hx, hm, ho, hB, hR, h⟩ := h0
  have nb := nb_10 h.1.2.2.2.2 hk.2
  refine lz_aload_n dL_law_604 rfl ?_
  refine lz_aload_n dL_law_605 rfl ?_
  refine lz_iload dL_law_606 rfl ?_
  refine lz_iconst dL_law_608 ?_
  refine lz_iadd dL_law_609 ?_
  refine lz_sald dL_law_610 hn (by omega) (by omega) (fun hp1_610 => ?_)
  refine lz_aload_n dL_law_611 rfl ?_
  have oc := okc_scan h hk (Z (i + 1))
  refine lz_callS (as := [q_R x, q_I (Z (i + 1)), q_R o]) (rest := []) (c1 := 16) (s1 := 96) (c2 := c - 16) (s2 := s - 96) dL_law_612 k_L_scan l_L_151 s_L_scan rfl rfl rfl rfl (Nat.le_of_ble_eq_true rfl) ⟨by decide, by decide⟩ (by omega) (by omega) (Nat.le_of_ble_eq_true rfl) (by decide) (w_scan hx ho hR h hk hB (c := 16) (s := 96) (by omega) (by omega) hp1_610) (fun ov K2 M2 C2 g => ?_) (fun E K2 M2 C2 g => by obtain ⟨-, -, -, g5, -⟩ := g; cases g5)
  obtain ⟨⟨g1, g2⟩, g3, g4, g5, g6⟩ := g
  obtain rfl := Sum.inl.inj g5
  rw [g3]
  have hx2 := xt_get g1 hx (by decide)
  have hm2 := xt_get g1 hm (by decide)
  have ho2 := xt_get g1 ho (by decide)
  refine lz_istore (ls2 := [some (q_R 0), some (q_R x), some (q_R m), some (q_R o), some (q_I i), some (q_I ((scanF M (Z (i + 1))).2 50 41)), u6]) dL_law_615 (by decide) rfl ?_
  refine lz_aload_n dL_law_617 rfl ?_
  refine lz_aload_n dL_law_618 rfl ?_
  refine lz_iload dL_law_619 rfl ?_
  refine lz_iconst dL_law_621 ?_
  refine lz_iadd dL_law_622 ?_
  refine lz_sald dL_law_623 hn (by omega) (by omega) (fun hp1_623 => ?_)
  refine lz_cV (as := [q_I (Z (i + 1))]) (rest := []) dL_law_624 k_X11_scan l_L_153 i_X11_scan v_X11_scan hm2 rfl (by decide) ⟨_, _, rfl⟩ rfl rfl rfl (Nat.le_of_ble_eq_true rfl) ⟨by decide, by decide⟩ (Nat.le_of_ble_eq_true rfl) (by decide) (m_scan hm2 h.1.1  hp1_623 (by have := nb.1; omega)) ?_
  refine lz_istore (ls2 := [some (q_R 0), some (q_R x), some (q_R m), some (q_R o), some (q_I i), some (q_I ((scanF M (Z (i + 1))).2 50 41)), some (q_I (scanF M (Z (i + 1))).1)]) dL_law_627 (by decide) rfl ?_
  refine lz_aload_n dL_law_629 rfl ?_
  refine lz_cV (as := []) (rest := []) dL_law_630 k_X11_thrown l_L_130 i_X11_thrown v_X11_thrown hm2 rfl (by decide) ⟨_, _, rfl⟩ rfl rfl rfl (Nat.le_of_ble_eq_true rfl) ⟨by decide, by decide⟩ (Nat.le_of_ble_eq_true rfl) (by decide) (m_thrown hm2) ?_
  refine lz_iload dL_law_633 rfl ?_
  refine lz_icmp_eq (tgt := 640) dL_law_635 (by decide) (iI_41 oc.1.1.1) rfl ?_
  refine lz_iload dL_law_640 rfl ?_
  refine lz_if_ne (tgt := 657) dL_law_642 (by decide) (iI_41 oc.1.1.1) (fun z9 => ?_) (fun z9 => ?_)
  · refine lz_goto (tgt := 2480) dL_law_657 (by decide) ?_
    exact kk _ _ _ _ _ ⟨hx2, hm2, ho2, g2, g4, oc.1⟩
  · refine lz_aload_n dL_law_645 rfl ?_
    refine lz_iconst dL_law_646 ?_
    refine lz_lald (by decide) dL_law_647 ho2 (by decide) (by decide) ?_
    refine lz_iload dL_law_648 rfl ?_
    refine lz_i2l dL_law_650 oc.2 ?_
    refine lz_lcmp dL_law_651 (iL_I oc.2) (g6 z9) ?_
    refine lz_if_eq (tgt := 657) dL_law_652 (by decide) q_zero (fun _ => ?_) (fun y => absurd rfl y)
    refine lz_goto (tgt := 2480) dL_law_657 (by decide) ?_
    exact kk _ _ _ _ _ ⟨hx2, hm2, ho2, g2, g4, oc.1⟩
set_option maxRecDepth 20000 in
set_option maxHeartbeats 4000000 in
theorem lc_room {l : Launch} {D : va_G} {B sb n : Nat} {Z : Int → Int} {K : q_K} {M C : q_S} {x m o : Nat} {i k : Int} {u5 u6 : Option q_V} {c s : Nat} (hn : n ≤ 2560) (hi : 0 ≤ i ∧ i + 5 ≤ (n : Int)) (hk : 0 ≤ k ∧ k < 512) (h0 : q_LI K M C x m o k) (hc : 16 ≤ c) (hs : 96 ≤ s)
    (kk : ∀ K2 M2 C2 w5 w6, q_LI K2 M2 C2 x m o (k + 1) → q_F l D B sb n Z 2480 [some (q_R 0), some (q_R x), some (q_R m), some (q_R o), some (q_I i), w5, w6] [] K2 M2 C2 (c - 16) (s - 96)) : q_F l D B sb n Z 660 [some (q_R 0), some (q_R x), some (q_R m), some (q_R o), some (q_I i), u5, u6] [] K M C c s := by
  obtain ⟨hx, hm, ho, hB, hR, h⟩ := h0
  have nb := nb_10 h.1.2.2.2.2 hk.2
  refine lz_aload_n dL_law_660 rfl ?_
  refine lz_aload_n dL_law_661 rfl ?_
  refine lz_iload dL_law_662 rfl ?_
  refine lz_iconst dL_law_664 ?_
  refine lz_iadd dL_law_665 ?_
  refine lz_sald dL_law_666 hn (by omega) (by omega) (fun hp1_666 => ?_)
  refine lz_aload_n dL_law_667 rfl ?_
  refine lz_iload dL_law_668 rfl ?_
  refine lz_iconst dL_law_670 ?_
  refine lz_iadd dL_law_671 ?_
  refine lz_sald dL_law_672 hn (by omega) (by omega) (fun hp2_672 => ?_)
  refine lz_aload_n dL_law_673 rfl ?_
  have oc := okc_room h hk (Z (i + 1)) (Z (i + 2))
  refine lz_callS (as := [q_R x, q_I (Z (i + 1)), q_I (Z (i + 2)), q_R o]) (rest := []) (c1 := 16) (s1 := 96) (c2 := c - 16) (s2 := s - 96) dL_law_674 k_L_room l_L_154 s_L_room rfl rfl rfl rfl (Nat.le_of_ble_eq_true rfl) ⟨by decide, by decide⟩ (by omega) (by omega) (Nat.le_of_ble_eq_true rfl) (by decide) (w_room hx ho hR h hk hB (c := 16) (s := 96) (by omega) (by omega) hp1_666 hp2_672) (fun ov K2 M2 C2 g => ?_) (fun E K2 M2 C2 g => by obtain ⟨-, -, -, g5, -⟩ := g; cases g5)
  obtain ⟨⟨g1, g2⟩, g3, g4, g5, g6⟩ := g
  obtain rfl := Sum.inl.inj g5
  rw [g3]
  have hx2 := xt_get g1 hx (by decide)
  have hm2 := xt_get g1 hm (by decide)
  have ho2 := xt_get g1 ho (by decide)
  refine lz_istore (ls2 := [some (q_R 0), some (q_R x), some (q_R m), some (q_R o), some (q_I i), some (q_I ((roomF M (Z (i + 1)) (Z (i + 2))).2 50 41)), u6]) dL_law_677 (by decide) rfl ?_
  refine lz_aload_n dL_law_679 rfl ?_
  refine lz_aload_n dL_law_680 rfl ?_
  refine lz_iload dL_law_681 rfl ?_
  refine lz_iconst dL_law_683 ?_
  refine lz_iadd dL_law_684 ?_
  refine lz_sald dL_law_685 hn (by omega) (by omega) (fun hp1_685 => ?_)
  refine lz_aload_n dL_law_686 rfl ?_
  refine lz_iload dL_law_687 rfl ?_
  refine lz_iconst dL_law_689 ?_
  refine lz_iadd dL_law_690 ?_
  refine lz_sald dL_law_691 hn (by omega) (by omega) (fun hp2_691 => ?_)
  refine lz_cV (as := [q_I (Z (i + 1)), q_I (Z (i + 2))]) (rest := []) dL_law_692 k_X11_room l_L_156 i_X11_room v_X11_room hm2 rfl (by decide) ⟨_, _, rfl⟩ rfl rfl rfl (Nat.le_of_ble_eq_true rfl) ⟨by decide, by decide⟩ (Nat.le_of_ble_eq_true rfl) (by decide) (m_room hm2 h.1.1  hp1_685 hp2_691 ) ?_
  refine lz_istore (ls2 := [some (q_R 0), some (q_R x), some (q_R m), some (q_R o), some (q_I i), some (q_I ((roomF M (Z (i + 1)) (Z (i + 2))).2 50 41)), some (q_I (roomF M (Z (i + 1)) (Z (i + 2))).1)]) dL_law_695 (by decide) rfl ?_
  refine lz_aload_n dL_law_697 rfl ?_
  refine lz_cV (as := []) (rest := []) dL_law_698 k_X11_thrown l_L_130 i_X11_thrown v_X11_thrown hm2 rfl (by decide) ⟨_, _, rfl⟩ rfl rfl rfl (Nat.le_of_ble_eq_true rfl) ⟨by decide, by decide⟩ (Nat.le_of_ble_eq_true rfl) (by decide) (m_thrown hm2) ?_
  refine lz_iload dL_law_701 rfl ?_
  refine lz_icmp_eq (tgt := 708) dL_law_703 (by decide) (iI_41 oc.1.1.1) rfl ?_
  refine lz_iload dL_law_708 rfl ?_
  refine lz_if_ne (tgt := 725) dL_law_710 (by decide) (iI_41 oc.1.1.1) (fun z9 => ?_) (fun z9 => ?_)
  · refine lz_goto (tgt := 2480) dL_law_725 (by decide) ?_
    exact kk _ _ _ _ _ ⟨hx2, hm2, ho2, g2, g4, oc.1⟩
  · refine lz_aload_n dL_law_713 rfl ?_
    refine lz_iconst dL_law_714 ?_
    refine lz_lald (by decide) dL_law_715 ho2 (by decide) (by decide) ?_
    refine lz_iload dL_law_716 rfl ?_
    refine lz_i2l dL_law_718 oc.2 ?_
    refine lz_lcmp dL_law_719 (iL_I oc.2) (g6 z9) ?_
    refine lz_if_eq (tgt := 725) dL_law_720 (by decide) q_zero (fun _ => ?_) (fun y => absurd rfl y)
    refine lz_goto (tgt := 2480) dL_law_725 (by decide) ?_
    exact kk _ _ _ _ _ ⟨hx2, hm2, ho2, g2, g4, oc.1⟩
set_option maxRecDepth 20000 in
set_option maxHeartbeats 4000000 in
theorem lc_pin {l : Launch} {D : va_G} {B sb n : Nat} {Z : Int → Int} {K : q_K} {M C : q_S} {x m o : Nat} {i k : Int} {u5 u6 : Option q_V} {c s : Nat} (hn : n ≤ 2560) (hi : 0 ≤ i ∧ i + 5 ≤ (n : Int)) (hk : 0 ≤ k ∧ k < 512) (h0 : q_LI K M C x m o k) (hc : 16 ≤ c) (hs : 96 ≤ s)
    (kk : ∀ K2 M2 C2 w5 w6, q_LI K2 M2 C2 x m o (k + 1) → q_F l D B sb n Z 2480 [some (q_R 0), some (q_R x), some (q_R m), some (q_R o), some (q_I i), w5, w6] [] K2 M2 C2 (c - 16) (s - 96)) : q_F l D B sb n Z 728 [some (q_R 0), some (q_R x), some (q_R m), some (q_R o), some (q_I i), u5, u6] [] K M C c s := by
  obtain ⟨hx, hm, ho, hB, hR, h⟩ := h0
  have nb := nb_10 h.1.2.2.2.2 hk.2
  refine lz_aload_n dL_law_728 rfl ?_
  refine lz_aload_n dL_law_729 rfl ?_
  refine lz_iload dL_law_730 rfl ?_
  refine lz_iconst dL_law_732 ?_
  refine lz_iadd dL_law_733 ?_
  refine lz_sald dL_law_734 hn (by omega) (by omega) (fun hp1_734 => ?_)
  refine lz_aload_n dL_law_735 rfl ?_
  refine lz_iload dL_law_736 rfl ?_
  refine lz_iconst dL_law_738 ?_
  refine lz_iadd dL_law_739 ?_
  refine lz_sald dL_law_740 hn (by omega) (by omega) (fun hp2_740 => ?_)
  refine lz_aload_n dL_law_741 rfl ?_
  refine lz_iload dL_law_742 rfl ?_
  refine lz_iconst dL_law_744 ?_
  refine lz_iadd dL_law_745 ?_
  refine lz_sald dL_law_746 hn (by omega) (by omega) (fun hp3_746 => ?_)
  refine lz_if_eq (tgt := 754) dL_law_747 (by decide) hp3_746 (fun z3 => ?_) (fun z3 => ?_)
  · refine lz_iconst dL_law_754 ?_
    refine lz_aload_n dL_law_755 rfl ?_
    have oc := okc_pin h hk (Z (i + 1)) (Z (i + 2)) (b := 0) (Or.inl rfl)
    refine lz_callS (as := [q_R x, q_I (Z (i + 1)), q_I (Z (i + 2)), q_I 0, q_R o]) (rest := []) (c1 := 16) (s1 := 96) (c2 := c - 16) (s2 := s - 96) dL_law_756 k_L_pin l_L_157 s_L_pin rfl rfl rfl rfl (Nat.le_of_ble_eq_true rfl) ⟨by decide, by decide⟩ (by omega) (by omega) (Nat.le_of_ble_eq_true rfl) (by decide) (w_pin hx ho hR h hk hB (c := 16) (s := 96) (by omega) (by omega) hp1_734 hp2_740 q_zero (Or.inl rfl)) (fun ov K2 M2 C2 g => ?_) (fun E K2 M2 C2 g => by obtain ⟨-, -, -, g5, -⟩ := g; cases g5)
    obtain ⟨⟨g1, g2⟩, g3, g4, g5, g6⟩ := g
    obtain rfl := Sum.inl.inj g5
    rw [g3]
    have hx2 := xt_get g1 hx (by decide)
    have hm2 := xt_get g1 hm (by decide)
    have ho2 := xt_get g1 ho (by decide)
    refine lz_istore (ls2 := [some (q_R 0), some (q_R x), some (q_R m), some (q_R o), some (q_I i), some (q_I ((pinF M (Z (i + 1)) (Z (i + 2)) 0).2 50 41)), u6]) dL_law_759 (by decide) rfl ?_
    refine lz_aload_n dL_law_761 rfl ?_
    refine lz_aload_n dL_law_762 rfl ?_
    refine lz_iload dL_law_763 rfl ?_
    refine lz_iconst dL_law_765 ?_
    refine lz_iadd dL_law_766 ?_
    refine lz_sald dL_law_767 hn (by omega) (by omega) (fun hp1_767 => ?_)
    refine lz_aload_n dL_law_768 rfl ?_
    refine lz_iload dL_law_769 rfl ?_
    refine lz_iconst dL_law_771 ?_
    refine lz_iadd dL_law_772 ?_
    refine lz_sald dL_law_773 hn (by omega) (by omega) (fun hp2_773 => ?_)
    refine lz_aload_n dL_law_774 rfl ?_
    refine lz_iload dL_law_775 rfl ?_
    refine lz_iconst dL_law_777 ?_
    refine lz_iadd dL_law_778 ?_
    refine lz_sald dL_law_779 hn (by omega) (by omega) (fun hp3_779 => ?_)
    refine lz_if_eq (tgt := 787) dL_law_780 (by decide) hp3_779 (fun _ => ?_) (fun y => absurd z3 y)
    refine lz_iconst dL_law_787 ?_
    refine lz_cV (as := [q_I (Z (i + 1)), q_I (Z (i + 2)), q_I 0]) (rest := []) dL_law_788 k_X11_pin l_L_160 i_X11_pin v_X11_pin hm2 rfl (by decide) ⟨_, _, rfl⟩ rfl rfl rfl (Nat.le_of_ble_eq_true rfl) ⟨by decide, by decide⟩ (Nat.le_of_ble_eq_true rfl) (by decide) (m_pin hm2 h.1.1  hp1_767 hp2_773 q_zero (Or.inl rfl)) ?_
    refine lz_istore (ls2 := [some (q_R 0), some (q_R x), some (q_R m), some (q_R o), some (q_I i), some (q_I ((pinF M (Z (i + 1)) (Z (i + 2)) 0).2 50 41)), some (q_I (pinF M (Z (i + 1)) (Z (i + 2)) 0).1)]) dL_law_791 (by decide) rfl ?_
    refine lz_aload_n dL_law_793 rfl ?_
    refine lz_cV (as := []) (rest := []) dL_law_794 k_X11_thrown l_L_130 i_X11_thrown v_X11_thrown hm2 rfl (by decide) ⟨_, _, rfl⟩ rfl rfl rfl (Nat.le_of_ble_eq_true rfl) ⟨by decide, by decide⟩ (Nat.le_of_ble_eq_true rfl) (by decide) (m_thrown hm2) ?_
    refine lz_iload dL_law_797 rfl ?_
    refine lz_icmp_eq (tgt := 804) dL_law_799 (by decide) (iI_41 oc.1.1.1) rfl ?_
    refine lz_iload dL_law_804 rfl ?_
    refine lz_if_ne (tgt := 828) dL_law_806 (by decide) (iI_41 oc.1.1.1) (fun z9 => ?_) (fun z9 => ?_)
    · refine lz_goto (tgt := 2480) dL_law_828 (by decide) ?_
      exact kk _ _ _ _ _ ⟨hx2, hm2, ho2, g2, g4, oc.1⟩
    · refine lz_aload_n dL_law_809 rfl ?_
      refine lz_iconst dL_law_810 ?_
      refine lz_lald (by decide) dL_law_811 ho2 (by decide) (by decide) ?_
      refine lz_iload dL_law_812 rfl ?_
      refine lz_if_eq (tgt := 821) dL_law_814 (by decide) oc.2 (fun z8 => ?_) (fun z8 => ?_)
      · refine lz_lconst dL_law_821 rfl ?_
        refine lz_lcmp dL_law_822 ⟨by decide, by decide⟩ ((g6 z9).trans z8) ?_
        refine lz_if_eq (tgt := 828) dL_law_823 (by decide) q_zero (fun _ => ?_) (fun y => absurd rfl y)
        refine lz_goto (tgt := 2480) dL_law_828 (by decide) ?_
        exact kk _ _ _ _ _ ⟨hx2, hm2, ho2, g2, g4, oc.1⟩
      · have z7 := (bo_pin M (Z (i + 1)) (Z (i + 2)) 0).resolve_left z8
        refine lz_lconst dL_law_817 rfl ?_
        refine lz_goto (tgt := 822) dL_law_818 (by decide) ?_
        refine lz_lcmp dL_law_822 ⟨by decide, by decide⟩ ((g6 z9).trans z7) ?_
        refine lz_if_eq (tgt := 828) dL_law_823 (by decide) q_zero (fun _ => ?_) (fun y => absurd rfl y)
        refine lz_goto (tgt := 2480) dL_law_828 (by decide) ?_
        exact kk _ _ _ _ _ ⟨hx2, hm2, ho2, g2, g4, oc.1⟩
  · refine lz_iconst dL_law_750 ?_
    refine lz_goto (tgt := 755) dL_law_751 (by decide) ?_
    refine lz_aload_n dL_law_755 rfl ?_
    have oc := okc_pin h hk (Z (i + 1)) (Z (i + 2)) (b := 1) (Or.inr rfl)
    refine lz_callS (as := [q_R x, q_I (Z (i + 1)), q_I (Z (i + 2)), q_I 1, q_R o]) (rest := []) (c1 := 16) (s1 := 96) (c2 := c - 16) (s2 := s - 96) dL_law_756 k_L_pin l_L_157 s_L_pin rfl rfl rfl rfl (Nat.le_of_ble_eq_true rfl) ⟨by decide, by decide⟩ (by omega) (by omega) (Nat.le_of_ble_eq_true rfl) (by decide) (w_pin hx ho hR h hk hB (c := 16) (s := 96) (by omega) (by omega) hp1_734 hp2_740 ⟨by decide, by decide⟩ (Or.inr rfl)) (fun ov K2 M2 C2 g => ?_) (fun E K2 M2 C2 g => by obtain ⟨-, -, -, g5, -⟩ := g; cases g5)
    obtain ⟨⟨g1, g2⟩, g3, g4, g5, g6⟩ := g
    obtain rfl := Sum.inl.inj g5
    rw [g3]
    have hx2 := xt_get g1 hx (by decide)
    have hm2 := xt_get g1 hm (by decide)
    have ho2 := xt_get g1 ho (by decide)
    refine lz_istore (ls2 := [some (q_R 0), some (q_R x), some (q_R m), some (q_R o), some (q_I i), some (q_I ((pinF M (Z (i + 1)) (Z (i + 2)) 1).2 50 41)), u6]) dL_law_759 (by decide) rfl ?_
    refine lz_aload_n dL_law_761 rfl ?_
    refine lz_aload_n dL_law_762 rfl ?_
    refine lz_iload dL_law_763 rfl ?_
    refine lz_iconst dL_law_765 ?_
    refine lz_iadd dL_law_766 ?_
    refine lz_sald dL_law_767 hn (by omega) (by omega) (fun hp1_767 => ?_)
    refine lz_aload_n dL_law_768 rfl ?_
    refine lz_iload dL_law_769 rfl ?_
    refine lz_iconst dL_law_771 ?_
    refine lz_iadd dL_law_772 ?_
    refine lz_sald dL_law_773 hn (by omega) (by omega) (fun hp2_773 => ?_)
    refine lz_aload_n dL_law_774 rfl ?_
    refine lz_iload dL_law_775 rfl ?_
    refine lz_iconst dL_law_777 ?_
    refine lz_iadd dL_law_778 ?_
    refine lz_sald dL_law_779 hn (by omega) (by omega) (fun hp3_779 => ?_)
    refine lz_if_eq (tgt := 787) dL_law_780 (by decide) hp3_779 (fun y => absurd y z3) (fun _ => ?_)
    refine lz_iconst dL_law_783 ?_
    refine lz_goto (tgt := 788) dL_law_784 (by decide) ?_
    refine lz_cV (as := [q_I (Z (i + 1)), q_I (Z (i + 2)), q_I 1]) (rest := []) dL_law_788 k_X11_pin l_L_160 i_X11_pin v_X11_pin hm2 rfl (by decide) ⟨_, _, rfl⟩ rfl rfl rfl (Nat.le_of_ble_eq_true rfl) ⟨by decide, by decide⟩ (Nat.le_of_ble_eq_true rfl) (by decide) (m_pin hm2 h.1.1  hp1_767 hp2_773 ⟨by decide, by decide⟩ (Or.inr rfl)) ?_
    refine lz_istore (ls2 := [some (q_R 0), some (q_R x), some (q_R m), some (q_R o), some (q_I i), some (q_I ((pinF M (Z (i + 1)) (Z (i + 2)) 1).2 50 41)), some (q_I (pinF M (Z (i + 1)) (Z (i + 2)) 1).1)]) dL_law_791 (by decide) rfl ?_
    refine lz_aload_n dL_law_793 rfl ?_
    refine lz_cV (as := []) (rest := []) dL_law_794 k_X11_thrown l_L_130 i_X11_thrown v_X11_thrown hm2 rfl (by decide) ⟨_, _, rfl⟩ rfl rfl rfl (Nat.le_of_ble_eq_true rfl) ⟨by decide, by decide⟩ (Nat.le_of_ble_eq_true rfl) (by decide) (m_thrown hm2) ?_
    refine lz_iload dL_law_797 rfl ?_
    refine lz_icmp_eq (tgt := 804) dL_law_799 (by decide) (iI_41 oc.1.1.1) rfl ?_
    refine lz_iload dL_law_804 rfl ?_
    refine lz_if_ne (tgt := 828) dL_law_806 (by decide) (iI_41 oc.1.1.1) (fun z9 => ?_) (fun z9 => ?_)
    · refine lz_goto (tgt := 2480) dL_law_828 (by decide) ?_
      exact kk _ _ _ _ _ ⟨hx2, hm2, ho2, g2, g4, oc.1⟩
    · refine lz_aload_n dL_law_809 rfl ?_
      refine lz_iconst dL_law_810 ?_
      refine lz_lald (by decide) dL_law_811 ho2 (by decide) (by decide) ?_
      refine lz_iload dL_law_812 rfl ?_
      refine lz_if_eq (tgt := 821) dL_law_814 (by decide) oc.2 (fun z8 => ?_) (fun z8 => ?_)
      · refine lz_lconst dL_law_821 rfl ?_
        refine lz_lcmp dL_law_822 ⟨by decide, by decide⟩ ((g6 z9).trans z8) ?_
        refine lz_if_eq (tgt := 828) dL_law_823 (by decide) q_zero (fun _ => ?_) (fun y => absurd rfl y)
        refine lz_goto (tgt := 2480) dL_law_828 (by decide) ?_
        exact kk _ _ _ _ _ ⟨hx2, hm2, ho2, g2, g4, oc.1⟩
      · have z7 := (bo_pin M (Z (i + 1)) (Z (i + 2)) 1).resolve_left z8
        refine lz_lconst dL_law_817 rfl ?_
        refine lz_goto (tgt := 822) dL_law_818 (by decide) ?_
        refine lz_lcmp dL_law_822 ⟨by decide, by decide⟩ ((g6 z9).trans z7) ?_
        refine lz_if_eq (tgt := 828) dL_law_823 (by decide) q_zero (fun _ => ?_) (fun y => absurd rfl y)
        refine lz_goto (tgt := 2480) dL_law_828 (by decide) ?_
        exact kk _ _ _ _ _ ⟨hx2, hm2, ho2, g2, g4, oc.1⟩
set_option maxRecDepth 20000 in
set_option maxHeartbeats 4000000 in
theorem lc_upload {l : Launch} {D : va_G} {B sb n : Nat} {Z : Int → Int} {K : q_K} {M C : q_S} {x m o : Nat} {i k : Int} {u5 u6 : Option q_V} {c s : Nat} (hn : n ≤ 2560) (hi : 0 ≤ i ∧ i + 5 ≤ (n : Int)) (hk : 0 ≤ k ∧ k < 512) (h0 : q_LI K M C x m o k) (hc : 16 ≤ c) (hs : 96 ≤ s)
    (kk : ∀ K2 M2 C2 w5 w6, q_LI K2 M2 C2 x m o (k + 1) → q_F l D B sb n Z 2480 [some (q_R 0), some (q_R x), some (q_R m), some (q_R o), some (q_I i), w5, w6] [] K2 M2 C2 (c - 16) (s - 96)) : q_F l D B sb n Z 831 [some (q_R 0), some (q_R x), some (q_R m), some (q_R o), some (q_I i), u5, u6] [] K M C c s := by
  obtain ⟨hx, hm, ho, hB, hR, h⟩ := h0
  have nb := nb_10 h.1.2.2.2.2 hk.2
  refine lz_aload_n dL_law_831 rfl ?_
  refine lz_aload_n dL_law_832 rfl ?_
  refine lz_iload dL_law_833 rfl ?_
  refine lz_iconst dL_law_835 ?_
  refine lz_iadd dL_law_836 ?_
  refine lz_sald dL_law_837 hn (by omega) (by omega) (fun hp1_837 => ?_)
  refine lz_aload_n dL_law_838 rfl ?_
  refine lz_iload dL_law_839 rfl ?_
  refine lz_iconst dL_law_841 ?_
  refine lz_iadd dL_law_842 ?_
  refine lz_sald dL_law_843 hn (by omega) (by omega) (fun hp2_843 => ?_)
  refine lz_aload_n dL_law_844 rfl ?_
  have oc := okc_upload h hk (Z (i + 1)) (Z (i + 2))
  refine lz_callS (as := [q_R x, q_I (Z (i + 1)), q_I (Z (i + 2)), q_R o]) (rest := []) (c1 := 16) (s1 := 96) (c2 := c - 16) (s2 := s - 96) dL_law_845 k_L_upload l_L_161 s_L_upload rfl rfl rfl rfl (Nat.le_of_ble_eq_true rfl) ⟨by decide, by decide⟩ (by omega) (by omega) (Nat.le_of_ble_eq_true rfl) (by decide) (w_upload hx ho hR h hk hB (c := 16) (s := 96) (by omega) (by omega) hp1_837 hp2_843) (fun ov K2 M2 C2 g => ?_) (fun E K2 M2 C2 g => by obtain ⟨-, -, -, g5, -⟩ := g; cases g5)
  obtain ⟨⟨g1, g2⟩, g3, g4, g5, g6⟩ := g
  obtain rfl := Sum.inl.inj g5
  rw [g3]
  have hx2 := xt_get g1 hx (by decide)
  have hm2 := xt_get g1 hm (by decide)
  have ho2 := xt_get g1 ho (by decide)
  refine lz_istore (ls2 := [some (q_R 0), some (q_R x), some (q_R m), some (q_R o), some (q_I i), some (q_I ((uploadF M (Z (i + 1)) (Z (i + 2))).2 50 41)), u6]) dL_law_848 (by decide) rfl ?_
  refine lz_aload_n dL_law_850 rfl ?_
  refine lz_aload_n dL_law_851 rfl ?_
  refine lz_iload dL_law_852 rfl ?_
  refine lz_iconst dL_law_854 ?_
  refine lz_iadd dL_law_855 ?_
  refine lz_sald dL_law_856 hn (by omega) (by omega) (fun hp1_856 => ?_)
  refine lz_aload_n dL_law_857 rfl ?_
  refine lz_iload dL_law_858 rfl ?_
  refine lz_iconst dL_law_860 ?_
  refine lz_iadd dL_law_861 ?_
  refine lz_sald dL_law_862 hn (by omega) (by omega) (fun hp2_862 => ?_)
  refine lz_cV (as := [q_I (Z (i + 1)), q_I (Z (i + 2))]) (rest := []) dL_law_863 k_X11_upload l_L_163 i_X11_upload v_X11_upload hm2 rfl (by decide) ⟨_, _, rfl⟩ rfl rfl rfl (Nat.le_of_ble_eq_true rfl) ⟨by decide, by decide⟩ (Nat.le_of_ble_eq_true rfl) (by decide) (m_upload hm2 h.1.1 h.1.2.1 hp1_856 hp2_862 (inv_upload h.1 h.2 hk _ _).2.2) ?_
  refine lz_istore (ls2 := [some (q_R 0), some (q_R x), some (q_R m), some (q_R o), some (q_I i), some (q_I ((uploadF M (Z (i + 1)) (Z (i + 2))).2 50 41)), some (q_I (uploadF M (Z (i + 1)) (Z (i + 2))).1)]) dL_law_866 (by decide) rfl ?_
  refine lz_aload_n dL_law_868 rfl ?_
  refine lz_cV (as := []) (rest := []) dL_law_869 k_X11_thrown l_L_130 i_X11_thrown v_X11_thrown hm2 rfl (by decide) ⟨_, _, rfl⟩ rfl rfl rfl (Nat.le_of_ble_eq_true rfl) ⟨by decide, by decide⟩ (Nat.le_of_ble_eq_true rfl) (by decide) (m_thrown hm2) ?_
  refine lz_iload dL_law_872 rfl ?_
  refine lz_icmp_eq (tgt := 879) dL_law_874 (by decide) (iI_41 oc.1.1.1) rfl ?_
  refine lz_iload dL_law_879 rfl ?_
  refine lz_if_ne (tgt := 896) dL_law_881 (by decide) (iI_41 oc.1.1.1) (fun z9 => ?_) (fun z9 => ?_)
  · refine lz_goto (tgt := 2480) dL_law_896 (by decide) ?_
    exact kk _ _ _ _ _ ⟨hx2, hm2, ho2, g2, g4, oc.1⟩
  · refine lz_aload_n dL_law_884 rfl ?_
    refine lz_iconst dL_law_885 ?_
    refine lz_lald (by decide) dL_law_886 ho2 (by decide) (by decide) ?_
    refine lz_iload dL_law_887 rfl ?_
    refine lz_i2l dL_law_889 oc.2 ?_
    refine lz_lcmp dL_law_890 (iL_I oc.2) (g6 z9) ?_
    refine lz_if_eq (tgt := 896) dL_law_891 (by decide) q_zero (fun _ => ?_) (fun y => absurd rfl y)
    refine lz_goto (tgt := 2480) dL_law_896 (by decide) ?_
    exact kk _ _ _ _ _ ⟨hx2, hm2, ho2, g2, g4, oc.1⟩
set_option maxRecDepth 20000 in
set_option maxHeartbeats 4000000 in
theorem lc_pull {l : Launch} {D : va_G} {B sb n : Nat} {Z : Int → Int} {K : q_K} {M C : q_S} {x m o : Nat} {i k : Int} {u5 u6 : Option q_V} {c s : Nat} (hn : n ≤ 2560) (hi : 0 ≤ i ∧ i + 5 ≤ (n : Int)) (hk : 0 ≤ k ∧ k < 512) (h0 : q_LI K M C x m o k) (hc : 16 ≤ c) (hs : 96 ≤ s)
    (kk : ∀ K2 M2 C2 w5 w6, q_LI K2 M2 C2 x m o (k + 1) → q_F l D B sb n Z 2480 [some (q_R 0), some (q_R x), some (q_R m), some (q_R o), some (q_I i), w5, w6] [] K2 M2 C2 (c - 16) (s - 96)) : q_F l D B sb n Z 899 [some (q_R 0), some (q_R x), some (q_R m), some (q_R o), some (q_I i), u5, u6] [] K M C c s := by
  obtain ⟨hx, hm, ho, hB, hR, h⟩ := h0
  have nb := nb_10 h.1.2.2.2.2 hk.2
  refine lz_aload_n dL_law_899 rfl ?_
  refine lz_aload_n dL_law_900 rfl ?_
  refine lz_iload dL_law_901 rfl ?_
  refine lz_iconst dL_law_903 ?_
  refine lz_iadd dL_law_904 ?_
  refine lz_sald dL_law_905 hn (by omega) (by omega) (fun hp1_905 => ?_)
  refine lz_aload_n dL_law_906 rfl ?_
  have oc := okc_pull h hk (Z (i + 1))
  refine lz_callS (as := [q_R x, q_I (Z (i + 1)), q_R o]) (rest := []) (c1 := 16) (s1 := 96) (c2 := c - 16) (s2 := s - 96) dL_law_907 k_L_pull l_L_164 s_L_pull rfl rfl rfl rfl (Nat.le_of_ble_eq_true rfl) ⟨by decide, by decide⟩ (by omega) (by omega) (Nat.le_of_ble_eq_true rfl) (by decide) (w_pull hx ho hR h hk hB (c := 16) (s := 96) (by omega) (by omega) hp1_905) (fun ov K2 M2 C2 g => ?_) (fun E K2 M2 C2 g => by obtain ⟨-, -, -, g5, -⟩ := g; cases g5)
  obtain ⟨⟨g1, g2⟩, g3, g4, g5, g6⟩ := g
  obtain rfl := Sum.inl.inj g5
  rw [g3]
  have hx2 := xt_get g1 hx (by decide)
  have hm2 := xt_get g1 hm (by decide)
  have ho2 := xt_get g1 ho (by decide)
  refine lz_istore (ls2 := [some (q_R 0), some (q_R x), some (q_R m), some (q_R o), some (q_I i), some (q_I ((pullF M (Z (i + 1))).2 50 41)), u6]) dL_law_910 (by decide) rfl ?_
  refine lz_aload_n dL_law_912 rfl ?_
  refine lz_aload_n dL_law_913 rfl ?_
  refine lz_iload dL_law_914 rfl ?_
  refine lz_iconst dL_law_916 ?_
  refine lz_iadd dL_law_917 ?_
  refine lz_sald dL_law_918 hn (by omega) (by omega) (fun hp1_918 => ?_)
  refine lz_cV (as := [q_I (Z (i + 1))]) (rest := []) dL_law_919 k_X11_pull l_L_166 i_X11_pull v_X11_pull hm2 rfl (by decide) ⟨_, _, rfl⟩ rfl rfl rfl (Nat.le_of_ble_eq_true rfl) ⟨by decide, by decide⟩ (Nat.le_of_ble_eq_true rfl) (by decide) (m_pull hm2 h.1.1  hp1_918 ) ?_
  refine lz_istore (ls2 := [some (q_R 0), some (q_R x), some (q_R m), some (q_R o), some (q_I i), some (q_I ((pullF M (Z (i + 1))).2 50 41)), some (q_I (pullF M (Z (i + 1))).1)]) dL_law_922 (by decide) rfl ?_
  refine lz_aload_n dL_law_924 rfl ?_
  refine lz_cV (as := []) (rest := []) dL_law_925 k_X11_thrown l_L_130 i_X11_thrown v_X11_thrown hm2 rfl (by decide) ⟨_, _, rfl⟩ rfl rfl rfl (Nat.le_of_ble_eq_true rfl) ⟨by decide, by decide⟩ (Nat.le_of_ble_eq_true rfl) (by decide) (m_thrown hm2) ?_
  refine lz_iload dL_law_928 rfl ?_
  refine lz_icmp_eq (tgt := 935) dL_law_930 (by decide) (iI_41 oc.1.1.1) rfl ?_
  refine lz_iload dL_law_935 rfl ?_
  refine lz_if_ne (tgt := 952) dL_law_937 (by decide) (iI_41 oc.1.1.1) (fun z9 => ?_) (fun z9 => ?_)
  · refine lz_goto (tgt := 2480) dL_law_952 (by decide) ?_
    exact kk _ _ _ _ _ ⟨hx2, hm2, ho2, g2, g4, oc.1⟩
  · refine lz_aload_n dL_law_940 rfl ?_
    refine lz_iconst dL_law_941 ?_
    refine lz_lald (by decide) dL_law_942 ho2 (by decide) (by decide) ?_
    refine lz_iload dL_law_943 rfl ?_
    refine lz_i2l dL_law_945 oc.2 ?_
    refine lz_lcmp dL_law_946 (iL_I oc.2) (g6 z9) ?_
    refine lz_if_eq (tgt := 952) dL_law_947 (by decide) q_zero (fun _ => ?_) (fun y => absurd rfl y)
    refine lz_goto (tgt := 2480) dL_law_952 (by decide) ?_
    exact kk _ _ _ _ _ ⟨hx2, hm2, ho2, g2, g4, oc.1⟩
set_option maxRecDepth 20000 in
set_option maxHeartbeats 4000000 in
theorem lc_open {l : Launch} {D : va_G} {B sb n : Nat} {Z : Int → Int} {K : q_K} {M C : q_S} {x m o : Nat} {i k : Int} {u5 u6 : Option q_V} {c s : Nat} (hn : n ≤ 2560) (hi : 0 ≤ i ∧ i + 5 ≤ (n : Int)) (hk : 0 ≤ k ∧ k < 512) (h0 : q_LI K M C x m o k) (hc : 16 ≤ c) (hs : 96 ≤ s)
    (kk : ∀ K2 M2 C2 w5 w6, q_LI K2 M2 C2 x m o (k + 1) → q_F l D B sb n Z 2480 [some (q_R 0), some (q_R x), some (q_R m), some (q_R o), some (q_I i), w5, w6] [] K2 M2 C2 (c - 16) (s - 96)) : q_F l D B sb n Z 955 [some (q_R 0), some (q_R x), some (q_R m), some (q_R o), some (q_I i), u5, u6] [] K M C c s := by
  obtain ⟨hx, hm, ho, hB, hR, h⟩ := h0
  have nb := nb_10 h.1.2.2.2.2 hk.2
  refine lz_aload_n dL_law_955 rfl ?_
  refine lz_aload_n dL_law_956 rfl ?_
  refine lz_iload dL_law_957 rfl ?_
  refine lz_iconst dL_law_959 ?_
  refine lz_iadd dL_law_960 ?_
  refine lz_sald dL_law_961 hn (by omega) (by omega) (fun hp1_961 => ?_)
  refine lz_aload_n dL_law_962 rfl ?_
  refine lz_iload dL_law_963 rfl ?_
  refine lz_iconst dL_law_965 ?_
  refine lz_iadd dL_law_966 ?_
  refine lz_sald dL_law_967 hn (by omega) (by omega) (fun hp2_967 => ?_)
  refine lz_aload_n dL_law_968 rfl ?_
  have oc := okc_open h hk (Z (i + 1)) (Z (i + 2))
  refine lz_callS (as := [q_R x, q_I (Z (i + 1)), q_I (Z (i + 2)), q_R o]) (rest := []) (c1 := 16) (s1 := 96) (c2 := c - 16) (s2 := s - 96) dL_law_969 k_L_open l_L_167 s_L_open rfl rfl rfl rfl (Nat.le_of_ble_eq_true rfl) ⟨by decide, by decide⟩ (by omega) (by omega) (Nat.le_of_ble_eq_true rfl) (by decide) (w_open hx ho hR h hk hB (c := 16) (s := 96) (by omega) (by omega) hp1_961 hp2_967) (fun ov K2 M2 C2 g => ?_) (fun E K2 M2 C2 g => by obtain ⟨-, -, -, g5, -⟩ := g; cases g5)
  obtain ⟨⟨g1, g2⟩, g3, g4, g5, g6⟩ := g
  obtain rfl := Sum.inl.inj g5
  rw [g3]
  have hx2 := xt_get g1 hx (by decide)
  have hm2 := xt_get g1 hm (by decide)
  have ho2 := xt_get g1 ho (by decide)
  refine lz_istore (ls2 := [some (q_R 0), some (q_R x), some (q_R m), some (q_R o), some (q_I i), some (q_I ((openF M (Z (i + 1)) (Z (i + 2))).2 50 41)), u6]) dL_law_972 (by decide) rfl ?_
  refine lz_aload_n dL_law_974 rfl ?_
  refine lz_aload_n dL_law_975 rfl ?_
  refine lz_iload dL_law_976 rfl ?_
  refine lz_iconst dL_law_978 ?_
  refine lz_iadd dL_law_979 ?_
  refine lz_sald dL_law_980 hn (by omega) (by omega) (fun hp1_980 => ?_)
  refine lz_aload_n dL_law_981 rfl ?_
  refine lz_iload dL_law_982 rfl ?_
  refine lz_iconst dL_law_984 ?_
  refine lz_iadd dL_law_985 ?_
  refine lz_sald dL_law_986 hn (by omega) (by omega) (fun hp2_986 => ?_)
  refine lz_cV (as := [q_I (Z (i + 1)), q_I (Z (i + 2))]) (rest := []) dL_law_987 k_X11_open l_L_169 i_X11_open v_X11_open hm2 rfl (by decide) ⟨_, _, rfl⟩ rfl rfl rfl (Nat.le_of_ble_eq_true rfl) ⟨by decide, by decide⟩ (Nat.le_of_ble_eq_true rfl) (by decide) (m_open hm2 h.1.1  hp1_980 hp2_986 (by have := nb.2.2; omega)) ?_
  refine lz_istore (ls2 := [some (q_R 0), some (q_R x), some (q_R m), some (q_R o), some (q_I i), some (q_I ((openF M (Z (i + 1)) (Z (i + 2))).2 50 41)), some (q_I (openF M (Z (i + 1)) (Z (i + 2))).1)]) dL_law_990 (by decide) rfl ?_
  refine lz_aload_n dL_law_992 rfl ?_
  refine lz_cV (as := []) (rest := []) dL_law_993 k_X11_thrown l_L_130 i_X11_thrown v_X11_thrown hm2 rfl (by decide) ⟨_, _, rfl⟩ rfl rfl rfl (Nat.le_of_ble_eq_true rfl) ⟨by decide, by decide⟩ (Nat.le_of_ble_eq_true rfl) (by decide) (m_thrown hm2) ?_
  refine lz_iload dL_law_996 rfl ?_
  refine lz_icmp_eq (tgt := 1003) dL_law_998 (by decide) (iI_41 oc.1.1.1) rfl ?_
  refine lz_iload dL_law_1003 rfl ?_
  refine lz_if_ne (tgt := 1020) dL_law_1005 (by decide) (iI_41 oc.1.1.1) (fun z9 => ?_) (fun z9 => ?_)
  · refine lz_goto (tgt := 2480) dL_law_1020 (by decide) ?_
    exact kk _ _ _ _ _ ⟨hx2, hm2, ho2, g2, g4, oc.1⟩
  · refine lz_aload_n dL_law_1008 rfl ?_
    refine lz_iconst dL_law_1009 ?_
    refine lz_lald (by decide) dL_law_1010 ho2 (by decide) (by decide) ?_
    refine lz_iload dL_law_1011 rfl ?_
    refine lz_i2l dL_law_1013 oc.2 ?_
    refine lz_lcmp dL_law_1014 (iL_I oc.2) (g6 z9) ?_
    refine lz_if_eq (tgt := 1020) dL_law_1015 (by decide) q_zero (fun _ => ?_) (fun y => absurd rfl y)
    refine lz_goto (tgt := 2480) dL_law_1020 (by decide) ?_
    exact kk _ _ _ _ _ ⟨hx2, hm2, ho2, g2, g4, oc.1⟩
set_option maxRecDepth 20000 in
set_option maxHeartbeats 4000000 in
theorem lc_lock {l : Launch} {D : va_G} {B sb n : Nat} {Z : Int → Int} {K : q_K} {M C : q_S} {x m o : Nat} {i k : Int} {u5 u6 : Option q_V} {c s : Nat} (hn : n ≤ 2560) (hi : 0 ≤ i ∧ i + 5 ≤ (n : Int)) (hk : 0 ≤ k ∧ k < 512) (h0 : q_LI K M C x m o k) (hc : 16 ≤ c) (hs : 96 ≤ s)
    (kk : ∀ K2 M2 C2 w5 w6, q_LI K2 M2 C2 x m o (k + 1) → q_F l D B sb n Z 2480 [some (q_R 0), some (q_R x), some (q_R m), some (q_R o), some (q_I i), w5, w6] [] K2 M2 C2 (c - 16) (s - 96)) : q_F l D B sb n Z 1023 [some (q_R 0), some (q_R x), some (q_R m), some (q_R o), some (q_I i), u5, u6] [] K M C c s := by
  obtain ⟨hx, hm, ho, hB, hR, h⟩ := h0
  have nb := nb_10 h.1.2.2.2.2 hk.2
  refine lz_aload_n dL_law_1023 rfl ?_
  refine lz_aload_n dL_law_1024 rfl ?_
  refine lz_iload dL_law_1025 rfl ?_
  refine lz_iconst dL_law_1027 ?_
  refine lz_iadd dL_law_1028 ?_
  refine lz_sald dL_law_1029 hn (by omega) (by omega) (fun hp1_1029 => ?_)
  refine lz_aload_n dL_law_1030 rfl ?_
  refine lz_iload dL_law_1031 rfl ?_
  refine lz_iconst dL_law_1033 ?_
  refine lz_iadd dL_law_1034 ?_
  refine lz_sald dL_law_1035 hn (by omega) (by omega) (fun hp2_1035 => ?_)
  refine lz_aload_n dL_law_1036 rfl ?_
  refine lz_iload dL_law_1037 rfl ?_
  refine lz_iconst dL_law_1039 ?_
  refine lz_iadd dL_law_1040 ?_
  refine lz_sald dL_law_1041 hn (by omega) (by omega) (fun hp3_1041 => ?_)
  refine lz_aload_n dL_law_1042 rfl ?_
  have oc := okc_lock h hk (Z (i + 1)) (Z (i + 2)) (Z (i + 3))
  refine lz_callS (as := [q_R x, q_I (Z (i + 1)), q_I (Z (i + 2)), q_I (Z (i + 3)), q_R o]) (rest := []) (c1 := 16) (s1 := 96) (c2 := c - 16) (s2 := s - 96) dL_law_1043 k_L_lock l_L_170 s_L_lock rfl rfl rfl rfl (Nat.le_of_ble_eq_true rfl) ⟨by decide, by decide⟩ (by omega) (by omega) (Nat.le_of_ble_eq_true rfl) (by decide) (w_lock hx ho hR h hk hB (c := 16) (s := 96) (by omega) (by omega) hp1_1029 hp2_1035 hp3_1041) (fun ov K2 M2 C2 g => ?_) (fun E K2 M2 C2 g => by obtain ⟨-, -, -, g5, -⟩ := g; cases g5)
  obtain ⟨⟨g1, g2⟩, g3, g4, g5, g6⟩ := g
  obtain rfl := Sum.inl.inj g5
  rw [g3]
  have hx2 := xt_get g1 hx (by decide)
  have hm2 := xt_get g1 hm (by decide)
  have ho2 := xt_get g1 ho (by decide)
  refine lz_istore (ls2 := [some (q_R 0), some (q_R x), some (q_R m), some (q_R o), some (q_I i), some (q_I ((lockMF M (Z (i + 1)) (Z (i + 2)) (Z (i + 3))).2 50 41)), u6]) dL_law_1046 (by decide) rfl ?_
  refine lz_aload_n dL_law_1048 rfl ?_
  refine lz_aload_n dL_law_1049 rfl ?_
  refine lz_iload dL_law_1050 rfl ?_
  refine lz_iconst dL_law_1052 ?_
  refine lz_iadd dL_law_1053 ?_
  refine lz_sald dL_law_1054 hn (by omega) (by omega) (fun hp1_1054 => ?_)
  refine lz_aload_n dL_law_1055 rfl ?_
  refine lz_iload dL_law_1056 rfl ?_
  refine lz_iconst dL_law_1058 ?_
  refine lz_iadd dL_law_1059 ?_
  refine lz_sald dL_law_1060 hn (by omega) (by omega) (fun hp2_1060 => ?_)
  refine lz_aload_n dL_law_1061 rfl ?_
  refine lz_iload dL_law_1062 rfl ?_
  refine lz_iconst dL_law_1064 ?_
  refine lz_iadd dL_law_1065 ?_
  refine lz_sald dL_law_1066 hn (by omega) (by omega) (fun hp3_1066 => ?_)
  refine lz_cV (as := [q_I (Z (i + 1)), q_I (Z (i + 2)), q_I (Z (i + 3))]) (rest := []) dL_law_1067 k_X11_lock l_L_172 i_X11_lock v_X11_lock hm2 rfl (by decide) ⟨_, _, rfl⟩ rfl rfl rfl (Nat.le_of_ble_eq_true rfl) ⟨by decide, by decide⟩ (Nat.le_of_ble_eq_true rfl) (by decide) (m_lock hm2 h.1.1  hp1_1054 hp2_1060 hp3_1066 ) ?_
  refine lz_istore (ls2 := [some (q_R 0), some (q_R x), some (q_R m), some (q_R o), some (q_I i), some (q_I ((lockMF M (Z (i + 1)) (Z (i + 2)) (Z (i + 3))).2 50 41)), some (q_I (lockMF M (Z (i + 1)) (Z (i + 2)) (Z (i + 3))).1)]) dL_law_1070 (by decide) rfl ?_
  refine lz_aload_n dL_law_1072 rfl ?_
  refine lz_cV (as := []) (rest := []) dL_law_1073 k_X11_thrown l_L_130 i_X11_thrown v_X11_thrown hm2 rfl (by decide) ⟨_, _, rfl⟩ rfl rfl rfl (Nat.le_of_ble_eq_true rfl) ⟨by decide, by decide⟩ (Nat.le_of_ble_eq_true rfl) (by decide) (m_thrown hm2) ?_
  refine lz_iload dL_law_1076 rfl ?_
  refine lz_icmp_eq (tgt := 1083) dL_law_1078 (by decide) (iI_41 oc.1.1.1) rfl ?_
  refine lz_iload dL_law_1083 rfl ?_
  refine lz_if_ne (tgt := 1100) dL_law_1085 (by decide) (iI_41 oc.1.1.1) (fun z9 => ?_) (fun z9 => ?_)
  · refine lz_goto (tgt := 2480) dL_law_1100 (by decide) ?_
    exact kk _ _ _ _ _ ⟨hx2, hm2, ho2, g2, g4, oc.1⟩
  · refine lz_aload_n dL_law_1088 rfl ?_
    refine lz_iconst dL_law_1089 ?_
    refine lz_lald (by decide) dL_law_1090 ho2 (by decide) (by decide) ?_
    refine lz_iload dL_law_1091 rfl ?_
    refine lz_i2l dL_law_1093 oc.2 ?_
    refine lz_lcmp dL_law_1094 (iL_I oc.2) (g6 z9) ?_
    refine lz_if_eq (tgt := 1100) dL_law_1095 (by decide) q_zero (fun _ => ?_) (fun y => absurd rfl y)
    refine lz_goto (tgt := 2480) dL_law_1100 (by decide) ?_
    exact kk _ _ _ _ _ ⟨hx2, hm2, ho2, g2, g4, oc.1⟩
set_option maxRecDepth 20000 in
set_option maxHeartbeats 4000000 in
theorem lc_breakLock {l : Launch} {D : va_G} {B sb n : Nat} {Z : Int → Int} {K : q_K} {M C : q_S} {x m o : Nat} {i k : Int} {u5 u6 : Option q_V} {c s : Nat} (hn : n ≤ 2560) (hi : 0 ≤ i ∧ i + 5 ≤ (n : Int)) (hk : 0 ≤ k ∧ k < 512) (h0 : q_LI K M C x m o k) (hc : 16 ≤ c) (hs : 96 ≤ s)
    (kk : ∀ K2 M2 C2 w5 w6, q_LI K2 M2 C2 x m o (k + 1) → q_F l D B sb n Z 2480 [some (q_R 0), some (q_R x), some (q_R m), some (q_R o), some (q_I i), w5, w6] [] K2 M2 C2 (c - 16) (s - 96)) : q_F l D B sb n Z 1103 [some (q_R 0), some (q_R x), some (q_R m), some (q_R o), some (q_I i), u5, u6] [] K M C c s := by
  obtain ⟨hx, hm, ho, hB, hR, h⟩ := h0
  have nb := nb_10 h.1.2.2.2.2 hk.2
  refine lz_aload_n dL_law_1103 rfl ?_
  refine lz_aload_n dL_law_1104 rfl ?_
  refine lz_iload dL_law_1105 rfl ?_
  refine lz_iconst dL_law_1107 ?_
  refine lz_iadd dL_law_1108 ?_
  refine lz_sald dL_law_1109 hn (by omega) (by omega) (fun hp1_1109 => ?_)
  refine lz_aload_n dL_law_1110 rfl ?_
  have oc := okc_breakLock h hk (Z (i + 1))
  refine lz_callS (as := [q_R x, q_I (Z (i + 1)), q_R o]) (rest := []) (c1 := 16) (s1 := 96) (c2 := c - 16) (s2 := s - 96) dL_law_1111 k_L_breakLock l_L_173 s_L_breakLock rfl rfl rfl rfl (Nat.le_of_ble_eq_true rfl) ⟨by decide, by decide⟩ (by omega) (by omega) (Nat.le_of_ble_eq_true rfl) (by decide) (w_breakLock hx ho hR h hk hB (c := 16) (s := 96) (by omega) (by omega) hp1_1109) (fun ov K2 M2 C2 g => ?_) (fun E K2 M2 C2 g => by obtain ⟨-, -, -, g5, -⟩ := g; cases g5)
  obtain ⟨⟨g1, g2⟩, g3, g4, g5, g6⟩ := g
  obtain rfl := Sum.inl.inj g5
  rw [g3]
  have hx2 := xt_get g1 hx (by decide)
  have hm2 := xt_get g1 hm (by decide)
  have ho2 := xt_get g1 ho (by decide)
  refine lz_istore (ls2 := [some (q_R 0), some (q_R x), some (q_R m), some (q_R o), some (q_I i), some (q_I ((breakF M (Z (i + 1))).2 50 41)), u6]) dL_law_1114 (by decide) rfl ?_
  refine lz_aload_n dL_law_1116 rfl ?_
  refine lz_aload_n dL_law_1117 rfl ?_
  refine lz_iload dL_law_1118 rfl ?_
  refine lz_iconst dL_law_1120 ?_
  refine lz_iadd dL_law_1121 ?_
  refine lz_sald dL_law_1122 hn (by omega) (by omega) (fun hp1_1122 => ?_)
  refine lz_cV (as := [q_I (Z (i + 1))]) (rest := []) dL_law_1123 k_X11_breakLock l_L_175 i_X11_breakLock v_X11_breakLock hm2 rfl (by decide) ⟨_, _, rfl⟩ rfl rfl rfl (Nat.le_of_ble_eq_true rfl) ⟨by decide, by decide⟩ (Nat.le_of_ble_eq_true rfl) (by decide) (m_breakLock hm2 h.1.1  hp1_1122 ) ?_
  refine lz_istore (ls2 := [some (q_R 0), some (q_R x), some (q_R m), some (q_R o), some (q_I i), some (q_I ((breakF M (Z (i + 1))).2 50 41)), some (q_I (breakF M (Z (i + 1))).1)]) dL_law_1126 (by decide) rfl ?_
  refine lz_aload_n dL_law_1128 rfl ?_
  refine lz_cV (as := []) (rest := []) dL_law_1129 k_X11_thrown l_L_130 i_X11_thrown v_X11_thrown hm2 rfl (by decide) ⟨_, _, rfl⟩ rfl rfl rfl (Nat.le_of_ble_eq_true rfl) ⟨by decide, by decide⟩ (Nat.le_of_ble_eq_true rfl) (by decide) (m_thrown hm2) ?_
  refine lz_iload dL_law_1132 rfl ?_
  refine lz_icmp_eq (tgt := 1139) dL_law_1134 (by decide) (iI_41 oc.1.1.1) rfl ?_
  refine lz_iload dL_law_1139 rfl ?_
  refine lz_if_ne (tgt := 1156) dL_law_1141 (by decide) (iI_41 oc.1.1.1) (fun z9 => ?_) (fun z9 => ?_)
  · refine lz_goto (tgt := 2480) dL_law_1156 (by decide) ?_
    exact kk _ _ _ _ _ ⟨hx2, hm2, ho2, g2, g4, oc.1⟩
  · refine lz_aload_n dL_law_1144 rfl ?_
    refine lz_iconst dL_law_1145 ?_
    refine lz_lald (by decide) dL_law_1146 ho2 (by decide) (by decide) ?_
    refine lz_iload dL_law_1147 rfl ?_
    refine lz_i2l dL_law_1149 oc.2 ?_
    refine lz_lcmp dL_law_1150 (iL_I oc.2) (g6 z9) ?_
    refine lz_if_eq (tgt := 1156) dL_law_1151 (by decide) q_zero (fun _ => ?_) (fun y => absurd rfl y)
    refine lz_goto (tgt := 2480) dL_law_1156 (by decide) ?_
    exact kk _ _ _ _ _ ⟨hx2, hm2, ho2, g2, g4, oc.1⟩
set_option maxRecDepth 20000 in
set_option maxHeartbeats 4000000 in
theorem lc_share {l : Launch} {D : va_G} {B sb n : Nat} {Z : Int → Int} {K : q_K} {M C : q_S} {x m o : Nat} {i k : Int} {u5 u6 : Option q_V} {c s : Nat} (hn : n ≤ 2560) (hi : 0 ≤ i ∧ i + 5 ≤ (n : Int)) (hk : 0 ≤ k ∧ k < 512) (h0 : q_LI K M C x m o k) (hc : 16 ≤ c) (hs : 96 ≤ s)
    (kk : ∀ K2 M2 C2 w5 w6, q_LI K2 M2 C2 x m o (k + 1) → q_F l D B sb n Z 2480 [some (q_R 0), some (q_R x), some (q_R m), some (q_R o), some (q_I i), w5, w6] [] K2 M2 C2 (c - 16) (s - 96)) : q_F l D B sb n Z 1159 [some (q_R 0), some (q_R x), some (q_R m), some (q_R o), some (q_I i), u5, u6] [] K M C c s := by
  obtain ⟨hx, hm, ho, hB, hR, h⟩ := h0
  have nb := nb_10 h.1.2.2.2.2 hk.2
  refine lz_aload_n dL_law_1159 rfl ?_
  refine lz_aload_n dL_law_1160 rfl ?_
  refine lz_iload dL_law_1161 rfl ?_
  refine lz_iconst dL_law_1163 ?_
  refine lz_iadd dL_law_1164 ?_
  refine lz_sald dL_law_1165 hn (by omega) (by omega) (fun hp1_1165 => ?_)
  refine lz_aload_n dL_law_1166 rfl ?_
  refine lz_iload dL_law_1167 rfl ?_
  refine lz_iconst dL_law_1169 ?_
  refine lz_iadd dL_law_1170 ?_
  refine lz_sald dL_law_1171 hn (by omega) (by omega) (fun hp2_1171 => ?_)
  refine lz_aload_n dL_law_1172 rfl ?_
  refine lz_iload dL_law_1173 rfl ?_
  refine lz_iconst dL_law_1175 ?_
  refine lz_iadd dL_law_1176 ?_
  refine lz_sald dL_law_1177 hn (by omega) (by omega) (fun hp3_1177 => ?_)
  refine lz_aload_n dL_law_1178 rfl ?_
  refine lz_iload dL_law_1179 rfl ?_
  refine lz_iconst dL_law_1181 ?_
  refine lz_iadd dL_law_1182 ?_
  refine lz_sald dL_law_1183 hn (by omega) (by omega) (fun hp4_1183 => ?_)
  have oc := okc_share h (Z (i + 1)) (Z (i + 2)) (Z (i + 3)) (Z (i + 4))
  refine lz_callS (as := [q_R x, q_I (Z (i + 1)), q_I (Z (i + 2)), q_I (Z (i + 3)), q_I (Z (i + 4))]) (rest := []) (c1 := 16) (s1 := 96) (c2 := c - 16) (s2 := s - 96) dL_law_1184 k_L_share l_L_176 s_L_share rfl rfl rfl rfl (Nat.le_of_ble_eq_true rfl) ⟨by decide, by decide⟩ (by omega) (by omega) (Nat.le_of_ble_eq_true rfl) (by decide) (w_share hx ho hR h hk hB (c := 16) (s := 96) (by omega) (by omega) hp1_1165 hp2_1171 hp3_1177 hp4_1183) (fun ov K2 M2 C2 g => ?_) (fun E K2 M2 C2 g => by obtain ⟨-, -, -, g5⟩ := g; cases g5)
  obtain ⟨⟨g1, g2⟩, g3, g4, g5⟩ := g
  obtain rfl := Sum.inl.inj g5
  rw [g3]
  have hx2 := xt_get g1 hx (by decide)
  have hm2 := xt_get g1 hm (by decide)
  have ho2 := xt_get g1 ho (by decide)
  refine lz_istore (ls2 := [some (q_R 0), some (q_R x), some (q_R m), some (q_R o), some (q_I i), some (q_I ((shareF M (Z (i + 1)) (Z (i + 2)) (Z (i + 3)) (Z (i + 4))) 50 41)), u6]) dL_law_1187 (by decide) rfl ?_
  refine lz_aload_n dL_law_1189 rfl ?_
  refine lz_aload_n dL_law_1190 rfl ?_
  refine lz_iload dL_law_1191 rfl ?_
  refine lz_iconst dL_law_1193 ?_
  refine lz_iadd dL_law_1194 ?_
  refine lz_sald dL_law_1195 hn (by omega) (by omega) (fun hp1_1195 => ?_)
  refine lz_aload_n dL_law_1196 rfl ?_
  refine lz_iload dL_law_1197 rfl ?_
  refine lz_iconst dL_law_1199 ?_
  refine lz_iadd dL_law_1200 ?_
  refine lz_sald dL_law_1201 hn (by omega) (by omega) (fun hp2_1201 => ?_)
  refine lz_aload_n dL_law_1202 rfl ?_
  refine lz_iload dL_law_1203 rfl ?_
  refine lz_iconst dL_law_1205 ?_
  refine lz_iadd dL_law_1206 ?_
  refine lz_sald dL_law_1207 hn (by omega) (by omega) (fun hp3_1207 => ?_)
  refine lz_aload_n dL_law_1208 rfl ?_
  refine lz_iload dL_law_1209 rfl ?_
  refine lz_iconst dL_law_1211 ?_
  refine lz_iadd dL_law_1212 ?_
  refine lz_sald dL_law_1213 hn (by omega) (by omega) (fun hp4_1213 => ?_)
  refine lz_cV (as := [q_I (Z (i + 1)), q_I (Z (i + 2)), q_I (Z (i + 3)), q_I (Z (i + 4))]) (rest := []) dL_law_1214 k_X11_share l_L_179 i_X11_share v_X11_share hm2 rfl (by decide) ⟨_, _, rfl⟩ rfl rfl rfl (Nat.le_of_ble_eq_true rfl) ⟨by decide, by decide⟩ (Nat.le_of_ble_eq_true rfl) (by decide) (m_share hm2 h.1.1  hp1_1195 hp2_1201 hp3_1207 hp4_1213 ) ?_
  refine lz_aload_n dL_law_1217 rfl ?_
  refine lz_cV (as := []) (rest := []) dL_law_1218 k_X11_thrown l_L_130 i_X11_thrown v_X11_thrown hm2 rfl (by decide) ⟨_, _, rfl⟩ rfl rfl rfl (Nat.le_of_ble_eq_true rfl) ⟨by decide, by decide⟩ (Nat.le_of_ble_eq_true rfl) (by decide) (m_thrown hm2) ?_
  refine lz_iload dL_law_1221 rfl ?_
  refine lz_icmp_eq (tgt := 1228) dL_law_1223 (by decide) (iI_41 oc.1.1) rfl ?_
  refine lz_goto (tgt := 2480) dL_law_1228 (by decide) ?_
  exact kk _ _ _ _ _ ⟨hx2, hm2, ho2, g2, g4, oc⟩
set_option maxRecDepth 20000 in
set_option maxHeartbeats 4000000 in
theorem lc_hold {l : Launch} {D : va_G} {B sb n : Nat} {Z : Int → Int} {K : q_K} {M C : q_S} {x m o : Nat} {i k : Int} {u5 u6 : Option q_V} {c s : Nat} (hn : n ≤ 2560) (hi : 0 ≤ i ∧ i + 5 ≤ (n : Int)) (hk : 0 ≤ k ∧ k < 512) (h0 : q_LI K M C x m o k) (hc : 16 ≤ c) (hs : 96 ≤ s)
    (kk : ∀ K2 M2 C2 w5 w6, q_LI K2 M2 C2 x m o (k + 1) → q_F l D B sb n Z 2480 [some (q_R 0), some (q_R x), some (q_R m), some (q_R o), some (q_I i), w5, w6] [] K2 M2 C2 (c - 16) (s - 96)) : q_F l D B sb n Z 1231 [some (q_R 0), some (q_R x), some (q_R m), some (q_R o), some (q_I i), u5, u6] [] K M C c s := by
  obtain ⟨hx, hm, ho, hB, hR, h⟩ := h0
  have nb := nb_10 h.1.2.2.2.2 hk.2
  refine lz_aload_n dL_law_1231 rfl ?_
  refine lz_aload_n dL_law_1232 rfl ?_
  refine lz_iload dL_law_1233 rfl ?_
  refine lz_iconst dL_law_1235 ?_
  refine lz_iadd dL_law_1236 ?_
  refine lz_sald dL_law_1237 hn (by omega) (by omega) (fun hp1_1237 => ?_)
  refine lz_aload_n dL_law_1238 rfl ?_
  refine lz_iload dL_law_1239 rfl ?_
  refine lz_iconst dL_law_1241 ?_
  refine lz_iadd dL_law_1242 ?_
  refine lz_sald dL_law_1243 hn (by omega) (by omega) (fun hp2_1243 => ?_)
  refine lz_aload_n dL_law_1244 rfl ?_
  refine lz_iload dL_law_1245 rfl ?_
  refine lz_iconst dL_law_1247 ?_
  refine lz_iadd dL_law_1248 ?_
  refine lz_sald dL_law_1249 hn (by omega) (by omega) (fun hp3_1249 => ?_)
  refine lz_aload_n dL_law_1250 rfl ?_
  have oc := okc_hold h hk (Z (i + 1)) (Z (i + 2)) (Z (i + 3))
  refine lz_callS (as := [q_R x, q_I (Z (i + 1)), q_I (Z (i + 2)), q_I (Z (i + 3)), q_R o]) (rest := []) (c1 := 16) (s1 := 96) (c2 := c - 16) (s2 := s - 96) dL_law_1251 k_L_hold l_L_180 s_L_hold rfl rfl rfl rfl (Nat.le_of_ble_eq_true rfl) ⟨by decide, by decide⟩ (by omega) (by omega) (Nat.le_of_ble_eq_true rfl) (by decide) (w_hold hx ho hR h hk hB (c := 16) (s := 96) (by omega) (by omega) hp1_1237 hp2_1243 hp3_1249) (fun ov K2 M2 C2 g => ?_) (fun E K2 M2 C2 g => by obtain ⟨-, -, -, g5, -⟩ := g; cases g5)
  obtain ⟨⟨g1, g2⟩, g3, g4, g5, g6⟩ := g
  obtain rfl := Sum.inl.inj g5
  rw [g3]
  have hx2 := xt_get g1 hx (by decide)
  have hm2 := xt_get g1 hm (by decide)
  have ho2 := xt_get g1 ho (by decide)
  refine lz_istore (ls2 := [some (q_R 0), some (q_R x), some (q_R m), some (q_R o), some (q_I i), some (q_I ((holdF M (Z (i + 1)) (Z (i + 2)) (Z (i + 3))).2 50 41)), u6]) dL_law_1254 (by decide) rfl ?_
  refine lz_aload_n dL_law_1256 rfl ?_
  refine lz_aload_n dL_law_1257 rfl ?_
  refine lz_iload dL_law_1258 rfl ?_
  refine lz_iconst dL_law_1260 ?_
  refine lz_iadd dL_law_1261 ?_
  refine lz_sald dL_law_1262 hn (by omega) (by omega) (fun hp1_1262 => ?_)
  refine lz_aload_n dL_law_1263 rfl ?_
  refine lz_iload dL_law_1264 rfl ?_
  refine lz_iconst dL_law_1266 ?_
  refine lz_iadd dL_law_1267 ?_
  refine lz_sald dL_law_1268 hn (by omega) (by omega) (fun hp2_1268 => ?_)
  refine lz_aload_n dL_law_1269 rfl ?_
  refine lz_iload dL_law_1270 rfl ?_
  refine lz_iconst dL_law_1272 ?_
  refine lz_iadd dL_law_1273 ?_
  refine lz_sald dL_law_1274 hn (by omega) (by omega) (fun hp3_1274 => ?_)
  refine lz_cV (as := [q_I (Z (i + 1)), q_I (Z (i + 2)), q_I (Z (i + 3))]) (rest := []) dL_law_1275 k_X11_hold l_L_182 i_X11_hold v_X11_hold hm2 rfl (by decide) ⟨_, _, rfl⟩ rfl rfl rfl (Nat.le_of_ble_eq_true rfl) ⟨by decide, by decide⟩ (Nat.le_of_ble_eq_true rfl) (by decide) (m_hold hm2 h.1.1  hp1_1262 hp2_1268 hp3_1274 ) ?_
  refine lz_istore (ls2 := [some (q_R 0), some (q_R x), some (q_R m), some (q_R o), some (q_I i), some (q_I ((holdF M (Z (i + 1)) (Z (i + 2)) (Z (i + 3))).2 50 41)), some (q_I (holdF M (Z (i + 1)) (Z (i + 2)) (Z (i + 3))).1)]) dL_law_1278 (by decide) rfl ?_
  refine lz_aload_n dL_law_1280 rfl ?_
  refine lz_cV (as := []) (rest := []) dL_law_1281 k_X11_thrown l_L_130 i_X11_thrown v_X11_thrown hm2 rfl (by decide) ⟨_, _, rfl⟩ rfl rfl rfl (Nat.le_of_ble_eq_true rfl) ⟨by decide, by decide⟩ (Nat.le_of_ble_eq_true rfl) (by decide) (m_thrown hm2) ?_
  refine lz_iload dL_law_1284 rfl ?_
  refine lz_icmp_eq (tgt := 1291) dL_law_1286 (by decide) (iI_41 oc.1.1.1) rfl ?_
  refine lz_iload dL_law_1291 rfl ?_
  refine lz_if_ne (tgt := 1308) dL_law_1293 (by decide) (iI_41 oc.1.1.1) (fun z9 => ?_) (fun z9 => ?_)
  · refine lz_goto (tgt := 2480) dL_law_1308 (by decide) ?_
    exact kk _ _ _ _ _ ⟨hx2, hm2, ho2, g2, g4, oc.1⟩
  · refine lz_aload_n dL_law_1296 rfl ?_
    refine lz_iconst dL_law_1297 ?_
    refine lz_lald (by decide) dL_law_1298 ho2 (by decide) (by decide) ?_
    refine lz_iload dL_law_1299 rfl ?_
    refine lz_i2l dL_law_1301 oc.2 ?_
    refine lz_lcmp dL_law_1302 (iL_I oc.2) (g6 z9) ?_
    refine lz_if_eq (tgt := 1308) dL_law_1303 (by decide) q_zero (fun _ => ?_) (fun y => absurd rfl y)
    refine lz_goto (tgt := 2480) dL_law_1308 (by decide) ?_
    exact kk _ _ _ _ _ ⟨hx2, hm2, ho2, g2, g4, oc.1⟩
set_option maxRecDepth 20000 in
set_option maxHeartbeats 4000000 in
theorem lc_release {l : Launch} {D : va_G} {B sb n : Nat} {Z : Int → Int} {K : q_K} {M C : q_S} {x m o : Nat} {i k : Int} {u5 u6 : Option q_V} {c s : Nat} (hn : n ≤ 2560) (hi : 0 ≤ i ∧ i + 5 ≤ (n : Int)) (hk : 0 ≤ k ∧ k < 512) (h0 : q_LI K M C x m o k) (hc : 16 ≤ c) (hs : 96 ≤ s)
    (kk : ∀ K2 M2 C2 w5 w6, q_LI K2 M2 C2 x m o (k + 1) → q_F l D B sb n Z 2480 [some (q_R 0), some (q_R x), some (q_R m), some (q_R o), some (q_I i), w5, w6] [] K2 M2 C2 (c - 16) (s - 96)) : q_F l D B sb n Z 1311 [some (q_R 0), some (q_R x), some (q_R m), some (q_R o), some (q_I i), u5, u6] [] K M C c s := by
  obtain ⟨hx, hm, ho, hB, hR, h⟩ := h0
  have nb := nb_10 h.1.2.2.2.2 hk.2
  refine lz_aload_n dL_law_1311 rfl ?_
  have oc := okc_release h hk
  have t0 := t0_release M
  refine lz_callV (as := []) (rest := []) (c1 := 1) (s1 := 6) (c2 := c - 16) (s2 := s - 96) dL_law_1312 k_X10_release l_L_183 i_X10_release v_X10_release hx rfl (by decide) ⟨_, _, rfl⟩ rfl rfl rfl rfl (Nat.le_of_ble_eq_true rfl) ⟨by decide, by decide⟩ (by omega) (by omega) (Nat.le_of_ble_eq_true rfl) (by decide) (c_10_release hx hR h.1.2.2.1 h.1.1 hB (c := 1) (s := 6) (by omega) (by omega)) (fun ov K2 M2 C2 g => ?_) (fun E K2 M2 C2 g => by
    obtain ⟨-, -, -, g5⟩ := g
    rcases g5 with g5 | g5 | g5 | g5
    · cases g5.2
    all_goals omega)
  obtain ⟨⟨g1, g2⟩, g3, g4, g5⟩ := g
  have g6 : ov = some (q_I (releaseF M).1) := by
    rcases g5 with g5 | g5 | g5 | g5
    · exact Sum.inl.inj g5.2
    all_goals (exact absurd g5.2 (by intro z; cases z))
  subst g6
  rw [g3]
  have hx2 := xt_get g1 hx (by decide)
  have hm2 := xt_get g1 hm (by decide)
  have ho2 := xt_get g1 ho (by decide)
  refine lz_aload_n dL_law_1315 rfl ?_
  refine lz_cV (as := []) (rest := [q_I (releaseF M).1]) dL_law_1316 k_X11_release l_L_186 i_X11_release v_X11_release hm2 rfl (by decide) ⟨_, _, rfl⟩ rfl rfl rfl (Nat.le_of_ble_eq_true rfl) ⟨by decide, by decide⟩ (Nat.le_of_ble_eq_true rfl) (by decide) (m_release hm2 h.1.1   ) ?_
  refine lz_icmp_eq (tgt := 2480) dL_law_1319 (by decide) oc.2 rfl ?_
  exact kk _ _ _ _ _ ⟨hx2, hm2, ho2, g2, g4, oc.1⟩
set_option maxRecDepth 20000 in
set_option maxHeartbeats 4000000 in
theorem lc_thin {l : Launch} {D : va_G} {B sb n : Nat} {Z : Int → Int} {K : q_K} {M C : q_S} {x m o : Nat} {i k : Int} {u5 u6 : Option q_V} {c s : Nat} (hn : n ≤ 2560) (hi : 0 ≤ i ∧ i + 5 ≤ (n : Int)) (hk : 0 ≤ k ∧ k < 512) (h0 : q_LI K M C x m o k) (hc : 16 ≤ c) (hs : 96 ≤ s)
    (kk : ∀ K2 M2 C2 w5 w6, q_LI K2 M2 C2 x m o (k + 1) → q_F l D B sb n Z 2480 [some (q_R 0), some (q_R x), some (q_R m), some (q_R o), some (q_I i), w5, w6] [] K2 M2 C2 (c - 16) (s - 96)) : q_F l D B sb n Z 1324 [some (q_R 0), some (q_R x), some (q_R m), some (q_R o), some (q_I i), u5, u6] [] K M C c s := by
  obtain ⟨hx, hm, ho, hB, hR, h⟩ := h0
  have nb := nb_10 h.1.2.2.2.2 hk.2
  refine lz_aload_n dL_law_1324 rfl ?_
  have oc := okc_thin h hk
  have t0 := t0_thin M
  refine lz_callV (as := []) (rest := []) (c1 := 1) (s1 := 6) (c2 := c - 16) (s2 := s - 96) dL_law_1325 k_X10_thin l_L_187 i_X10_thin v_X10_thin hx rfl (by decide) ⟨_, _, rfl⟩ rfl rfl rfl rfl (Nat.le_of_ble_eq_true rfl) ⟨by decide, by decide⟩ (by omega) (by omega) (Nat.le_of_ble_eq_true rfl) (by decide) (c_10_thin hx hR h.1.2.2.1 h.1.1 hB (c := 1) (s := 6) (by omega) (by omega)) (fun ov K2 M2 C2 g => ?_) (fun E K2 M2 C2 g => by
    obtain ⟨-, -, -, g5⟩ := g
    rcases g5 with g5 | g5 | g5 | g5
    · cases g5.2
    all_goals omega)
  obtain ⟨⟨g1, g2⟩, g3, g4, g5⟩ := g
  have g6 : ov = some (q_I (thinF M).1) := by
    rcases g5 with g5 | g5 | g5 | g5
    · exact Sum.inl.inj g5.2
    all_goals (exact absurd g5.2 (by intro z; cases z))
  subst g6
  rw [g3]
  have hx2 := xt_get g1 hx (by decide)
  have hm2 := xt_get g1 hm (by decide)
  have ho2 := xt_get g1 ho (by decide)
  refine lz_aload_n dL_law_1328 rfl ?_
  refine lz_cV (as := []) (rest := [q_I (thinF M).1]) dL_law_1329 k_X11_thin l_L_190 i_X11_thin v_X11_thin hm2 rfl (by decide) ⟨_, _, rfl⟩ rfl rfl rfl (Nat.le_of_ble_eq_true rfl) ⟨by decide, by decide⟩ (Nat.le_of_ble_eq_true rfl) (by decide) (m_thin hm2 h.1.1 h.1.2.1  ) ?_
  refine lz_icmp_eq (tgt := 2480) dL_law_1332 (by decide) oc.2 rfl ?_
  exact kk _ _ _ _ _ ⟨hx2, hm2, ho2, g2, g4, oc.1⟩
set_option maxRecDepth 20000 in
set_option maxHeartbeats 4000000 in
theorem lc_restore {l : Launch} {D : va_G} {B sb n : Nat} {Z : Int → Int} {K : q_K} {M C : q_S} {x m o : Nat} {i k : Int} {u5 u6 : Option q_V} {c s : Nat} (hn : n ≤ 2560) (hi : 0 ≤ i ∧ i + 5 ≤ (n : Int)) (hk : 0 ≤ k ∧ k < 512) (h0 : q_LI K M C x m o k) (hc : 16 ≤ c) (hs : 96 ≤ s)
    (kk : ∀ K2 M2 C2 w5 w6, q_LI K2 M2 C2 x m o (k + 1) → q_F l D B sb n Z 2480 [some (q_R 0), some (q_R x), some (q_R m), some (q_R o), some (q_I i), w5, w6] [] K2 M2 C2 (c - 16) (s - 96)) : q_F l D B sb n Z 1337 [some (q_R 0), some (q_R x), some (q_R m), some (q_R o), some (q_I i), u5, u6] [] K M C c s := by
  obtain ⟨hx, hm, ho, hB, hR, h⟩ := h0
  have nb := nb_10 h.1.2.2.2.2 hk.2
  refine lz_aload_n dL_law_1337 rfl ?_
  refine lz_aload_n dL_law_1338 rfl ?_
  refine lz_iload dL_law_1339 rfl ?_
  refine lz_iconst dL_law_1341 ?_
  refine lz_iadd dL_law_1342 ?_
  refine lz_sald dL_law_1343 hn (by omega) (by omega) (fun hp1_1343 => ?_)
  refine lz_aload_n dL_law_1344 rfl ?_
  refine lz_iload dL_law_1345 rfl ?_
  refine lz_iconst dL_law_1347 ?_
  refine lz_iadd dL_law_1348 ?_
  refine lz_sald dL_law_1349 hn (by omega) (by omega) (fun hp2_1349 => ?_)
  refine lz_aload_n dL_law_1350 rfl ?_
  have oc := okc_restore h hk (Z (i + 1)) (Z (i + 2))
  refine lz_callS (as := [q_R x, q_I (Z (i + 1)), q_I (Z (i + 2)), q_R o]) (rest := []) (c1 := 16) (s1 := 96) (c2 := c - 16) (s2 := s - 96) dL_law_1351 k_L_restore l_L_191 s_L_restore rfl rfl rfl rfl (Nat.le_of_ble_eq_true rfl) ⟨by decide, by decide⟩ (by omega) (by omega) (Nat.le_of_ble_eq_true rfl) (by decide) (w_restore hx ho hR h hk hB (c := 16) (s := 96) (by omega) (by omega) hp1_1343 hp2_1349) (fun ov K2 M2 C2 g => ?_) (fun E K2 M2 C2 g => by obtain ⟨-, -, -, g5, -⟩ := g; cases g5)
  obtain ⟨⟨g1, g2⟩, g3, g4, g5, g6⟩ := g
  obtain rfl := Sum.inl.inj g5
  rw [g3]
  have hx2 := xt_get g1 hx (by decide)
  have hm2 := xt_get g1 hm (by decide)
  have ho2 := xt_get g1 ho (by decide)
  refine lz_istore (ls2 := [some (q_R 0), some (q_R x), some (q_R m), some (q_R o), some (q_I i), some (q_I ((restoreF M (Z (i + 1)) (Z (i + 2))).2 50 41)), u6]) dL_law_1354 (by decide) rfl ?_
  refine lz_aload_n dL_law_1356 rfl ?_
  refine lz_aload_n dL_law_1357 rfl ?_
  refine lz_iload dL_law_1358 rfl ?_
  refine lz_iconst dL_law_1360 ?_
  refine lz_iadd dL_law_1361 ?_
  refine lz_sald dL_law_1362 hn (by omega) (by omega) (fun hp1_1362 => ?_)
  refine lz_aload_n dL_law_1363 rfl ?_
  refine lz_iload dL_law_1364 rfl ?_
  refine lz_iconst dL_law_1366 ?_
  refine lz_iadd dL_law_1367 ?_
  refine lz_sald dL_law_1368 hn (by omega) (by omega) (fun hp2_1368 => ?_)
  refine lz_cV (as := [q_I (Z (i + 1)), q_I (Z (i + 2))]) (rest := []) dL_law_1369 k_X11_restore l_L_193 i_X11_restore v_X11_restore hm2 rfl (by decide) ⟨_, _, rfl⟩ rfl rfl rfl (Nat.le_of_ble_eq_true rfl) ⟨by decide, by decide⟩ (Nat.le_of_ble_eq_true rfl) (by decide) (m_restore hm2 h.1.1  hp1_1362 hp2_1368 ) ?_
  refine lz_istore (ls2 := [some (q_R 0), some (q_R x), some (q_R m), some (q_R o), some (q_I i), some (q_I ((restoreF M (Z (i + 1)) (Z (i + 2))).2 50 41)), some (q_I (restoreF M (Z (i + 1)) (Z (i + 2))).1)]) dL_law_1372 (by decide) rfl ?_
  refine lz_aload_n dL_law_1374 rfl ?_
  refine lz_cV (as := []) (rest := []) dL_law_1375 k_X11_thrown l_L_130 i_X11_thrown v_X11_thrown hm2 rfl (by decide) ⟨_, _, rfl⟩ rfl rfl rfl (Nat.le_of_ble_eq_true rfl) ⟨by decide, by decide⟩ (Nat.le_of_ble_eq_true rfl) (by decide) (m_thrown hm2) ?_
  refine lz_iload dL_law_1378 rfl ?_
  refine lz_icmp_eq (tgt := 1385) dL_law_1380 (by decide) (iI_41 oc.1.1.1) rfl ?_
  refine lz_iload dL_law_1385 rfl ?_
  refine lz_if_ne (tgt := 1402) dL_law_1387 (by decide) (iI_41 oc.1.1.1) (fun z9 => ?_) (fun z9 => ?_)
  · refine lz_goto (tgt := 2480) dL_law_1402 (by decide) ?_
    exact kk _ _ _ _ _ ⟨hx2, hm2, ho2, g2, g4, oc.1⟩
  · refine lz_aload_n dL_law_1390 rfl ?_
    refine lz_iconst dL_law_1391 ?_
    refine lz_lald (by decide) dL_law_1392 ho2 (by decide) (by decide) ?_
    refine lz_iload dL_law_1393 rfl ?_
    refine lz_i2l dL_law_1395 oc.2 ?_
    refine lz_lcmp dL_law_1396 (iL_I oc.2) (g6 z9) ?_
    refine lz_if_eq (tgt := 1402) dL_law_1397 (by decide) q_zero (fun _ => ?_) (fun y => absurd rfl y)
    refine lz_goto (tgt := 2480) dL_law_1402 (by decide) ?_
    exact kk _ _ _ _ _ ⟨hx2, hm2, ho2, g2, g4, oc.1⟩
set_option maxRecDepth 20000 in
set_option maxHeartbeats 4000000 in
theorem lc_restoreFolder {l : Launch} {D : va_G} {B sb n : Nat} {Z : Int → Int} {K : q_K} {M C : q_S} {x m o : Nat} {i k : Int} {u5 u6 : Option q_V} {c s : Nat} (hn : n ≤ 2560) (hi : 0 ≤ i ∧ i + 5 ≤ (n : Int)) (hk : 0 ≤ k ∧ k < 512) (h0 : q_LI K M C x m o k) (hc : 16 ≤ c) (hs : 96 ≤ s)
    (kk : ∀ K2 M2 C2 w5 w6, q_LI K2 M2 C2 x m o (k + 1) → q_F l D B sb n Z 2480 [some (q_R 0), some (q_R x), some (q_R m), some (q_R o), some (q_I i), w5, w6] [] K2 M2 C2 (c - 16) (s - 96)) : q_F l D B sb n Z 1405 [some (q_R 0), some (q_R x), some (q_R m), some (q_R o), some (q_I i), u5, u6] [] K M C c s := by
  obtain ⟨hx, hm, ho, hB, hR, h⟩ := h0
  have nb := nb_10 h.1.2.2.2.2 hk.2
  refine lz_aload_n dL_law_1405 rfl ?_
  refine lz_aload_n dL_law_1406 rfl ?_
  refine lz_iload dL_law_1407 rfl ?_
  refine lz_iconst dL_law_1409 ?_
  refine lz_iadd dL_law_1410 ?_
  refine lz_sald dL_law_1411 hn (by omega) (by omega) (fun hp1_1411 => ?_)
  refine lz_aload_n dL_law_1412 rfl ?_
  refine lz_iload dL_law_1413 rfl ?_
  refine lz_iconst dL_law_1415 ?_
  refine lz_iadd dL_law_1416 ?_
  refine lz_sald dL_law_1417 hn (by omega) (by omega) (fun hp2_1417 => ?_)
  refine lz_aload_n dL_law_1418 rfl ?_
  have oc := okc_restoreFolder h hk (Z (i + 1)) (Z (i + 2))
  refine lz_callS (as := [q_R x, q_I (Z (i + 1)), q_I (Z (i + 2)), q_R o]) (rest := []) (c1 := 16) (s1 := 96) (c2 := c - 16) (s2 := s - 96) dL_law_1419 k_L_restoreFolder l_L_194 s_L_restoreFolder rfl rfl rfl rfl (Nat.le_of_ble_eq_true rfl) ⟨by decide, by decide⟩ (by omega) (by omega) (Nat.le_of_ble_eq_true rfl) (by decide) (w_restoreFolder hx ho hR h hk hB (c := 16) (s := 96) (by omega) (by omega) hp1_1411 hp2_1417) (fun ov K2 M2 C2 g => ?_) (fun E K2 M2 C2 g => by obtain ⟨-, -, -, g5, -⟩ := g; cases g5)
  obtain ⟨⟨g1, g2⟩, g3, g4, g5, g6⟩ := g
  obtain rfl := Sum.inl.inj g5
  rw [g3]
  have hx2 := xt_get g1 hx (by decide)
  have hm2 := xt_get g1 hm (by decide)
  have ho2 := xt_get g1 ho (by decide)
  refine lz_istore (ls2 := [some (q_R 0), some (q_R x), some (q_R m), some (q_R o), some (q_I i), some (q_I ((restoreFolderF M (Z (i + 1)) (Z (i + 2))).2 50 41)), u6]) dL_law_1422 (by decide) rfl ?_
  refine lz_aload_n dL_law_1424 rfl ?_
  refine lz_aload_n dL_law_1425 rfl ?_
  refine lz_iload dL_law_1426 rfl ?_
  refine lz_iconst dL_law_1428 ?_
  refine lz_iadd dL_law_1429 ?_
  refine lz_sald dL_law_1430 hn (by omega) (by omega) (fun hp1_1430 => ?_)
  refine lz_aload_n dL_law_1431 rfl ?_
  refine lz_iload dL_law_1432 rfl ?_
  refine lz_iconst dL_law_1434 ?_
  refine lz_iadd dL_law_1435 ?_
  refine lz_sald dL_law_1436 hn (by omega) (by omega) (fun hp2_1436 => ?_)
  refine lz_cV (as := [q_I (Z (i + 1)), q_I (Z (i + 2))]) (rest := []) dL_law_1437 k_X11_restoreFolder l_L_196 i_X11_restoreFolder v_X11_restoreFolder hm2 rfl (by decide) ⟨_, _, rfl⟩ rfl rfl rfl (Nat.le_of_ble_eq_true rfl) ⟨by decide, by decide⟩ (Nat.le_of_ble_eq_true rfl) (by decide) (m_restoreFolder hm2 h.1.1  hp1_1430 hp2_1436 ) ?_
  refine lz_istore (ls2 := [some (q_R 0), some (q_R x), some (q_R m), some (q_R o), some (q_I i), some (q_I ((restoreFolderF M (Z (i + 1)) (Z (i + 2))).2 50 41)), some (q_I (restoreFolderF M (Z (i + 1)) (Z (i + 2))).1)]) dL_law_1440 (by decide) rfl ?_
  refine lz_aload_n dL_law_1442 rfl ?_
  refine lz_cV (as := []) (rest := []) dL_law_1443 k_X11_thrown l_L_130 i_X11_thrown v_X11_thrown hm2 rfl (by decide) ⟨_, _, rfl⟩ rfl rfl rfl (Nat.le_of_ble_eq_true rfl) ⟨by decide, by decide⟩ (Nat.le_of_ble_eq_true rfl) (by decide) (m_thrown hm2) ?_
  refine lz_iload dL_law_1446 rfl ?_
  refine lz_icmp_eq (tgt := 1453) dL_law_1448 (by decide) (iI_41 oc.1.1.1) rfl ?_
  refine lz_iload dL_law_1453 rfl ?_
  refine lz_if_ne (tgt := 1470) dL_law_1455 (by decide) (iI_41 oc.1.1.1) (fun z9 => ?_) (fun z9 => ?_)
  · refine lz_goto (tgt := 2480) dL_law_1470 (by decide) ?_
    exact kk _ _ _ _ _ ⟨hx2, hm2, ho2, g2, g4, oc.1⟩
  · refine lz_aload_n dL_law_1458 rfl ?_
    refine lz_iconst dL_law_1459 ?_
    refine lz_lald (by decide) dL_law_1460 ho2 (by decide) (by decide) ?_
    refine lz_iload dL_law_1461 rfl ?_
    refine lz_i2l dL_law_1463 oc.2 ?_
    refine lz_lcmp dL_law_1464 (iL_I oc.2) (g6 z9) ?_
    refine lz_if_eq (tgt := 1470) dL_law_1465 (by decide) q_zero (fun _ => ?_) (fun y => absurd rfl y)
    refine lz_goto (tgt := 2480) dL_law_1470 (by decide) ?_
    exact kk _ _ _ _ _ ⟨hx2, hm2, ho2, g2, g4, oc.1⟩
set_option maxRecDepth 20000 in
set_option maxHeartbeats 4000000 in
theorem lc_damage {l : Launch} {D : va_G} {B sb n : Nat} {Z : Int → Int} {K : q_K} {M C : q_S} {x m o : Nat} {i k : Int} {u5 u6 : Option q_V} {c s : Nat} (hn : n ≤ 2560) (hi : 0 ≤ i ∧ i + 5 ≤ (n : Int)) (hk : 0 ≤ k ∧ k < 512) (h0 : q_LI K M C x m o k) (hc : 16 ≤ c) (hs : 96 ≤ s)
    (kk : ∀ K2 M2 C2 w5 w6, q_LI K2 M2 C2 x m o (k + 1) → q_F l D B sb n Z 2480 [some (q_R 0), some (q_R x), some (q_R m), some (q_R o), some (q_I i), w5, w6] [] K2 M2 C2 (c - 16) (s - 96)) : q_F l D B sb n Z 1473 [some (q_R 0), some (q_R x), some (q_R m), some (q_R o), some (q_I i), u5, u6] [] K M C c s := by
  obtain ⟨hx, hm, ho, hB, hR, h⟩ := h0
  have nb := nb_10 h.1.2.2.2.2 hk.2
  refine lz_aload_n dL_law_1473 rfl ?_
  refine lz_aload_n dL_law_1474 rfl ?_
  refine lz_iload dL_law_1475 rfl ?_
  refine lz_iconst dL_law_1477 ?_
  refine lz_iadd dL_law_1478 ?_
  refine lz_sald dL_law_1479 hn (by omega) (by omega) (fun hp1_1479 => ?_)
  refine lz_aload_n dL_law_1480 rfl ?_
  have oc := okc_damage h hk (Z (i + 1))
  refine lz_callS (as := [q_R x, q_I (Z (i + 1)), q_R o]) (rest := []) (c1 := 16) (s1 := 96) (c2 := c - 16) (s2 := s - 96) dL_law_1481 k_L_damage l_L_197 s_L_damage rfl rfl rfl rfl (Nat.le_of_ble_eq_true rfl) ⟨by decide, by decide⟩ (by omega) (by omega) (Nat.le_of_ble_eq_true rfl) (by decide) (w_damage hx ho hR h hk hB (c := 16) (s := 96) (by omega) (by omega) hp1_1479) (fun ov K2 M2 C2 g => ?_) (fun E K2 M2 C2 g => by obtain ⟨-, -, -, g5, -⟩ := g; cases g5)
  obtain ⟨⟨g1, g2⟩, g3, g4, g5, g6⟩ := g
  obtain rfl := Sum.inl.inj g5
  rw [g3]
  have hx2 := xt_get g1 hx (by decide)
  have hm2 := xt_get g1 hm (by decide)
  have ho2 := xt_get g1 ho (by decide)
  refine lz_istore (ls2 := [some (q_R 0), some (q_R x), some (q_R m), some (q_R o), some (q_I i), some (q_I ((damageF M (Z (i + 1))).2 50 41)), u6]) dL_law_1484 (by decide) rfl ?_
  refine lz_aload_n dL_law_1486 rfl ?_
  refine lz_aload_n dL_law_1487 rfl ?_
  refine lz_iload dL_law_1488 rfl ?_
  refine lz_iconst dL_law_1490 ?_
  refine lz_iadd dL_law_1491 ?_
  refine lz_sald dL_law_1492 hn (by omega) (by omega) (fun hp1_1492 => ?_)
  refine lz_cV (as := [q_I (Z (i + 1))]) (rest := []) dL_law_1493 k_X11_damage l_L_199 i_X11_damage v_X11_damage hm2 rfl (by decide) ⟨_, _, rfl⟩ rfl rfl rfl (Nat.le_of_ble_eq_true rfl) ⟨by decide, by decide⟩ (Nat.le_of_ble_eq_true rfl) (by decide) (m_damage hm2 h.1.1  hp1_1492 ) ?_
  refine lz_istore (ls2 := [some (q_R 0), some (q_R x), some (q_R m), some (q_R o), some (q_I i), some (q_I ((damageF M (Z (i + 1))).2 50 41)), some (q_I (damageF M (Z (i + 1))).1)]) dL_law_1496 (by decide) rfl ?_
  refine lz_aload_n dL_law_1498 rfl ?_
  refine lz_cV (as := []) (rest := []) dL_law_1499 k_X11_thrown l_L_130 i_X11_thrown v_X11_thrown hm2 rfl (by decide) ⟨_, _, rfl⟩ rfl rfl rfl (Nat.le_of_ble_eq_true rfl) ⟨by decide, by decide⟩ (Nat.le_of_ble_eq_true rfl) (by decide) (m_thrown hm2) ?_
  refine lz_iload dL_law_1502 rfl ?_
  refine lz_icmp_eq (tgt := 1509) dL_law_1504 (by decide) (iI_41 oc.1.1.1) rfl ?_
  refine lz_iload dL_law_1509 rfl ?_
  refine lz_if_ne (tgt := 1526) dL_law_1511 (by decide) (iI_41 oc.1.1.1) (fun z9 => ?_) (fun z9 => ?_)
  · refine lz_goto (tgt := 2480) dL_law_1526 (by decide) ?_
    exact kk _ _ _ _ _ ⟨hx2, hm2, ho2, g2, g4, oc.1⟩
  · refine lz_aload_n dL_law_1514 rfl ?_
    refine lz_iconst dL_law_1515 ?_
    refine lz_lald (by decide) dL_law_1516 ho2 (by decide) (by decide) ?_
    refine lz_iload dL_law_1517 rfl ?_
    refine lz_i2l dL_law_1519 oc.2 ?_
    refine lz_lcmp dL_law_1520 (iL_I oc.2) (g6 z9) ?_
    refine lz_if_eq (tgt := 1526) dL_law_1521 (by decide) q_zero (fun _ => ?_) (fun y => absurd rfl y)
    refine lz_goto (tgt := 2480) dL_law_1526 (by decide) ?_
    exact kk _ _ _ _ _ ⟨hx2, hm2, ho2, g2, g4, oc.1⟩
set_option maxRecDepth 20000 in
set_option maxHeartbeats 4000000 in
theorem lc_scrub {l : Launch} {D : va_G} {B sb n : Nat} {Z : Int → Int} {K : q_K} {M C : q_S} {x m o : Nat} {i k : Int} {u5 u6 : Option q_V} {c s : Nat} (hn : n ≤ 2560) (hi : 0 ≤ i ∧ i + 5 ≤ (n : Int)) (hk : 0 ≤ k ∧ k < 512) (h0 : q_LI K M C x m o k) (hc : 16 ≤ c) (hs : 96 ≤ s)
    (kk : ∀ K2 M2 C2 w5 w6, q_LI K2 M2 C2 x m o (k + 1) → q_F l D B sb n Z 2480 [some (q_R 0), some (q_R x), some (q_R m), some (q_R o), some (q_I i), w5, w6] [] K2 M2 C2 (c - 16) (s - 96)) : q_F l D B sb n Z 1529 [some (q_R 0), some (q_R x), some (q_R m), some (q_R o), some (q_I i), u5, u6] [] K M C c s := by
  obtain ⟨hx, hm, ho, hB, hR, h⟩ := h0
  have nb := nb_10 h.1.2.2.2.2 hk.2
  refine lz_aload_n dL_law_1529 rfl ?_
  have oc := okc_scrub h hk
  have t0 := t0_scrub M
  refine lz_callV (as := []) (rest := []) (c1 := 1) (s1 := 6) (c2 := c - 16) (s2 := s - 96) dL_law_1530 k_X10_scrub l_L_200 i_X10_scrub v_X10_scrub hx rfl (by decide) ⟨_, _, rfl⟩ rfl rfl rfl rfl (Nat.le_of_ble_eq_true rfl) ⟨by decide, by decide⟩ (by omega) (by omega) (Nat.le_of_ble_eq_true rfl) (by decide) (c_10_scrub hx hR h.1.2.2.1 h.1.1 hB (c := 1) (s := 6) (by omega) (by omega)) (fun ov K2 M2 C2 g => ?_) (fun E K2 M2 C2 g => by
    obtain ⟨-, -, -, g5⟩ := g
    rcases g5 with g5 | g5 | g5 | g5
    · cases g5.2
    all_goals omega)
  obtain ⟨⟨g1, g2⟩, g3, g4, g5⟩ := g
  have g6 : ov = some (q_I (scrubF M).1) := by
    rcases g5 with g5 | g5 | g5 | g5
    · exact Sum.inl.inj g5.2
    all_goals (exact absurd g5.2 (by intro z; cases z))
  subst g6
  rw [g3]
  have hx2 := xt_get g1 hx (by decide)
  have hm2 := xt_get g1 hm (by decide)
  have ho2 := xt_get g1 ho (by decide)
  refine lz_aload_n dL_law_1533 rfl ?_
  refine lz_cV (as := []) (rest := [q_I (scrubF M).1]) dL_law_1534 k_X11_scrub l_L_203 i_X11_scrub v_X11_scrub hm2 rfl (by decide) ⟨_, _, rfl⟩ rfl rfl rfl (Nat.le_of_ble_eq_true rfl) ⟨by decide, by decide⟩ (Nat.le_of_ble_eq_true rfl) (by decide) (m_scrub hm2 h.1.1   ) ?_
  refine lz_icmp_eq (tgt := 2480) dL_law_1537 (by decide) oc.2 rfl ?_
  exact kk _ _ _ _ _ ⟨hx2, hm2, ho2, g2, g4, oc.1⟩
set_option maxRecDepth 20000 in
set_option maxHeartbeats 4000000 in
theorem lc_follow {l : Launch} {D : va_G} {B sb n : Nat} {Z : Int → Int} {K : q_K} {M C : q_S} {x m o : Nat} {i k : Int} {u5 u6 : Option q_V} {c s : Nat} (hn : n ≤ 2560) (hi : 0 ≤ i ∧ i + 5 ≤ (n : Int)) (hk : 0 ≤ k ∧ k < 512) (h0 : q_LI K M C x m o k) (hc : 16 ≤ c) (hs : 96 ≤ s)
    (kk : ∀ K2 M2 C2 w5 w6, q_LI K2 M2 C2 x m o (k + 1) → q_F l D B sb n Z 2480 [some (q_R 0), some (q_R x), some (q_R m), some (q_R o), some (q_I i), w5, w6] [] K2 M2 C2 (c - 16) (s - 96)) : q_F l D B sb n Z 1542 [some (q_R 0), some (q_R x), some (q_R m), some (q_R o), some (q_I i), u5, u6] [] K M C c s := by
  obtain ⟨hx, hm, ho, hB, hR, h⟩ := h0
  have nb := nb_10 h.1.2.2.2.2 hk.2
  refine lz_aload_n dL_law_1542 rfl ?_
  refine lz_aload_n dL_law_1543 rfl ?_
  refine lz_iload dL_law_1544 rfl ?_
  refine lz_iconst dL_law_1546 ?_
  refine lz_iadd dL_law_1547 ?_
  refine lz_sald dL_law_1548 hn (by omega) (by omega) (fun hp1_1548 => ?_)
  refine lz_aload_n dL_law_1549 rfl ?_
  have oc := okc_follow h hk (Z (i + 1))
  refine lz_callS (as := [q_R x, q_I (Z (i + 1)), q_R o]) (rest := []) (c1 := 16) (s1 := 96) (c2 := c - 16) (s2 := s - 96) dL_law_1550 k_L_follow l_L_204 s_L_follow rfl rfl rfl rfl (Nat.le_of_ble_eq_true rfl) ⟨by decide, by decide⟩ (by omega) (by omega) (Nat.le_of_ble_eq_true rfl) (by decide) (w_follow hx ho hR h hk hB (c := 16) (s := 96) (by omega) (by omega) hp1_1548) (fun ov K2 M2 C2 g => ?_) (fun E K2 M2 C2 g => by obtain ⟨-, -, -, g5, -⟩ := g; cases g5)
  obtain ⟨⟨g1, g2⟩, g3, g4, g5, g6⟩ := g
  obtain rfl := Sum.inl.inj g5
  rw [g3]
  have hx2 := xt_get g1 hx (by decide)
  have hm2 := xt_get g1 hm (by decide)
  have ho2 := xt_get g1 ho (by decide)
  refine lz_istore (ls2 := [some (q_R 0), some (q_R x), some (q_R m), some (q_R o), some (q_I i), some (q_I ((followF M (Z (i + 1))).2 50 41)), u6]) dL_law_1553 (by decide) rfl ?_
  refine lz_aload_n dL_law_1555 rfl ?_
  refine lz_aload_n dL_law_1556 rfl ?_
  refine lz_iload dL_law_1557 rfl ?_
  refine lz_iconst dL_law_1559 ?_
  refine lz_iadd dL_law_1560 ?_
  refine lz_sald dL_law_1561 hn (by omega) (by omega) (fun hp1_1561 => ?_)
  refine lz_cV (as := [q_I (Z (i + 1))]) (rest := []) dL_law_1562 k_X11_follow l_L_206 i_X11_follow v_X11_follow hm2 rfl (by decide) ⟨_, _, rfl⟩ rfl rfl rfl (Nat.le_of_ble_eq_true rfl) ⟨by decide, by decide⟩ (Nat.le_of_ble_eq_true rfl) (by decide) (m_follow hm2 h.1.1  hp1_1561 ) ?_
  refine lz_istore (ls2 := [some (q_R 0), some (q_R x), some (q_R m), some (q_R o), some (q_I i), some (q_I ((followF M (Z (i + 1))).2 50 41)), some (q_I (followF M (Z (i + 1))).1)]) dL_law_1565 (by decide) rfl ?_
  refine lz_aload_n dL_law_1567 rfl ?_
  refine lz_cV (as := []) (rest := []) dL_law_1568 k_X11_thrown l_L_130 i_X11_thrown v_X11_thrown hm2 rfl (by decide) ⟨_, _, rfl⟩ rfl rfl rfl (Nat.le_of_ble_eq_true rfl) ⟨by decide, by decide⟩ (Nat.le_of_ble_eq_true rfl) (by decide) (m_thrown hm2) ?_
  refine lz_iload dL_law_1571 rfl ?_
  refine lz_icmp_eq (tgt := 1578) dL_law_1573 (by decide) (iI_41 oc.1.1.1) rfl ?_
  refine lz_iload dL_law_1578 rfl ?_
  refine lz_if_ne (tgt := 1595) dL_law_1580 (by decide) (iI_41 oc.1.1.1) (fun z9 => ?_) (fun z9 => ?_)
  · refine lz_goto (tgt := 2480) dL_law_1595 (by decide) ?_
    exact kk _ _ _ _ _ ⟨hx2, hm2, ho2, g2, g4, oc.1⟩
  · refine lz_aload_n dL_law_1583 rfl ?_
    refine lz_iconst dL_law_1584 ?_
    refine lz_lald (by decide) dL_law_1585 ho2 (by decide) (by decide) ?_
    refine lz_iload dL_law_1586 rfl ?_
    refine lz_i2l dL_law_1588 oc.2 ?_
    refine lz_lcmp dL_law_1589 (iL_I oc.2) (g6 z9) ?_
    refine lz_if_eq (tgt := 1595) dL_law_1590 (by decide) q_zero (fun _ => ?_) (fun y => absurd rfl y)
    refine lz_goto (tgt := 2480) dL_law_1595 (by decide) ?_
    exact kk _ _ _ _ _ ⟨hx2, hm2, ho2, g2, g4, oc.1⟩
set_option maxRecDepth 20000 in
set_option maxHeartbeats 4000000 in
theorem lc_pass {l : Launch} {D : va_G} {B sb n : Nat} {Z : Int → Int} {K : q_K} {M C : q_S} {x m o : Nat} {i k : Int} {u5 u6 : Option q_V} {c s : Nat} (hn : n ≤ 2560) (hi : 0 ≤ i ∧ i + 5 ≤ (n : Int)) (hk : 0 ≤ k ∧ k < 512) (h0 : q_LI K M C x m o k) (hc : 16 ≤ c) (hs : 96 ≤ s)
    (kk : ∀ K2 M2 C2 w5 w6, q_LI K2 M2 C2 x m o (k + 1) → q_F l D B sb n Z 2480 [some (q_R 0), some (q_R x), some (q_R m), some (q_R o), some (q_I i), w5, w6] [] K2 M2 C2 (c - 16) (s - 96)) : q_F l D B sb n Z 1598 [some (q_R 0), some (q_R x), some (q_R m), some (q_R o), some (q_I i), u5, u6] [] K M C c s := by
  obtain ⟨hx, hm, ho, hB, hR, h⟩ := h0
  have nb := nb_10 h.1.2.2.2.2 hk.2
  refine lz_aload_n dL_law_1598 rfl ?_
  refine lz_aload_n dL_law_1599 rfl ?_
  refine lz_iload dL_law_1600 rfl ?_
  refine lz_iconst dL_law_1602 ?_
  refine lz_iadd dL_law_1603 ?_
  refine lz_sald dL_law_1604 hn (by omega) (by omega) (fun hp1_1604 => ?_)
  refine lz_aload_n dL_law_1605 rfl ?_
  have oc := okc_pass h hk (Z (i + 1))
  refine lz_callS (as := [q_R x, q_I (Z (i + 1)), q_R o]) (rest := []) (c1 := 16) (s1 := 96) (c2 := c - 16) (s2 := s - 96) dL_law_1606 k_L_pass l_L_207 s_L_pass rfl rfl rfl rfl (Nat.le_of_ble_eq_true rfl) ⟨by decide, by decide⟩ (by omega) (by omega) (Nat.le_of_ble_eq_true rfl) (by decide) (w_pass hx ho hR h hk hB (c := 16) (s := 96) (by omega) (by omega) hp1_1604) (fun ov K2 M2 C2 g => ?_) (fun E K2 M2 C2 g => by obtain ⟨-, -, -, g5, -⟩ := g; cases g5)
  obtain ⟨⟨g1, g2⟩, g3, g4, g5, g6⟩ := g
  obtain rfl := Sum.inl.inj g5
  rw [g3]
  have hx2 := xt_get g1 hx (by decide)
  have hm2 := xt_get g1 hm (by decide)
  have ho2 := xt_get g1 ho (by decide)
  refine lz_istore (ls2 := [some (q_R 0), some (q_R x), some (q_R m), some (q_R o), some (q_I i), some (q_I ((passF M (Z (i + 1))).2 50 41)), u6]) dL_law_1609 (by decide) rfl ?_
  refine lz_aload_n dL_law_1611 rfl ?_
  refine lz_aload_n dL_law_1612 rfl ?_
  refine lz_iload dL_law_1613 rfl ?_
  refine lz_iconst dL_law_1615 ?_
  refine lz_iadd dL_law_1616 ?_
  refine lz_sald dL_law_1617 hn (by omega) (by omega) (fun hp1_1617 => ?_)
  refine lz_cV (as := [q_I (Z (i + 1))]) (rest := []) dL_law_1618 k_X11_pass l_L_209 i_X11_pass v_X11_pass hm2 rfl (by decide) ⟨_, _, rfl⟩ rfl rfl rfl (Nat.le_of_ble_eq_true rfl) ⟨by decide, by decide⟩ (Nat.le_of_ble_eq_true rfl) (by decide) (m_pass hm2 h.1.1  hp1_1617 (by have := nb.1; omega)) ?_
  refine lz_istore (ls2 := [some (q_R 0), some (q_R x), some (q_R m), some (q_R o), some (q_I i), some (q_I ((passF M (Z (i + 1))).2 50 41)), some (q_I (passF M (Z (i + 1))).1)]) dL_law_1621 (by decide) rfl ?_
  refine lz_aload_n dL_law_1623 rfl ?_
  refine lz_cV (as := []) (rest := []) dL_law_1624 k_X11_thrown l_L_130 i_X11_thrown v_X11_thrown hm2 rfl (by decide) ⟨_, _, rfl⟩ rfl rfl rfl (Nat.le_of_ble_eq_true rfl) ⟨by decide, by decide⟩ (Nat.le_of_ble_eq_true rfl) (by decide) (m_thrown hm2) ?_
  refine lz_iload dL_law_1627 rfl ?_
  refine lz_icmp_eq (tgt := 1634) dL_law_1629 (by decide) (iI_41 oc.1.1.1) rfl ?_
  refine lz_iload dL_law_1634 rfl ?_
  refine lz_if_ne (tgt := 1651) dL_law_1636 (by decide) (iI_41 oc.1.1.1) (fun z9 => ?_) (fun z9 => ?_)
  · refine lz_goto (tgt := 2480) dL_law_1651 (by decide) ?_
    exact kk _ _ _ _ _ ⟨hx2, hm2, ho2, g2, g4, oc.1⟩
  · refine lz_aload_n dL_law_1639 rfl ?_
    refine lz_iconst dL_law_1640 ?_
    refine lz_lald (by decide) dL_law_1641 ho2 (by decide) (by decide) ?_
    refine lz_iload dL_law_1642 rfl ?_
    refine lz_i2l dL_law_1644 oc.2 ?_
    refine lz_lcmp dL_law_1645 (iL_I oc.2) (g6 z9) ?_
    refine lz_if_eq (tgt := 1651) dL_law_1646 (by decide) q_zero (fun _ => ?_) (fun y => absurd rfl y)
    refine lz_goto (tgt := 2480) dL_law_1651 (by decide) ?_
    exact kk _ _ _ _ _ ⟨hx2, hm2, ho2, g2, g4, oc.1⟩
set_option maxRecDepth 20000 in
set_option maxHeartbeats 4000000 in
theorem lc_time {l : Launch} {D : va_G} {B sb n : Nat} {Z : Int → Int} {K : q_K} {M C : q_S} {x m o : Nat} {i k : Int} {u5 u6 : Option q_V} {c s : Nat} (hn : n ≤ 2560) (hi : 0 ≤ i ∧ i + 5 ≤ (n : Int)) (hk : 0 ≤ k ∧ k < 512) (h0 : q_LI K M C x m o k) (hc : 16 ≤ c) (hs : 96 ≤ s)
    (kk : ∀ K2 M2 C2 w5 w6, q_LI K2 M2 C2 x m o (k + 1) → q_F l D B sb n Z 2480 [some (q_R 0), some (q_R x), some (q_R m), some (q_R o), some (q_I i), w5, w6] [] K2 M2 C2 (c - 16) (s - 96)) : q_F l D B sb n Z 1654 [some (q_R 0), some (q_R x), some (q_R m), some (q_R o), some (q_I i), u5, u6] [] K M C c s := by
  obtain ⟨hx, hm, ho, hB, hR, h⟩ := h0
  have nb := nb_10 h.1.2.2.2.2 hk.2
  refine lz_aload_n dL_law_1654 rfl ?_
  have oc := okc_time h
  have t0 := t0_time M
  refine lz_callV (as := []) (rest := []) (c1 := 1) (s1 := 6) (c2 := c - 16) (s2 := s - 96) dL_law_1655 k_X10_time l_L_210 i_X10_time v_X10_time hx rfl (by decide) ⟨_, _, rfl⟩ rfl rfl rfl rfl (Nat.le_of_ble_eq_true rfl) ⟨by decide, by decide⟩ (by omega) (by omega) (Nat.le_of_ble_eq_true rfl) (by decide) (c_10_time hx hR h.1.2.2.1 h.1.1 hB (c := 1) (s := 6) (by omega) (by omega)) (fun ov K2 M2 C2 g => ?_) (fun E K2 M2 C2 g => by
    obtain ⟨-, -, -, g5⟩ := g
    rcases g5 with g5 | g5 | g5 | g5
    · cases g5.2
    all_goals omega)
  obtain ⟨⟨g1, g2⟩, g3, g4, g5⟩ := g
  have g6 : ov = some (q_I (timeF M).1) := by
    rcases g5 with g5 | g5 | g5 | g5
    · exact Sum.inl.inj g5.2
    all_goals (exact absurd g5.2 (by intro z; cases z))
  subst g6
  rw [g3]
  have hx2 := xt_get g1 hx (by decide)
  have hm2 := xt_get g1 hm (by decide)
  have ho2 := xt_get g1 ho (by decide)
  refine lz_aload_n dL_law_1658 rfl ?_
  refine lz_cV (as := []) (rest := [q_I (timeF M).1]) dL_law_1659 k_X11_time l_L_213 i_X11_time v_X11_time hm2 rfl (by decide) ⟨_, _, rfl⟩ rfl rfl rfl (Nat.le_of_ble_eq_true rfl) ⟨by decide, by decide⟩ (Nat.le_of_ble_eq_true rfl) (by decide) (m_time hm2 h.1.1   ) ?_
  refine lz_icmp_eq (tgt := 2480) dL_law_1662 (by decide) oc.2 rfl ?_
  exact kk _ _ _ _ _ ⟨hx2, hm2, ho2, g2, g4, oc.1⟩
set_option maxRecDepth 20000 in
set_option maxHeartbeats 4000000 in
theorem lc_stateOf {l : Launch} {D : va_G} {B sb n : Nat} {Z : Int → Int} {K : q_K} {M C : q_S} {x m o : Nat} {i k : Int} {u5 u6 : Option q_V} {c s : Nat} (hn : n ≤ 2560) (hi : 0 ≤ i ∧ i + 5 ≤ (n : Int)) (hk : 0 ≤ k ∧ k < 512) (h0 : q_LI K M C x m o k) (hc : 16 ≤ c) (hs : 96 ≤ s)
    (kk : ∀ K2 M2 C2 w5 w6, q_LI K2 M2 C2 x m o (k + 1) → q_F l D B sb n Z 2480 [some (q_R 0), some (q_R x), some (q_R m), some (q_R o), some (q_I i), w5, w6] [] K2 M2 C2 (c - 16) (s - 96)) : q_F l D B sb n Z 1667 [some (q_R 0), some (q_R x), some (q_R m), some (q_R o), some (q_I i), u5, u6] [] K M C c s := by
  obtain ⟨hx, hm, ho, hB, hR, h⟩ := h0
  have nb := nb_10 h.1.2.2.2.2 hk.2
  refine lz_aload_n dL_law_1667 rfl ?_
  refine lz_aload_n dL_law_1668 rfl ?_
  refine lz_iload dL_law_1669 rfl ?_
  refine lz_iconst dL_law_1671 ?_
  refine lz_iadd dL_law_1672 ?_
  refine lz_sald dL_law_1673 hn (by omega) (by omega) (fun hp1_1673 => ?_)
  refine lz_aload_n dL_law_1674 rfl ?_
  refine lz_iload dL_law_1675 rfl ?_
  refine lz_iconst dL_law_1677 ?_
  refine lz_iadd dL_law_1678 ?_
  refine lz_sald dL_law_1679 hn (by omega) (by omega) (fun hp2_1679 => ?_)
  refine lz_aload_n dL_law_1680 rfl ?_
  have oc := okc_stateOf h (Z (i + 1)) (Z (i + 2))
  refine lz_callS (as := [q_R x, q_I (Z (i + 1)), q_I (Z (i + 2)), q_R o]) (rest := []) (c1 := 16) (s1 := 96) (c2 := c - 16) (s2 := s - 96) dL_law_1681 k_L_stateOf l_L_214 s_L_stateOf rfl rfl rfl rfl (Nat.le_of_ble_eq_true rfl) ⟨by decide, by decide⟩ (by omega) (by omega) (Nat.le_of_ble_eq_true rfl) (by decide) (w_stateOf hx ho hR h hk hB (c := 16) (s := 96) (by omega) (by omega) hp1_1673 hp2_1679) (fun ov K2 M2 C2 g => ?_) (fun E K2 M2 C2 g => by obtain ⟨-, -, -, g5, -⟩ := g; cases g5)
  obtain ⟨⟨g1, g2⟩, g3, g4, g5, g6⟩ := g
  obtain rfl := Sum.inl.inj g5
  rw [g3]
  have hx2 := xt_get g1 hx (by decide)
  have hm2 := xt_get g1 hm (by decide)
  have ho2 := xt_get g1 ho (by decide)
  refine lz_istore (ls2 := [some (q_R 0), some (q_R x), some (q_R m), some (q_R o), some (q_I i), some (q_I ((stateOfF M (Z (i + 1)) (Z (i + 2))).2 50 41)), u6]) dL_law_1684 (by decide) rfl ?_
  refine lz_aload_n dL_law_1686 rfl ?_
  refine lz_aload_n dL_law_1687 rfl ?_
  refine lz_iload dL_law_1688 rfl ?_
  refine lz_iconst dL_law_1690 ?_
  refine lz_iadd dL_law_1691 ?_
  refine lz_sald dL_law_1692 hn (by omega) (by omega) (fun hp1_1692 => ?_)
  refine lz_aload_n dL_law_1693 rfl ?_
  refine lz_iload dL_law_1694 rfl ?_
  refine lz_iconst dL_law_1696 ?_
  refine lz_iadd dL_law_1697 ?_
  refine lz_sald dL_law_1698 hn (by omega) (by omega) (fun hp2_1698 => ?_)
  refine lz_cV (as := [q_I (Z (i + 1)), q_I (Z (i + 2))]) (rest := []) dL_law_1699 k_X11_stateOf l_L_216 i_X11_stateOf v_X11_stateOf hm2 rfl (by decide) ⟨_, _, rfl⟩ rfl rfl rfl (Nat.le_of_ble_eq_true rfl) ⟨by decide, by decide⟩ (Nat.le_of_ble_eq_true rfl) (by decide) (m_stateOf hm2 h.1.1  hp1_1692 hp2_1698 ) ?_
  refine lz_istore (ls2 := [some (q_R 0), some (q_R x), some (q_R m), some (q_R o), some (q_I i), some (q_I ((stateOfF M (Z (i + 1)) (Z (i + 2))).2 50 41)), some (q_I (stateOfF M (Z (i + 1)) (Z (i + 2))).1)]) dL_law_1702 (by decide) rfl ?_
  refine lz_aload_n dL_law_1704 rfl ?_
  refine lz_cV (as := []) (rest := []) dL_law_1705 k_X11_thrown l_L_130 i_X11_thrown v_X11_thrown hm2 rfl (by decide) ⟨_, _, rfl⟩ rfl rfl rfl (Nat.le_of_ble_eq_true rfl) ⟨by decide, by decide⟩ (Nat.le_of_ble_eq_true rfl) (by decide) (m_thrown hm2) ?_
  refine lz_iload dL_law_1708 rfl ?_
  refine lz_icmp_eq (tgt := 1715) dL_law_1710 (by decide) (iI_41 oc.1.1.1) rfl ?_
  refine lz_iload dL_law_1715 rfl ?_
  refine lz_if_ne (tgt := 1732) dL_law_1717 (by decide) (iI_41 oc.1.1.1) (fun z9 => ?_) (fun z9 => ?_)
  · refine lz_goto (tgt := 2480) dL_law_1732 (by decide) ?_
    exact kk _ _ _ _ _ ⟨hx2, hm2, ho2, g2, g4, oc.1⟩
  · refine lz_aload_n dL_law_1720 rfl ?_
    refine lz_iconst dL_law_1721 ?_
    refine lz_lald (by decide) dL_law_1722 ho2 (by decide) (by decide) ?_
    refine lz_iload dL_law_1723 rfl ?_
    refine lz_i2l dL_law_1725 oc.2 ?_
    refine lz_lcmp dL_law_1726 (iL_I oc.2) (g6 z9) ?_
    refine lz_if_eq (tgt := 1732) dL_law_1727 (by decide) q_zero (fun _ => ?_) (fun y => absurd rfl y)
    refine lz_goto (tgt := 2480) dL_law_1732 (by decide) ?_
    exact kk _ _ _ _ _ ⟨hx2, hm2, ho2, g2, g4, oc.1⟩
set_option maxRecDepth 20000 in
set_option maxHeartbeats 4000000 in
theorem lc_folderOf {l : Launch} {D : va_G} {B sb n : Nat} {Z : Int → Int} {K : q_K} {M C : q_S} {x m o : Nat} {i k : Int} {u5 u6 : Option q_V} {c s : Nat} (hn : n ≤ 2560) (hi : 0 ≤ i ∧ i + 5 ≤ (n : Int)) (hk : 0 ≤ k ∧ k < 512) (h0 : q_LI K M C x m o k) (hc : 16 ≤ c) (hs : 96 ≤ s)
    (kk : ∀ K2 M2 C2 w5 w6, q_LI K2 M2 C2 x m o (k + 1) → q_F l D B sb n Z 2480 [some (q_R 0), some (q_R x), some (q_R m), some (q_R o), some (q_I i), w5, w6] [] K2 M2 C2 (c - 16) (s - 96)) : q_F l D B sb n Z 1735 [some (q_R 0), some (q_R x), some (q_R m), some (q_R o), some (q_I i), u5, u6] [] K M C c s := by
  obtain ⟨hx, hm, ho, hB, hR, h⟩ := h0
  have nb := nb_10 h.1.2.2.2.2 hk.2
  refine lz_aload_n dL_law_1735 rfl ?_
  refine lz_aload_n dL_law_1736 rfl ?_
  refine lz_iload dL_law_1737 rfl ?_
  refine lz_iconst dL_law_1739 ?_
  refine lz_iadd dL_law_1740 ?_
  refine lz_sald dL_law_1741 hn (by omega) (by omega) (fun hp1_1741 => ?_)
  refine lz_aload_n dL_law_1742 rfl ?_
  refine lz_iload dL_law_1743 rfl ?_
  refine lz_iconst dL_law_1745 ?_
  refine lz_iadd dL_law_1746 ?_
  refine lz_sald dL_law_1747 hn (by omega) (by omega) (fun hp2_1747 => ?_)
  refine lz_aload_n dL_law_1748 rfl ?_
  have oc := okc_folderOf h (Z (i + 1)) (Z (i + 2))
  refine lz_callS (as := [q_R x, q_I (Z (i + 1)), q_I (Z (i + 2)), q_R o]) (rest := []) (c1 := 16) (s1 := 96) (c2 := c - 16) (s2 := s - 96) dL_law_1749 k_L_folderOf l_L_217 s_L_folderOf rfl rfl rfl rfl (Nat.le_of_ble_eq_true rfl) ⟨by decide, by decide⟩ (by omega) (by omega) (Nat.le_of_ble_eq_true rfl) (by decide) (w_folderOf hx ho hR h hk hB (c := 16) (s := 96) (by omega) (by omega) hp1_1741 hp2_1747) (fun ov K2 M2 C2 g => ?_) (fun E K2 M2 C2 g => by obtain ⟨-, -, -, g5, -⟩ := g; cases g5)
  obtain ⟨⟨g1, g2⟩, g3, g4, g5, g6⟩ := g
  obtain rfl := Sum.inl.inj g5
  rw [g3]
  have hx2 := xt_get g1 hx (by decide)
  have hm2 := xt_get g1 hm (by decide)
  have ho2 := xt_get g1 ho (by decide)
  refine lz_istore (ls2 := [some (q_R 0), some (q_R x), some (q_R m), some (q_R o), some (q_I i), some (q_I ((folderOfF M (Z (i + 1)) (Z (i + 2))).2 50 41)), u6]) dL_law_1752 (by decide) rfl ?_
  refine lz_aload_n dL_law_1754 rfl ?_
  refine lz_aload_n dL_law_1755 rfl ?_
  refine lz_iload dL_law_1756 rfl ?_
  refine lz_iconst dL_law_1758 ?_
  refine lz_iadd dL_law_1759 ?_
  refine lz_sald dL_law_1760 hn (by omega) (by omega) (fun hp1_1760 => ?_)
  refine lz_aload_n dL_law_1761 rfl ?_
  refine lz_iload dL_law_1762 rfl ?_
  refine lz_iconst dL_law_1764 ?_
  refine lz_iadd dL_law_1765 ?_
  refine lz_sald dL_law_1766 hn (by omega) (by omega) (fun hp2_1766 => ?_)
  refine lz_cV (as := [q_I (Z (i + 1)), q_I (Z (i + 2))]) (rest := []) dL_law_1767 k_X11_folderOf l_L_219 i_X11_folderOf v_X11_folderOf hm2 rfl (by decide) ⟨_, _, rfl⟩ rfl rfl rfl (Nat.le_of_ble_eq_true rfl) ⟨by decide, by decide⟩ (Nat.le_of_ble_eq_true rfl) (by decide) (m_folderOf hm2 h.1.1  hp1_1760 hp2_1766 ) ?_
  refine lz_istore (ls2 := [some (q_R 0), some (q_R x), some (q_R m), some (q_R o), some (q_I i), some (q_I ((folderOfF M (Z (i + 1)) (Z (i + 2))).2 50 41)), some (q_I (folderOfF M (Z (i + 1)) (Z (i + 2))).1)]) dL_law_1770 (by decide) rfl ?_
  refine lz_aload_n dL_law_1772 rfl ?_
  refine lz_cV (as := []) (rest := []) dL_law_1773 k_X11_thrown l_L_130 i_X11_thrown v_X11_thrown hm2 rfl (by decide) ⟨_, _, rfl⟩ rfl rfl rfl (Nat.le_of_ble_eq_true rfl) ⟨by decide, by decide⟩ (Nat.le_of_ble_eq_true rfl) (by decide) (m_thrown hm2) ?_
  refine lz_iload dL_law_1776 rfl ?_
  refine lz_icmp_eq (tgt := 1783) dL_law_1778 (by decide) (iI_41 oc.1.1.1) rfl ?_
  refine lz_iload dL_law_1783 rfl ?_
  refine lz_if_ne (tgt := 1800) dL_law_1785 (by decide) (iI_41 oc.1.1.1) (fun z9 => ?_) (fun z9 => ?_)
  · refine lz_goto (tgt := 2480) dL_law_1800 (by decide) ?_
    exact kk _ _ _ _ _ ⟨hx2, hm2, ho2, g2, g4, oc.1⟩
  · refine lz_aload_n dL_law_1788 rfl ?_
    refine lz_iconst dL_law_1789 ?_
    refine lz_lald (by decide) dL_law_1790 ho2 (by decide) (by decide) ?_
    refine lz_iload dL_law_1791 rfl ?_
    refine lz_i2l dL_law_1793 oc.2 ?_
    refine lz_lcmp dL_law_1794 (iL_I oc.2) (g6 z9) ?_
    refine lz_if_eq (tgt := 1800) dL_law_1795 (by decide) q_zero (fun _ => ?_) (fun y => absurd rfl y)
    refine lz_goto (tgt := 2480) dL_law_1800 (by decide) ?_
    exact kk _ _ _ _ _ ⟨hx2, hm2, ho2, g2, g4, oc.1⟩
set_option maxRecDepth 20000 in
set_option maxHeartbeats 4000000 in
theorem lc_numberAt {l : Launch} {D : va_G} {B sb n : Nat} {Z : Int → Int} {K : q_K} {M C : q_S} {x m o : Nat} {i k : Int} {u5 u6 : Option q_V} {c s : Nat} (hn : n ≤ 2560) (hi : 0 ≤ i ∧ i + 5 ≤ (n : Int)) (hk : 0 ≤ k ∧ k < 512) (h0 : q_LI K M C x m o k) (hc : 16 ≤ c) (hs : 96 ≤ s)
    (kk : ∀ K2 M2 C2 w5 w6, q_LI K2 M2 C2 x m o (k + 1) → q_F l D B sb n Z 2480 [some (q_R 0), some (q_R x), some (q_R m), some (q_R o), some (q_I i), w5, w6] [] K2 M2 C2 (c - 16) (s - 96)) : q_F l D B sb n Z 1803 [some (q_R 0), some (q_R x), some (q_R m), some (q_R o), some (q_I i), u5, u6] [] K M C c s := by
  obtain ⟨hx, hm, ho, hB, hR, h⟩ := h0
  have nb := nb_10 h.1.2.2.2.2 hk.2
  refine lz_aload_n dL_law_1803 rfl ?_
  refine lz_aload_n dL_law_1804 rfl ?_
  refine lz_iload dL_law_1805 rfl ?_
  refine lz_iconst dL_law_1807 ?_
  refine lz_iadd dL_law_1808 ?_
  refine lz_sald dL_law_1809 hn (by omega) (by omega) (fun hp1_1809 => ?_)
  refine lz_aload_n dL_law_1810 rfl ?_
  refine lz_iload dL_law_1811 rfl ?_
  refine lz_iconst dL_law_1813 ?_
  refine lz_iadd dL_law_1814 ?_
  refine lz_sald dL_law_1815 hn (by omega) (by omega) (fun hp2_1815 => ?_)
  refine lz_aload_n dL_law_1816 rfl ?_
  refine lz_iload dL_law_1817 rfl ?_
  refine lz_iconst dL_law_1819 ?_
  refine lz_iadd dL_law_1820 ?_
  refine lz_sald dL_law_1821 hn (by omega) (by omega) (fun hp3_1821 => ?_)
  refine lz_aload_n dL_law_1822 rfl ?_
  have oc := okc_numberAt h (Z (i + 1)) (Z (i + 2)) (Z (i + 3))
  refine lz_callS (as := [q_R x, q_I (Z (i + 1)), q_I (Z (i + 2)), q_I (Z (i + 3)), q_R o]) (rest := []) (c1 := 16) (s1 := 96) (c2 := c - 16) (s2 := s - 96) dL_law_1823 k_L_numberAt l_L_220 s_L_numberAt rfl rfl rfl rfl (Nat.le_of_ble_eq_true rfl) ⟨by decide, by decide⟩ (by omega) (by omega) (Nat.le_of_ble_eq_true rfl) (by decide) (w_numberAt hx ho hR h hk hB (c := 16) (s := 96) (by omega) (by omega) hp1_1809 hp2_1815 hp3_1821) (fun ov K2 M2 C2 g => ?_) (fun E K2 M2 C2 g => by obtain ⟨-, -, -, g5, -⟩ := g; cases g5)
  obtain ⟨⟨g1, g2⟩, g3, g4, g5, g6⟩ := g
  obtain rfl := Sum.inl.inj g5
  rw [g3]
  have hx2 := xt_get g1 hx (by decide)
  have hm2 := xt_get g1 hm (by decide)
  have ho2 := xt_get g1 ho (by decide)
  refine lz_istore (ls2 := [some (q_R 0), some (q_R x), some (q_R m), some (q_R o), some (q_I i), some (q_I ((numberAtF M (Z (i + 1)) (Z (i + 2)) (Z (i + 3))).2 50 41)), u6]) dL_law_1826 (by decide) rfl ?_
  refine lz_aload_n dL_law_1828 rfl ?_
  refine lz_aload_n dL_law_1829 rfl ?_
  refine lz_iload dL_law_1830 rfl ?_
  refine lz_iconst dL_law_1832 ?_
  refine lz_iadd dL_law_1833 ?_
  refine lz_sald dL_law_1834 hn (by omega) (by omega) (fun hp1_1834 => ?_)
  refine lz_aload_n dL_law_1835 rfl ?_
  refine lz_iload dL_law_1836 rfl ?_
  refine lz_iconst dL_law_1838 ?_
  refine lz_iadd dL_law_1839 ?_
  refine lz_sald dL_law_1840 hn (by omega) (by omega) (fun hp2_1840 => ?_)
  refine lz_aload_n dL_law_1841 rfl ?_
  refine lz_iload dL_law_1842 rfl ?_
  refine lz_iconst dL_law_1844 ?_
  refine lz_iadd dL_law_1845 ?_
  refine lz_sald dL_law_1846 hn (by omega) (by omega) (fun hp3_1846 => ?_)
  refine lz_cV (as := [q_I (Z (i + 1)), q_I (Z (i + 2)), q_I (Z (i + 3))]) (rest := []) dL_law_1847 k_X11_numberAt l_L_222 i_X11_numberAt v_X11_numberAt hm2 rfl (by decide) ⟨_, _, rfl⟩ rfl rfl rfl (Nat.le_of_ble_eq_true rfl) ⟨by decide, by decide⟩ (Nat.le_of_ble_eq_true rfl) (by decide) (m_numberAt hm2 h.1.1  hp1_1834 hp2_1840 hp3_1846 ) ?_
  refine lz_istore (ls2 := [some (q_R 0), some (q_R x), some (q_R m), some (q_R o), some (q_I i), some (q_I ((numberAtF M (Z (i + 1)) (Z (i + 2)) (Z (i + 3))).2 50 41)), some (q_I (numberAtF M (Z (i + 1)) (Z (i + 2)) (Z (i + 3))).1)]) dL_law_1850 (by decide) rfl ?_
  refine lz_aload_n dL_law_1852 rfl ?_
  refine lz_cV (as := []) (rest := []) dL_law_1853 k_X11_thrown l_L_130 i_X11_thrown v_X11_thrown hm2 rfl (by decide) ⟨_, _, rfl⟩ rfl rfl rfl (Nat.le_of_ble_eq_true rfl) ⟨by decide, by decide⟩ (Nat.le_of_ble_eq_true rfl) (by decide) (m_thrown hm2) ?_
  refine lz_iload dL_law_1856 rfl ?_
  refine lz_icmp_eq (tgt := 1863) dL_law_1858 (by decide) (iI_41 oc.1.1.1) rfl ?_
  refine lz_iload dL_law_1863 rfl ?_
  refine lz_if_ne (tgt := 1880) dL_law_1865 (by decide) (iI_41 oc.1.1.1) (fun z9 => ?_) (fun z9 => ?_)
  · refine lz_goto (tgt := 2480) dL_law_1880 (by decide) ?_
    exact kk _ _ _ _ _ ⟨hx2, hm2, ho2, g2, g4, oc.1⟩
  · refine lz_aload_n dL_law_1868 rfl ?_
    refine lz_iconst dL_law_1869 ?_
    refine lz_lald (by decide) dL_law_1870 ho2 (by decide) (by decide) ?_
    refine lz_iload dL_law_1871 rfl ?_
    refine lz_i2l dL_law_1873 oc.2 ?_
    refine lz_lcmp dL_law_1874 (iL_I oc.2) (g6 z9) ?_
    refine lz_if_eq (tgt := 1880) dL_law_1875 (by decide) q_zero (fun _ => ?_) (fun y => absurd rfl y)
    refine lz_goto (tgt := 2480) dL_law_1880 (by decide) ?_
    exact kk _ _ _ _ _ ⟨hx2, hm2, ho2, g2, g4, oc.1⟩
set_option maxRecDepth 20000 in
set_option maxHeartbeats 4000000 in
theorem lc_isChanged {l : Launch} {D : va_G} {B sb n : Nat} {Z : Int → Int} {K : q_K} {M C : q_S} {x m o : Nat} {i k : Int} {u5 u6 : Option q_V} {c s : Nat} (hn : n ≤ 2560) (hi : 0 ≤ i ∧ i + 5 ≤ (n : Int)) (hk : 0 ≤ k ∧ k < 512) (h0 : q_LI K M C x m o k) (hc : 16 ≤ c) (hs : 96 ≤ s)
    (kk : ∀ K2 M2 C2 w5 w6, q_LI K2 M2 C2 x m o (k + 1) → q_F l D B sb n Z 2480 [some (q_R 0), some (q_R x), some (q_R m), some (q_R o), some (q_I i), w5, w6] [] K2 M2 C2 (c - 16) (s - 96)) : q_F l D B sb n Z 1883 [some (q_R 0), some (q_R x), some (q_R m), some (q_R o), some (q_I i), u5, u6] [] K M C c s := by
  obtain ⟨hx, hm, ho, hB, hR, h⟩ := h0
  have nb := nb_10 h.1.2.2.2.2 hk.2
  refine lz_aload_n dL_law_1883 rfl ?_
  refine lz_aload_n dL_law_1884 rfl ?_
  refine lz_iload dL_law_1885 rfl ?_
  refine lz_iconst dL_law_1887 ?_
  refine lz_iadd dL_law_1888 ?_
  refine lz_sald dL_law_1889 hn (by omega) (by omega) (fun hp1_1889 => ?_)
  refine lz_aload_n dL_law_1890 rfl ?_
  refine lz_iload dL_law_1891 rfl ?_
  refine lz_iconst dL_law_1893 ?_
  refine lz_iadd dL_law_1894 ?_
  refine lz_sald dL_law_1895 hn (by omega) (by omega) (fun hp2_1895 => ?_)
  refine lz_aload_n dL_law_1896 rfl ?_
  have oc := okc_isChanged h (Z (i + 1)) (Z (i + 2))
  refine lz_callS (as := [q_R x, q_I (Z (i + 1)), q_I (Z (i + 2)), q_R o]) (rest := []) (c1 := 16) (s1 := 96) (c2 := c - 16) (s2 := s - 96) dL_law_1897 k_L_isChanged l_L_223 s_L_isChanged rfl rfl rfl rfl (Nat.le_of_ble_eq_true rfl) ⟨by decide, by decide⟩ (by omega) (by omega) (Nat.le_of_ble_eq_true rfl) (by decide) (w_isChanged hx ho hR h hk hB (c := 16) (s := 96) (by omega) (by omega) hp1_1889 hp2_1895) (fun ov K2 M2 C2 g => ?_) (fun E K2 M2 C2 g => by obtain ⟨-, -, -, g5, -⟩ := g; cases g5)
  obtain ⟨⟨g1, g2⟩, g3, g4, g5, g6⟩ := g
  obtain rfl := Sum.inl.inj g5
  rw [g3]
  have hx2 := xt_get g1 hx (by decide)
  have hm2 := xt_get g1 hm (by decide)
  have ho2 := xt_get g1 ho (by decide)
  refine lz_istore (ls2 := [some (q_R 0), some (q_R x), some (q_R m), some (q_R o), some (q_I i), some (q_I ((isChangedF M (Z (i + 1)) (Z (i + 2))).2 50 41)), u6]) dL_law_1900 (by decide) rfl ?_
  refine lz_aload_n dL_law_1902 rfl ?_
  refine lz_aload_n dL_law_1903 rfl ?_
  refine lz_iload dL_law_1904 rfl ?_
  refine lz_iconst dL_law_1906 ?_
  refine lz_iadd dL_law_1907 ?_
  refine lz_sald dL_law_1908 hn (by omega) (by omega) (fun hp1_1908 => ?_)
  refine lz_aload_n dL_law_1909 rfl ?_
  refine lz_iload dL_law_1910 rfl ?_
  refine lz_iconst dL_law_1912 ?_
  refine lz_iadd dL_law_1913 ?_
  refine lz_sald dL_law_1914 hn (by omega) (by omega) (fun hp2_1914 => ?_)
  refine lz_cV (as := [q_I (Z (i + 1)), q_I (Z (i + 2))]) (rest := []) dL_law_1915 k_X11_isChanged l_L_225 i_X11_isChanged v_X11_isChanged hm2 rfl (by decide) ⟨_, _, rfl⟩ rfl rfl rfl (Nat.le_of_ble_eq_true rfl) ⟨by decide, by decide⟩ (Nat.le_of_ble_eq_true rfl) (by decide) (m_isChanged hm2 h.1.1  hp1_1908 hp2_1914 ) ?_
  refine lz_istore (ls2 := [some (q_R 0), some (q_R x), some (q_R m), some (q_R o), some (q_I i), some (q_I ((isChangedF M (Z (i + 1)) (Z (i + 2))).2 50 41)), some (q_I (isChangedF M (Z (i + 1)) (Z (i + 2))).1)]) dL_law_1918 (by decide) rfl ?_
  refine lz_aload_n dL_law_1920 rfl ?_
  refine lz_cV (as := []) (rest := []) dL_law_1921 k_X11_thrown l_L_130 i_X11_thrown v_X11_thrown hm2 rfl (by decide) ⟨_, _, rfl⟩ rfl rfl rfl (Nat.le_of_ble_eq_true rfl) ⟨by decide, by decide⟩ (Nat.le_of_ble_eq_true rfl) (by decide) (m_thrown hm2) ?_
  refine lz_iload dL_law_1924 rfl ?_
  refine lz_icmp_eq (tgt := 1931) dL_law_1926 (by decide) (iI_41 oc.1.1.1) rfl ?_
  refine lz_iload dL_law_1931 rfl ?_
  refine lz_if_ne (tgt := 1955) dL_law_1933 (by decide) (iI_41 oc.1.1.1) (fun z9 => ?_) (fun z9 => ?_)
  · refine lz_goto (tgt := 2480) dL_law_1955 (by decide) ?_
    exact kk _ _ _ _ _ ⟨hx2, hm2, ho2, g2, g4, oc.1⟩
  · refine lz_aload_n dL_law_1936 rfl ?_
    refine lz_iconst dL_law_1937 ?_
    refine lz_lald (by decide) dL_law_1938 ho2 (by decide) (by decide) ?_
    refine lz_iload dL_law_1939 rfl ?_
    refine lz_if_eq (tgt := 1948) dL_law_1941 (by decide) oc.2 (fun z8 => ?_) (fun z8 => ?_)
    · refine lz_lconst dL_law_1948 rfl ?_
      refine lz_lcmp dL_law_1949 ⟨by decide, by decide⟩ ((g6 z9).trans z8) ?_
      refine lz_if_eq (tgt := 1955) dL_law_1950 (by decide) q_zero (fun _ => ?_) (fun y => absurd rfl y)
      refine lz_goto (tgt := 2480) dL_law_1955 (by decide) ?_
      exact kk _ _ _ _ _ ⟨hx2, hm2, ho2, g2, g4, oc.1⟩
    · have z7 := (bo_isChanged M (Z (i + 1)) (Z (i + 2))).resolve_left z8
      refine lz_lconst dL_law_1944 rfl ?_
      refine lz_goto (tgt := 1949) dL_law_1945 (by decide) ?_
      refine lz_lcmp dL_law_1949 ⟨by decide, by decide⟩ ((g6 z9).trans z7) ?_
      refine lz_if_eq (tgt := 1955) dL_law_1950 (by decide) q_zero (fun _ => ?_) (fun y => absurd rfl y)
      refine lz_goto (tgt := 2480) dL_law_1955 (by decide) ?_
      exact kk _ _ _ _ _ ⟨hx2, hm2, ho2, g2, g4, oc.1⟩
set_option maxRecDepth 20000 in
set_option maxHeartbeats 4000000 in
theorem lc_seen {l : Launch} {D : va_G} {B sb n : Nat} {Z : Int → Int} {K : q_K} {M C : q_S} {x m o : Nat} {i k : Int} {u5 u6 : Option q_V} {c s : Nat} (hn : n ≤ 2560) (hi : 0 ≤ i ∧ i + 5 ≤ (n : Int)) (hk : 0 ≤ k ∧ k < 512) (h0 : q_LI K M C x m o k) (hc : 16 ≤ c) (hs : 96 ≤ s)
    (kk : ∀ K2 M2 C2 w5 w6, q_LI K2 M2 C2 x m o (k + 1) → q_F l D B sb n Z 2480 [some (q_R 0), some (q_R x), some (q_R m), some (q_R o), some (q_I i), w5, w6] [] K2 M2 C2 (c - 16) (s - 96)) : q_F l D B sb n Z 1958 [some (q_R 0), some (q_R x), some (q_R m), some (q_R o), some (q_I i), u5, u6] [] K M C c s := by
  obtain ⟨hx, hm, ho, hB, hR, h⟩ := h0
  have nb := nb_10 h.1.2.2.2.2 hk.2
  refine lz_aload_n dL_law_1958 rfl ?_
  refine lz_aload_n dL_law_1959 rfl ?_
  refine lz_iload dL_law_1960 rfl ?_
  refine lz_iconst dL_law_1962 ?_
  refine lz_iadd dL_law_1963 ?_
  refine lz_sald dL_law_1964 hn (by omega) (by omega) (fun hp1_1964 => ?_)
  refine lz_aload_n dL_law_1965 rfl ?_
  refine lz_iload dL_law_1966 rfl ?_
  refine lz_iconst dL_law_1968 ?_
  refine lz_iadd dL_law_1969 ?_
  refine lz_sald dL_law_1970 hn (by omega) (by omega) (fun hp2_1970 => ?_)
  refine lz_aload_n dL_law_1971 rfl ?_
  have oc := okc_seen h (Z (i + 1)) (Z (i + 2))
  refine lz_callS (as := [q_R x, q_I (Z (i + 1)), q_I (Z (i + 2)), q_R o]) (rest := []) (c1 := 16) (s1 := 96) (c2 := c - 16) (s2 := s - 96) dL_law_1972 k_L_seen l_L_226 s_L_seen rfl rfl rfl rfl (Nat.le_of_ble_eq_true rfl) ⟨by decide, by decide⟩ (by omega) (by omega) (Nat.le_of_ble_eq_true rfl) (by decide) (w_seen hx ho hR h hk hB (c := 16) (s := 96) (by omega) (by omega) hp1_1964 hp2_1970) (fun ov K2 M2 C2 g => ?_) (fun E K2 M2 C2 g => by obtain ⟨-, -, -, g5, -⟩ := g; cases g5)
  obtain ⟨⟨g1, g2⟩, g3, g4, g5, g6⟩ := g
  obtain rfl := Sum.inl.inj g5
  rw [g3]
  have hx2 := xt_get g1 hx (by decide)
  have hm2 := xt_get g1 hm (by decide)
  have ho2 := xt_get g1 ho (by decide)
  refine lz_istore (ls2 := [some (q_R 0), some (q_R x), some (q_R m), some (q_R o), some (q_I i), some (q_I ((seenF M (Z (i + 1)) (Z (i + 2))).2 50 41)), u6]) dL_law_1975 (by decide) rfl ?_
  refine lz_aload_n dL_law_1977 rfl ?_
  refine lz_aload_n dL_law_1978 rfl ?_
  refine lz_iload dL_law_1979 rfl ?_
  refine lz_iconst dL_law_1981 ?_
  refine lz_iadd dL_law_1982 ?_
  refine lz_sald dL_law_1983 hn (by omega) (by omega) (fun hp1_1983 => ?_)
  refine lz_aload_n dL_law_1984 rfl ?_
  refine lz_iload dL_law_1985 rfl ?_
  refine lz_iconst dL_law_1987 ?_
  refine lz_iadd dL_law_1988 ?_
  refine lz_sald dL_law_1989 hn (by omega) (by omega) (fun hp2_1989 => ?_)
  refine lz_cV (as := [q_I (Z (i + 1)), q_I (Z (i + 2))]) (rest := []) dL_law_1990 k_X11_seen l_L_228 i_X11_seen v_X11_seen hm2 rfl (by decide) ⟨_, _, rfl⟩ rfl rfl rfl (Nat.le_of_ble_eq_true rfl) ⟨by decide, by decide⟩ (Nat.le_of_ble_eq_true rfl) (by decide) (m_seen hm2 h.1.1  hp1_1983 hp2_1989 ) ?_
  refine lz_istore (ls2 := [some (q_R 0), some (q_R x), some (q_R m), some (q_R o), some (q_I i), some (q_I ((seenF M (Z (i + 1)) (Z (i + 2))).2 50 41)), some (q_I (seenF M (Z (i + 1)) (Z (i + 2))).1)]) dL_law_1993 (by decide) rfl ?_
  refine lz_aload_n dL_law_1995 rfl ?_
  refine lz_cV (as := []) (rest := []) dL_law_1996 k_X11_thrown l_L_130 i_X11_thrown v_X11_thrown hm2 rfl (by decide) ⟨_, _, rfl⟩ rfl rfl rfl (Nat.le_of_ble_eq_true rfl) ⟨by decide, by decide⟩ (Nat.le_of_ble_eq_true rfl) (by decide) (m_thrown hm2) ?_
  refine lz_iload dL_law_1999 rfl ?_
  refine lz_icmp_eq (tgt := 2006) dL_law_2001 (by decide) (iI_41 oc.1.1.1) rfl ?_
  refine lz_iload dL_law_2006 rfl ?_
  refine lz_if_ne (tgt := 2023) dL_law_2008 (by decide) (iI_41 oc.1.1.1) (fun z9 => ?_) (fun z9 => ?_)
  · refine lz_goto (tgt := 2480) dL_law_2023 (by decide) ?_
    exact kk _ _ _ _ _ ⟨hx2, hm2, ho2, g2, g4, oc.1⟩
  · refine lz_aload_n dL_law_2011 rfl ?_
    refine lz_iconst dL_law_2012 ?_
    refine lz_lald (by decide) dL_law_2013 ho2 (by decide) (by decide) ?_
    refine lz_iload dL_law_2014 rfl ?_
    refine lz_i2l dL_law_2016 oc.2 ?_
    refine lz_lcmp dL_law_2017 (iL_I oc.2) (g6 z9) ?_
    refine lz_if_eq (tgt := 2023) dL_law_2018 (by decide) q_zero (fun _ => ?_) (fun y => absurd rfl y)
    refine lz_goto (tgt := 2480) dL_law_2023 (by decide) ?_
    exact kk _ _ _ _ _ ⟨hx2, hm2, ho2, g2, g4, oc.1⟩
set_option maxRecDepth 20000 in
set_option maxHeartbeats 4000000 in
theorem lc_noted {l : Launch} {D : va_G} {B sb n : Nat} {Z : Int → Int} {K : q_K} {M C : q_S} {x m o : Nat} {i k : Int} {u5 u6 : Option q_V} {c s : Nat} (hn : n ≤ 2560) (hi : 0 ≤ i ∧ i + 5 ≤ (n : Int)) (hk : 0 ≤ k ∧ k < 512) (h0 : q_LI K M C x m o k) (hc : 16 ≤ c) (hs : 96 ≤ s)
    (kk : ∀ K2 M2 C2 w5 w6, q_LI K2 M2 C2 x m o (k + 1) → q_F l D B sb n Z 2480 [some (q_R 0), some (q_R x), some (q_R m), some (q_R o), some (q_I i), w5, w6] [] K2 M2 C2 (c - 16) (s - 96)) : q_F l D B sb n Z 2026 [some (q_R 0), some (q_R x), some (q_R m), some (q_R o), some (q_I i), u5, u6] [] K M C c s := by
  obtain ⟨hx, hm, ho, hB, hR, h⟩ := h0
  have nb := nb_10 h.1.2.2.2.2 hk.2
  refine lz_aload_n dL_law_2026 rfl ?_
  refine lz_aload_n dL_law_2027 rfl ?_
  refine lz_iload dL_law_2028 rfl ?_
  refine lz_iconst dL_law_2030 ?_
  refine lz_iadd dL_law_2031 ?_
  refine lz_sald dL_law_2032 hn (by omega) (by omega) (fun hp1_2032 => ?_)
  refine lz_aload_n dL_law_2033 rfl ?_
  have oc := okc_noted h (Z (i + 1))
  refine lz_callS (as := [q_R x, q_I (Z (i + 1)), q_R o]) (rest := []) (c1 := 16) (s1 := 96) (c2 := c - 16) (s2 := s - 96) dL_law_2034 k_L_noted l_L_229 s_L_noted rfl rfl rfl rfl (Nat.le_of_ble_eq_true rfl) ⟨by decide, by decide⟩ (by omega) (by omega) (Nat.le_of_ble_eq_true rfl) (by decide) (w_noted hx ho hR h hk hB (c := 16) (s := 96) (by omega) (by omega) hp1_2032) (fun ov K2 M2 C2 g => ?_) (fun E K2 M2 C2 g => by obtain ⟨-, -, -, g5, -⟩ := g; cases g5)
  obtain ⟨⟨g1, g2⟩, g3, g4, g5, g6⟩ := g
  obtain rfl := Sum.inl.inj g5
  rw [g3]
  have hx2 := xt_get g1 hx (by decide)
  have hm2 := xt_get g1 hm (by decide)
  have ho2 := xt_get g1 ho (by decide)
  refine lz_istore (ls2 := [some (q_R 0), some (q_R x), some (q_R m), some (q_R o), some (q_I i), some (q_I ((notedF M (Z (i + 1))).2 50 41)), u6]) dL_law_2037 (by decide) rfl ?_
  refine lz_aload_n dL_law_2039 rfl ?_
  refine lz_aload_n dL_law_2040 rfl ?_
  refine lz_iload dL_law_2041 rfl ?_
  refine lz_iconst dL_law_2043 ?_
  refine lz_iadd dL_law_2044 ?_
  refine lz_sald dL_law_2045 hn (by omega) (by omega) (fun hp1_2045 => ?_)
  refine lz_cV (as := [q_I (Z (i + 1))]) (rest := []) dL_law_2046 k_X11_noted l_L_231 i_X11_noted v_X11_noted hm2 rfl (by decide) ⟨_, _, rfl⟩ rfl rfl rfl (Nat.le_of_ble_eq_true rfl) ⟨by decide, by decide⟩ (Nat.le_of_ble_eq_true rfl) (by decide) (m_noted hm2 h.1.1  hp1_2045 ) ?_
  refine lz_istore (ls2 := [some (q_R 0), some (q_R x), some (q_R m), some (q_R o), some (q_I i), some (q_I ((notedF M (Z (i + 1))).2 50 41)), some (q_I (notedF M (Z (i + 1))).1)]) dL_law_2049 (by decide) rfl ?_
  refine lz_aload_n dL_law_2051 rfl ?_
  refine lz_cV (as := []) (rest := []) dL_law_2052 k_X11_thrown l_L_130 i_X11_thrown v_X11_thrown hm2 rfl (by decide) ⟨_, _, rfl⟩ rfl rfl rfl (Nat.le_of_ble_eq_true rfl) ⟨by decide, by decide⟩ (Nat.le_of_ble_eq_true rfl) (by decide) (m_thrown hm2) ?_
  refine lz_iload dL_law_2055 rfl ?_
  refine lz_icmp_eq (tgt := 2062) dL_law_2057 (by decide) (iI_41 oc.1.1.1) rfl ?_
  refine lz_iload dL_law_2062 rfl ?_
  refine lz_if_ne (tgt := 2079) dL_law_2064 (by decide) (iI_41 oc.1.1.1) (fun z9 => ?_) (fun z9 => ?_)
  · refine lz_goto (tgt := 2480) dL_law_2079 (by decide) ?_
    exact kk _ _ _ _ _ ⟨hx2, hm2, ho2, g2, g4, oc.1⟩
  · refine lz_aload_n dL_law_2067 rfl ?_
    refine lz_iconst dL_law_2068 ?_
    refine lz_lald (by decide) dL_law_2069 ho2 (by decide) (by decide) ?_
    refine lz_iload dL_law_2070 rfl ?_
    refine lz_i2l dL_law_2072 oc.2 ?_
    refine lz_lcmp dL_law_2073 (iL_I oc.2) (g6 z9) ?_
    refine lz_if_eq (tgt := 2079) dL_law_2074 (by decide) q_zero (fun _ => ?_) (fun y => absurd rfl y)
    refine lz_goto (tgt := 2480) dL_law_2079 (by decide) ?_
    exact kk _ _ _ _ _ ⟨hx2, hm2, ho2, g2, g4, oc.1⟩
set_option maxRecDepth 20000 in
set_option maxHeartbeats 4000000 in
theorem lc_taken {l : Launch} {D : va_G} {B sb n : Nat} {Z : Int → Int} {K : q_K} {M C : q_S} {x m o : Nat} {i k : Int} {u5 u6 : Option q_V} {c s : Nat} (hn : n ≤ 2560) (hi : 0 ≤ i ∧ i + 5 ≤ (n : Int)) (hk : 0 ≤ k ∧ k < 512) (h0 : q_LI K M C x m o k) (hc : 16 ≤ c) (hs : 96 ≤ s)
    (kk : ∀ K2 M2 C2 w5 w6, q_LI K2 M2 C2 x m o (k + 1) → q_F l D B sb n Z 2480 [some (q_R 0), some (q_R x), some (q_R m), some (q_R o), some (q_I i), w5, w6] [] K2 M2 C2 (c - 16) (s - 96)) : q_F l D B sb n Z 2082 [some (q_R 0), some (q_R x), some (q_R m), some (q_R o), some (q_I i), u5, u6] [] K M C c s := by
  obtain ⟨hx, hm, ho, hB, hR, h⟩ := h0
  have nb := nb_10 h.1.2.2.2.2 hk.2
  refine lz_aload_n dL_law_2082 rfl ?_
  refine lz_aload_n dL_law_2083 rfl ?_
  refine lz_iload dL_law_2084 rfl ?_
  refine lz_iconst dL_law_2086 ?_
  refine lz_iadd dL_law_2087 ?_
  refine lz_sald dL_law_2088 hn (by omega) (by omega) (fun hp1_2088 => ?_)
  refine lz_aload_n dL_law_2089 rfl ?_
  have oc := okc_taken h (Z (i + 1))
  refine lz_callS (as := [q_R x, q_I (Z (i + 1)), q_R o]) (rest := []) (c1 := 16) (s1 := 96) (c2 := c - 16) (s2 := s - 96) dL_law_2090 k_L_taken l_L_232 s_L_taken rfl rfl rfl rfl (Nat.le_of_ble_eq_true rfl) ⟨by decide, by decide⟩ (by omega) (by omega) (Nat.le_of_ble_eq_true rfl) (by decide) (w_taken hx ho hR h hk hB (c := 16) (s := 96) (by omega) (by omega) hp1_2088) (fun ov K2 M2 C2 g => ?_) (fun E K2 M2 C2 g => by obtain ⟨-, -, -, g5, -⟩ := g; cases g5)
  obtain ⟨⟨g1, g2⟩, g3, g4, g5, g6⟩ := g
  obtain rfl := Sum.inl.inj g5
  rw [g3]
  have hx2 := xt_get g1 hx (by decide)
  have hm2 := xt_get g1 hm (by decide)
  have ho2 := xt_get g1 ho (by decide)
  refine lz_istore (ls2 := [some (q_R 0), some (q_R x), some (q_R m), some (q_R o), some (q_I i), some (q_I ((takenF M (Z (i + 1))).2 50 41)), u6]) dL_law_2093 (by decide) rfl ?_
  refine lz_aload_n dL_law_2095 rfl ?_
  refine lz_aload_n dL_law_2096 rfl ?_
  refine lz_iload dL_law_2097 rfl ?_
  refine lz_iconst dL_law_2099 ?_
  refine lz_iadd dL_law_2100 ?_
  refine lz_sald dL_law_2101 hn (by omega) (by omega) (fun hp1_2101 => ?_)
  refine lz_cV (as := [q_I (Z (i + 1))]) (rest := []) dL_law_2102 k_X11_taken l_L_234 i_X11_taken v_X11_taken hm2 rfl (by decide) ⟨_, _, rfl⟩ rfl rfl rfl (Nat.le_of_ble_eq_true rfl) ⟨by decide, by decide⟩ (Nat.le_of_ble_eq_true rfl) (by decide) (m_taken hm2 h.1.1  hp1_2101 ) ?_
  refine lz_istore (ls2 := [some (q_R 0), some (q_R x), some (q_R m), some (q_R o), some (q_I i), some (q_I ((takenF M (Z (i + 1))).2 50 41)), some (q_I (takenF M (Z (i + 1))).1)]) dL_law_2105 (by decide) rfl ?_
  refine lz_aload_n dL_law_2107 rfl ?_
  refine lz_cV (as := []) (rest := []) dL_law_2108 k_X11_thrown l_L_130 i_X11_thrown v_X11_thrown hm2 rfl (by decide) ⟨_, _, rfl⟩ rfl rfl rfl (Nat.le_of_ble_eq_true rfl) ⟨by decide, by decide⟩ (Nat.le_of_ble_eq_true rfl) (by decide) (m_thrown hm2) ?_
  refine lz_iload dL_law_2111 rfl ?_
  refine lz_icmp_eq (tgt := 2118) dL_law_2113 (by decide) (iI_41 oc.1.1.1) rfl ?_
  refine lz_iload dL_law_2118 rfl ?_
  refine lz_if_ne (tgt := 2135) dL_law_2120 (by decide) (iI_41 oc.1.1.1) (fun z9 => ?_) (fun z9 => ?_)
  · refine lz_goto (tgt := 2480) dL_law_2135 (by decide) ?_
    exact kk _ _ _ _ _ ⟨hx2, hm2, ho2, g2, g4, oc.1⟩
  · refine lz_aload_n dL_law_2123 rfl ?_
    refine lz_iconst dL_law_2124 ?_
    refine lz_lald (by decide) dL_law_2125 ho2 (by decide) (by decide) ?_
    refine lz_iload dL_law_2126 rfl ?_
    refine lz_i2l dL_law_2128 oc.2 ?_
    refine lz_lcmp dL_law_2129 (iL_I oc.2) (g6 z9) ?_
    refine lz_if_eq (tgt := 2135) dL_law_2130 (by decide) q_zero (fun _ => ?_) (fun y => absurd rfl y)
    refine lz_goto (tgt := 2480) dL_law_2135 (by decide) ?_
    exact kk _ _ _ _ _ ⟨hx2, hm2, ho2, g2, g4, oc.1⟩
set_option maxRecDepth 20000 in
set_option maxHeartbeats 4000000 in
theorem lc_versions {l : Launch} {D : va_G} {B sb n : Nat} {Z : Int → Int} {K : q_K} {M C : q_S} {x m o : Nat} {i k : Int} {u5 u6 : Option q_V} {c s : Nat} (hn : n ≤ 2560) (hi : 0 ≤ i ∧ i + 5 ≤ (n : Int)) (hk : 0 ≤ k ∧ k < 512) (h0 : q_LI K M C x m o k) (hc : 16 ≤ c) (hs : 96 ≤ s)
    (kk : ∀ K2 M2 C2 w5 w6, q_LI K2 M2 C2 x m o (k + 1) → q_F l D B sb n Z 2480 [some (q_R 0), some (q_R x), some (q_R m), some (q_R o), some (q_I i), w5, w6] [] K2 M2 C2 (c - 16) (s - 96)) : q_F l D B sb n Z 2138 [some (q_R 0), some (q_R x), some (q_R m), some (q_R o), some (q_I i), u5, u6] [] K M C c s := by
  obtain ⟨hx, hm, ho, hB, hR, h⟩ := h0
  have nb := nb_10 h.1.2.2.2.2 hk.2
  refine lz_aload_n dL_law_2138 rfl ?_
  have oc := okc_versions h
  have t0 := t0_versions M
  refine lz_callV (as := []) (rest := []) (c1 := 1) (s1 := 6) (c2 := c - 16) (s2 := s - 96) dL_law_2139 k_X10_versions l_L_235 i_X10_versions v_X10_versions hx rfl (by decide) ⟨_, _, rfl⟩ rfl rfl rfl rfl (Nat.le_of_ble_eq_true rfl) ⟨by decide, by decide⟩ (by omega) (by omega) (Nat.le_of_ble_eq_true rfl) (by decide) (c_10_versions hx hR h.1.2.2.1 h.1.1 hB (c := 1) (s := 6) (by omega) (by omega)) (fun ov K2 M2 C2 g => ?_) (fun E K2 M2 C2 g => by
    obtain ⟨-, -, -, g5⟩ := g
    rcases g5 with g5 | g5 | g5 | g5
    · cases g5.2
    all_goals omega)
  obtain ⟨⟨g1, g2⟩, g3, g4, g5⟩ := g
  have g6 : ov = some (q_I (versionsF M).1) := by
    rcases g5 with g5 | g5 | g5 | g5
    · exact Sum.inl.inj g5.2
    all_goals (exact absurd g5.2 (by intro z; cases z))
  subst g6
  rw [g3]
  have hx2 := xt_get g1 hx (by decide)
  have hm2 := xt_get g1 hm (by decide)
  have ho2 := xt_get g1 ho (by decide)
  refine lz_aload_n dL_law_2142 rfl ?_
  refine lz_cV (as := []) (rest := [q_I (versionsF M).1]) dL_law_2143 k_X11_versions l_L_238 i_X11_versions v_X11_versions hm2 rfl (by decide) ⟨_, _, rfl⟩ rfl rfl rfl (Nat.le_of_ble_eq_true rfl) ⟨by decide, by decide⟩ (Nat.le_of_ble_eq_true rfl) (by decide) (m_versions hm2 h.1.1   ) ?_
  refine lz_icmp_eq (tgt := 2480) dL_law_2146 (by decide) oc.2 rfl ?_
  exact kk _ _ _ _ _ ⟨hx2, hm2, ho2, g2, g4, oc.1⟩
set_option maxRecDepth 20000 in
set_option maxHeartbeats 4000000 in
theorem lc_version {l : Launch} {D : va_G} {B sb n : Nat} {Z : Int → Int} {K : q_K} {M C : q_S} {x m o : Nat} {i k : Int} {u5 u6 : Option q_V} {c s : Nat} (hn : n ≤ 2560) (hi : 0 ≤ i ∧ i + 5 ≤ (n : Int)) (hk : 0 ≤ k ∧ k < 512) (h0 : q_LI K M C x m o k) (hc : 16 ≤ c) (hs : 96 ≤ s)
    (kk : ∀ K2 M2 C2 w5 w6, q_LI K2 M2 C2 x m o (k + 1) → q_F l D B sb n Z 2480 [some (q_R 0), some (q_R x), some (q_R m), some (q_R o), some (q_I i), w5, w6] [] K2 M2 C2 (c - 16) (s - 96)) : q_F l D B sb n Z 2151 [some (q_R 0), some (q_R x), some (q_R m), some (q_R o), some (q_I i), u5, u6] [] K M C c s := by
  obtain ⟨hx, hm, ho, hB, hR, h⟩ := h0
  have nb := nb_10 h.1.2.2.2.2 hk.2
  refine lz_aload_n dL_law_2151 rfl ?_
  refine lz_aload_n dL_law_2152 rfl ?_
  refine lz_iload dL_law_2153 rfl ?_
  refine lz_iconst dL_law_2155 ?_
  refine lz_iadd dL_law_2156 ?_
  refine lz_sald dL_law_2157 hn (by omega) (by omega) (fun hp1_2157 => ?_)
  refine lz_aload_n dL_law_2158 rfl ?_
  refine lz_iload dL_law_2159 rfl ?_
  refine lz_iconst dL_law_2161 ?_
  refine lz_iadd dL_law_2162 ?_
  refine lz_sald dL_law_2163 hn (by omega) (by omega) (fun hp2_2163 => ?_)
  refine lz_aload_n dL_law_2164 rfl ?_
  have oc := okc_version h (Z (i + 1)) (Z (i + 2))
  refine lz_callS (as := [q_R x, q_I (Z (i + 1)), q_I (Z (i + 2)), q_R o]) (rest := []) (c1 := 16) (s1 := 96) (c2 := c - 16) (s2 := s - 96) dL_law_2165 k_L_version l_L_239 s_L_version rfl rfl rfl rfl (Nat.le_of_ble_eq_true rfl) ⟨by decide, by decide⟩ (by omega) (by omega) (Nat.le_of_ble_eq_true rfl) (by decide) (w_version hx ho hR h hk hB (c := 16) (s := 96) (by omega) (by omega) hp1_2157 hp2_2163) (fun ov K2 M2 C2 g => ?_) (fun E K2 M2 C2 g => by obtain ⟨-, -, -, g5, -⟩ := g; cases g5)
  obtain ⟨⟨g1, g2⟩, g3, g4, g5, g6⟩ := g
  obtain rfl := Sum.inl.inj g5
  rw [g3]
  have hx2 := xt_get g1 hx (by decide)
  have hm2 := xt_get g1 hm (by decide)
  have ho2 := xt_get g1 ho (by decide)
  refine lz_istore (ls2 := [some (q_R 0), some (q_R x), some (q_R m), some (q_R o), some (q_I i), some (q_I ((versionF M (Z (i + 1)) (Z (i + 2))).2 50 41)), u6]) dL_law_2168 (by decide) rfl ?_
  refine lz_aload_n dL_law_2170 rfl ?_
  refine lz_aload_n dL_law_2171 rfl ?_
  refine lz_iload dL_law_2172 rfl ?_
  refine lz_iconst dL_law_2174 ?_
  refine lz_iadd dL_law_2175 ?_
  refine lz_sald dL_law_2176 hn (by omega) (by omega) (fun hp1_2176 => ?_)
  refine lz_aload_n dL_law_2177 rfl ?_
  refine lz_iload dL_law_2178 rfl ?_
  refine lz_iconst dL_law_2180 ?_
  refine lz_iadd dL_law_2181 ?_
  refine lz_sald dL_law_2182 hn (by omega) (by omega) (fun hp2_2182 => ?_)
  refine lz_cV (as := [q_I (Z (i + 1)), q_I (Z (i + 2))]) (rest := []) dL_law_2183 k_X11_version l_L_241 i_X11_version v_X11_version hm2 rfl (by decide) ⟨_, _, rfl⟩ rfl rfl rfl (Nat.le_of_ble_eq_true rfl) ⟨by decide, by decide⟩ (Nat.le_of_ble_eq_true rfl) (by decide) (m_version hm2 h.1.1  hp1_2176 hp2_2182 ) ?_
  refine lz_istore (ls2 := [some (q_R 0), some (q_R x), some (q_R m), some (q_R o), some (q_I i), some (q_I ((versionF M (Z (i + 1)) (Z (i + 2))).2 50 41)), some (q_I (versionF M (Z (i + 1)) (Z (i + 2))).1)]) dL_law_2186 (by decide) rfl ?_
  refine lz_aload_n dL_law_2188 rfl ?_
  refine lz_cV (as := []) (rest := []) dL_law_2189 k_X11_thrown l_L_130 i_X11_thrown v_X11_thrown hm2 rfl (by decide) ⟨_, _, rfl⟩ rfl rfl rfl (Nat.le_of_ble_eq_true rfl) ⟨by decide, by decide⟩ (Nat.le_of_ble_eq_true rfl) (by decide) (m_thrown hm2) ?_
  refine lz_iload dL_law_2192 rfl ?_
  refine lz_icmp_eq (tgt := 2199) dL_law_2194 (by decide) (iI_41 oc.1.1.1) rfl ?_
  refine lz_iload dL_law_2199 rfl ?_
  refine lz_if_ne (tgt := 2216) dL_law_2201 (by decide) (iI_41 oc.1.1.1) (fun z9 => ?_) (fun z9 => ?_)
  · refine lz_goto (tgt := 2480) dL_law_2216 (by decide) ?_
    exact kk _ _ _ _ _ ⟨hx2, hm2, ho2, g2, g4, oc.1⟩
  · refine lz_aload_n dL_law_2204 rfl ?_
    refine lz_iconst dL_law_2205 ?_
    refine lz_lald (by decide) dL_law_2206 ho2 (by decide) (by decide) ?_
    refine lz_iload dL_law_2207 rfl ?_
    refine lz_i2l dL_law_2209 oc.2 ?_
    refine lz_lcmp dL_law_2210 (iL_I oc.2) (g6 z9) ?_
    refine lz_if_eq (tgt := 2216) dL_law_2211 (by decide) q_zero (fun _ => ?_) (fun y => absurd rfl y)
    refine lz_goto (tgt := 2480) dL_law_2216 (by decide) ?_
    exact kk _ _ _ _ _ ⟨hx2, hm2, ho2, g2, g4, oc.1⟩
set_option maxRecDepth 20000 in
set_option maxHeartbeats 4000000 in
theorem lc_asOf {l : Launch} {D : va_G} {B sb n : Nat} {Z : Int → Int} {K : q_K} {M C : q_S} {x m o : Nat} {i k : Int} {u5 u6 : Option q_V} {c s : Nat} (hn : n ≤ 2560) (hi : 0 ≤ i ∧ i + 5 ≤ (n : Int)) (hk : 0 ≤ k ∧ k < 512) (h0 : q_LI K M C x m o k) (hc : 16 ≤ c) (hs : 96 ≤ s)
    (kk : ∀ K2 M2 C2 w5 w6, q_LI K2 M2 C2 x m o (k + 1) → q_F l D B sb n Z 2480 [some (q_R 0), some (q_R x), some (q_R m), some (q_R o), some (q_I i), w5, w6] [] K2 M2 C2 (c - 16) (s - 96)) : q_F l D B sb n Z 2219 [some (q_R 0), some (q_R x), some (q_R m), some (q_R o), some (q_I i), u5, u6] [] K M C c s := by
  obtain ⟨hx, hm, ho, hB, hR, h⟩ := h0
  have nb := nb_10 h.1.2.2.2.2 hk.2
  refine lz_aload_n dL_law_2219 rfl ?_
  refine lz_aload_n dL_law_2220 rfl ?_
  refine lz_iload dL_law_2221 rfl ?_
  refine lz_iconst dL_law_2223 ?_
  refine lz_iadd dL_law_2224 ?_
  refine lz_sald dL_law_2225 hn (by omega) (by omega) (fun hp1_2225 => ?_)
  refine lz_aload_n dL_law_2226 rfl ?_
  refine lz_iload dL_law_2227 rfl ?_
  refine lz_iconst dL_law_2229 ?_
  refine lz_iadd dL_law_2230 ?_
  refine lz_sald dL_law_2231 hn (by omega) (by omega) (fun hp2_2231 => ?_)
  refine lz_aload_n dL_law_2232 rfl ?_
  have oc := okc_asOf h (Z (i + 1)) (Z (i + 2))
  refine lz_callS (as := [q_R x, q_I (Z (i + 1)), q_I (Z (i + 2)), q_R o]) (rest := []) (c1 := 16) (s1 := 96) (c2 := c - 16) (s2 := s - 96) dL_law_2233 k_L_asOf l_L_242 s_L_asOf rfl rfl rfl rfl (Nat.le_of_ble_eq_true rfl) ⟨by decide, by decide⟩ (by omega) (by omega) (Nat.le_of_ble_eq_true rfl) (by decide) (w_asOf hx ho hR h hk hB (c := 16) (s := 96) (by omega) (by omega) hp1_2225 hp2_2231) (fun ov K2 M2 C2 g => ?_) (fun E K2 M2 C2 g => by obtain ⟨-, -, -, g5, -⟩ := g; cases g5)
  obtain ⟨⟨g1, g2⟩, g3, g4, g5, g6⟩ := g
  obtain rfl := Sum.inl.inj g5
  rw [g3]
  have hx2 := xt_get g1 hx (by decide)
  have hm2 := xt_get g1 hm (by decide)
  have ho2 := xt_get g1 ho (by decide)
  refine lz_istore (ls2 := [some (q_R 0), some (q_R x), some (q_R m), some (q_R o), some (q_I i), some (q_I ((asOfMF M (Z (i + 1)) (Z (i + 2))).2 50 41)), u6]) dL_law_2236 (by decide) rfl ?_
  refine lz_aload_n dL_law_2238 rfl ?_
  refine lz_aload_n dL_law_2239 rfl ?_
  refine lz_iload dL_law_2240 rfl ?_
  refine lz_iconst dL_law_2242 ?_
  refine lz_iadd dL_law_2243 ?_
  refine lz_sald dL_law_2244 hn (by omega) (by omega) (fun hp1_2244 => ?_)
  refine lz_aload_n dL_law_2245 rfl ?_
  refine lz_iload dL_law_2246 rfl ?_
  refine lz_iconst dL_law_2248 ?_
  refine lz_iadd dL_law_2249 ?_
  refine lz_sald dL_law_2250 hn (by omega) (by omega) (fun hp2_2250 => ?_)
  refine lz_cV (as := [q_I (Z (i + 1)), q_I (Z (i + 2))]) (rest := []) dL_law_2251 k_X11_asOf l_L_244 i_X11_asOf v_X11_asOf hm2 rfl (by decide) ⟨_, _, rfl⟩ rfl rfl rfl (Nat.le_of_ble_eq_true rfl) ⟨by decide, by decide⟩ (Nat.le_of_ble_eq_true rfl) (by decide) (m_asOf hm2 h.1.1  hp1_2244 hp2_2250 ) ?_
  refine lz_istore (ls2 := [some (q_R 0), some (q_R x), some (q_R m), some (q_R o), some (q_I i), some (q_I ((asOfMF M (Z (i + 1)) (Z (i + 2))).2 50 41)), some (q_I (asOfMF M (Z (i + 1)) (Z (i + 2))).1)]) dL_law_2254 (by decide) rfl ?_
  refine lz_aload_n dL_law_2256 rfl ?_
  refine lz_cV (as := []) (rest := []) dL_law_2257 k_X11_thrown l_L_130 i_X11_thrown v_X11_thrown hm2 rfl (by decide) ⟨_, _, rfl⟩ rfl rfl rfl (Nat.le_of_ble_eq_true rfl) ⟨by decide, by decide⟩ (Nat.le_of_ble_eq_true rfl) (by decide) (m_thrown hm2) ?_
  refine lz_iload dL_law_2260 rfl ?_
  refine lz_icmp_eq (tgt := 2267) dL_law_2262 (by decide) (iI_41 oc.1.1.1) rfl ?_
  refine lz_iload dL_law_2267 rfl ?_
  refine lz_if_ne (tgt := 2284) dL_law_2269 (by decide) (iI_41 oc.1.1.1) (fun z9 => ?_) (fun z9 => ?_)
  · refine lz_goto (tgt := 2480) dL_law_2284 (by decide) ?_
    exact kk _ _ _ _ _ ⟨hx2, hm2, ho2, g2, g4, oc.1⟩
  · refine lz_aload_n dL_law_2272 rfl ?_
    refine lz_iconst dL_law_2273 ?_
    refine lz_lald (by decide) dL_law_2274 ho2 (by decide) (by decide) ?_
    refine lz_iload dL_law_2275 rfl ?_
    refine lz_i2l dL_law_2277 oc.2 ?_
    refine lz_lcmp dL_law_2278 (iL_I oc.2) (g6 z9) ?_
    refine lz_if_eq (tgt := 2284) dL_law_2279 (by decide) q_zero (fun _ => ?_) (fun y => absurd rfl y)
    refine lz_goto (tgt := 2480) dL_law_2284 (by decide) ?_
    exact kk _ _ _ _ _ ⟨hx2, hm2, ho2, g2, g4, oc.1⟩
set_option maxRecDepth 20000 in
set_option maxHeartbeats 4000000 in
theorem lc_lockOf {l : Launch} {D : va_G} {B sb n : Nat} {Z : Int → Int} {K : q_K} {M C : q_S} {x m o : Nat} {i k : Int} {u5 u6 : Option q_V} {c s : Nat} (hn : n ≤ 2560) (hi : 0 ≤ i ∧ i + 5 ≤ (n : Int)) (hk : 0 ≤ k ∧ k < 512) (h0 : q_LI K M C x m o k) (hc : 16 ≤ c) (hs : 96 ≤ s)
    (kk : ∀ K2 M2 C2 w5 w6, q_LI K2 M2 C2 x m o (k + 1) → q_F l D B sb n Z 2480 [some (q_R 0), some (q_R x), some (q_R m), some (q_R o), some (q_I i), w5, w6] [] K2 M2 C2 (c - 16) (s - 96)) : q_F l D B sb n Z 2287 [some (q_R 0), some (q_R x), some (q_R m), some (q_R o), some (q_I i), u5, u6] [] K M C c s := by
  obtain ⟨hx, hm, ho, hB, hR, h⟩ := h0
  have nb := nb_10 h.1.2.2.2.2 hk.2
  refine lz_aload_n dL_law_2287 rfl ?_
  refine lz_aload_n dL_law_2288 rfl ?_
  refine lz_iload dL_law_2289 rfl ?_
  refine lz_iconst dL_law_2291 ?_
  refine lz_iadd dL_law_2292 ?_
  refine lz_sald dL_law_2293 hn (by omega) (by omega) (fun hp1_2293 => ?_)
  refine lz_aload_n dL_law_2294 rfl ?_
  have oc := okc_lockOf h (Z (i + 1))
  refine lz_callS (as := [q_R x, q_I (Z (i + 1)), q_R o]) (rest := []) (c1 := 16) (s1 := 96) (c2 := c - 16) (s2 := s - 96) dL_law_2295 k_L_lockOf l_L_245 s_L_lockOf rfl rfl rfl rfl (Nat.le_of_ble_eq_true rfl) ⟨by decide, by decide⟩ (by omega) (by omega) (Nat.le_of_ble_eq_true rfl) (by decide) (w_lockOf hx ho hR h hk hB (c := 16) (s := 96) (by omega) (by omega) hp1_2293) (fun ov K2 M2 C2 g => ?_) (fun E K2 M2 C2 g => by obtain ⟨-, -, -, g5, -⟩ := g; cases g5)
  obtain ⟨⟨g1, g2⟩, g3, g4, g5, g6⟩ := g
  obtain rfl := Sum.inl.inj g5
  rw [g3]
  have hx2 := xt_get g1 hx (by decide)
  have hm2 := xt_get g1 hm (by decide)
  have ho2 := xt_get g1 ho (by decide)
  refine lz_istore (ls2 := [some (q_R 0), some (q_R x), some (q_R m), some (q_R o), some (q_I i), some (q_I ((lockOfF M (Z (i + 1))).2 50 41)), u6]) dL_law_2298 (by decide) rfl ?_
  refine lz_aload_n dL_law_2300 rfl ?_
  refine lz_aload_n dL_law_2301 rfl ?_
  refine lz_iload dL_law_2302 rfl ?_
  refine lz_iconst dL_law_2304 ?_
  refine lz_iadd dL_law_2305 ?_
  refine lz_sald dL_law_2306 hn (by omega) (by omega) (fun hp1_2306 => ?_)
  refine lz_cV (as := [q_I (Z (i + 1))]) (rest := []) dL_law_2307 k_X11_lockOf l_L_247 i_X11_lockOf v_X11_lockOf hm2 rfl (by decide) ⟨_, _, rfl⟩ rfl rfl rfl (Nat.le_of_ble_eq_true rfl) ⟨by decide, by decide⟩ (Nat.le_of_ble_eq_true rfl) (by decide) (m_lockOf hm2 h.1.1  hp1_2306 ) ?_
  refine lz_istore (ls2 := [some (q_R 0), some (q_R x), some (q_R m), some (q_R o), some (q_I i), some (q_I ((lockOfF M (Z (i + 1))).2 50 41)), some (q_I (lockOfF M (Z (i + 1))).1)]) dL_law_2310 (by decide) rfl ?_
  refine lz_aload_n dL_law_2312 rfl ?_
  refine lz_cV (as := []) (rest := []) dL_law_2313 k_X11_thrown l_L_130 i_X11_thrown v_X11_thrown hm2 rfl (by decide) ⟨_, _, rfl⟩ rfl rfl rfl (Nat.le_of_ble_eq_true rfl) ⟨by decide, by decide⟩ (Nat.le_of_ble_eq_true rfl) (by decide) (m_thrown hm2) ?_
  refine lz_iload dL_law_2316 rfl ?_
  refine lz_icmp_eq (tgt := 2323) dL_law_2318 (by decide) (iI_41 oc.1.1.1) rfl ?_
  refine lz_iload dL_law_2323 rfl ?_
  refine lz_if_ne (tgt := 2340) dL_law_2325 (by decide) (iI_41 oc.1.1.1) (fun z9 => ?_) (fun z9 => ?_)
  · refine lz_goto (tgt := 2480) dL_law_2340 (by decide) ?_
    exact kk _ _ _ _ _ ⟨hx2, hm2, ho2, g2, g4, oc.1⟩
  · refine lz_aload_n dL_law_2328 rfl ?_
    refine lz_iconst dL_law_2329 ?_
    refine lz_lald (by decide) dL_law_2330 ho2 (by decide) (by decide) ?_
    refine lz_iload dL_law_2331 rfl ?_
    refine lz_i2l dL_law_2333 oc.2 ?_
    refine lz_lcmp dL_law_2334 (iL_I oc.2) (g6 z9) ?_
    refine lz_if_eq (tgt := 2340) dL_law_2335 (by decide) q_zero (fun _ => ?_) (fun y => absurd rfl y)
    refine lz_goto (tgt := 2480) dL_law_2340 (by decide) ?_
    exact kk _ _ _ _ _ ⟨hx2, hm2, ho2, g2, g4, oc.1⟩
set_option maxRecDepth 20000 in
set_option maxHeartbeats 4000000 in
theorem lc_right {l : Launch} {D : va_G} {B sb n : Nat} {Z : Int → Int} {K : q_K} {M C : q_S} {x m o : Nat} {i k : Int} {u5 u6 : Option q_V} {c s : Nat} (hn : n ≤ 2560) (hi : 0 ≤ i ∧ i + 5 ≤ (n : Int)) (hk : 0 ≤ k ∧ k < 512) (h0 : q_LI K M C x m o k) (hc : 16 ≤ c) (hs : 96 ≤ s)
    (kk : ∀ K2 M2 C2 w5 w6, q_LI K2 M2 C2 x m o (k + 1) → q_F l D B sb n Z 2480 [some (q_R 0), some (q_R x), some (q_R m), some (q_R o), some (q_I i), w5, w6] [] K2 M2 C2 (c - 16) (s - 96)) : q_F l D B sb n Z 2343 [some (q_R 0), some (q_R x), some (q_R m), some (q_R o), some (q_I i), u5, u6] [] K M C c s := by
  obtain ⟨hx, hm, ho, hB, hR, h⟩ := h0
  have nb := nb_10 h.1.2.2.2.2 hk.2
  refine lz_aload_n dL_law_2343 rfl ?_
  refine lz_aload_n dL_law_2344 rfl ?_
  refine lz_iload dL_law_2345 rfl ?_
  refine lz_iconst dL_law_2347 ?_
  refine lz_iadd dL_law_2348 ?_
  refine lz_sald dL_law_2349 hn (by omega) (by omega) (fun hp1_2349 => ?_)
  refine lz_aload_n dL_law_2350 rfl ?_
  refine lz_iload dL_law_2351 rfl ?_
  refine lz_iconst dL_law_2353 ?_
  refine lz_iadd dL_law_2354 ?_
  refine lz_sald dL_law_2355 hn (by omega) (by omega) (fun hp2_2355 => ?_)
  refine lz_aload_n dL_law_2356 rfl ?_
  have oc := okc_right h (Z (i + 1)) (Z (i + 2))
  refine lz_callS (as := [q_R x, q_I (Z (i + 1)), q_I (Z (i + 2)), q_R o]) (rest := []) (c1 := 16) (s1 := 96) (c2 := c - 16) (s2 := s - 96) dL_law_2357 k_L_right l_L_248 s_L_right rfl rfl rfl rfl (Nat.le_of_ble_eq_true rfl) ⟨by decide, by decide⟩ (by omega) (by omega) (Nat.le_of_ble_eq_true rfl) (by decide) (w_right hx ho hR h hk hB (c := 16) (s := 96) (by omega) (by omega) hp1_2349 hp2_2355) (fun ov K2 M2 C2 g => ?_) (fun E K2 M2 C2 g => by obtain ⟨-, -, -, g5, -⟩ := g; cases g5)
  obtain ⟨⟨g1, g2⟩, g3, g4, g5, g6⟩ := g
  obtain rfl := Sum.inl.inj g5
  rw [g3]
  have hx2 := xt_get g1 hx (by decide)
  have hm2 := xt_get g1 hm (by decide)
  have ho2 := xt_get g1 ho (by decide)
  refine lz_istore (ls2 := [some (q_R 0), some (q_R x), some (q_R m), some (q_R o), some (q_I i), some (q_I ((rightMF M (Z (i + 1)) (Z (i + 2))).2 50 41)), u6]) dL_law_2360 (by decide) rfl ?_
  refine lz_aload_n dL_law_2362 rfl ?_
  refine lz_aload_n dL_law_2363 rfl ?_
  refine lz_iload dL_law_2364 rfl ?_
  refine lz_iconst dL_law_2366 ?_
  refine lz_iadd dL_law_2367 ?_
  refine lz_sald dL_law_2368 hn (by omega) (by omega) (fun hp1_2368 => ?_)
  refine lz_aload_n dL_law_2369 rfl ?_
  refine lz_iload dL_law_2370 rfl ?_
  refine lz_iconst dL_law_2372 ?_
  refine lz_iadd dL_law_2373 ?_
  refine lz_sald dL_law_2374 hn (by omega) (by omega) (fun hp2_2374 => ?_)
  refine lz_cV (as := [q_I (Z (i + 1)), q_I (Z (i + 2))]) (rest := []) dL_law_2375 k_X11_right l_L_250 i_X11_right v_X11_right hm2 rfl (by decide) ⟨_, _, rfl⟩ rfl rfl rfl (Nat.le_of_ble_eq_true rfl) ⟨by decide, by decide⟩ (Nat.le_of_ble_eq_true rfl) (by decide) (m_right hm2 h.1.1  hp1_2368 hp2_2374 ) ?_
  refine lz_istore (ls2 := [some (q_R 0), some (q_R x), some (q_R m), some (q_R o), some (q_I i), some (q_I ((rightMF M (Z (i + 1)) (Z (i + 2))).2 50 41)), some (q_I (rightMF M (Z (i + 1)) (Z (i + 2))).1)]) dL_law_2378 (by decide) rfl ?_
  refine lz_aload_n dL_law_2380 rfl ?_
  refine lz_cV (as := []) (rest := []) dL_law_2381 k_X11_thrown l_L_130 i_X11_thrown v_X11_thrown hm2 rfl (by decide) ⟨_, _, rfl⟩ rfl rfl rfl (Nat.le_of_ble_eq_true rfl) ⟨by decide, by decide⟩ (Nat.le_of_ble_eq_true rfl) (by decide) (m_thrown hm2) ?_
  refine lz_iload dL_law_2384 rfl ?_
  refine lz_icmp_eq (tgt := 2391) dL_law_2386 (by decide) (iI_41 oc.1.1.1) rfl ?_
  refine lz_iload dL_law_2391 rfl ?_
  refine lz_if_ne (tgt := 2408) dL_law_2393 (by decide) (iI_41 oc.1.1.1) (fun z9 => ?_) (fun z9 => ?_)
  · refine lz_goto (tgt := 2480) dL_law_2408 (by decide) ?_
    exact kk _ _ _ _ _ ⟨hx2, hm2, ho2, g2, g4, oc.1⟩
  · refine lz_aload_n dL_law_2396 rfl ?_
    refine lz_iconst dL_law_2397 ?_
    refine lz_lald (by decide) dL_law_2398 ho2 (by decide) (by decide) ?_
    refine lz_iload dL_law_2399 rfl ?_
    refine lz_i2l dL_law_2401 oc.2 ?_
    refine lz_lcmp dL_law_2402 (iL_I oc.2) (g6 z9) ?_
    refine lz_if_eq (tgt := 2408) dL_law_2403 (by decide) q_zero (fun _ => ?_) (fun y => absurd rfl y)
    refine lz_goto (tgt := 2480) dL_law_2408 (by decide) ?_
    exact kk _ _ _ _ _ ⟨hx2, hm2, ho2, g2, g4, oc.1⟩
set_option maxRecDepth 20000 in
set_option maxHeartbeats 4000000 in
theorem lc_count {l : Launch} {D : va_G} {B sb n : Nat} {Z : Int → Int} {K : q_K} {M C : q_S} {x m o : Nat} {i k : Int} {u5 u6 : Option q_V} {c s : Nat} (hn : n ≤ 2560) (hi : 0 ≤ i ∧ i + 5 ≤ (n : Int)) (hk : 0 ≤ k ∧ k < 512) (h0 : q_LI K M C x m o k) (hc : 16 ≤ c) (hs : 96 ≤ s)
    (kk : ∀ K2 M2 C2 w5 w6, q_LI K2 M2 C2 x m o (k + 1) → q_F l D B sb n Z 2480 [some (q_R 0), some (q_R x), some (q_R m), some (q_R o), some (q_I i), w5, w6] [] K2 M2 C2 (c - 16) (s - 96)) : q_F l D B sb n Z 2411 [some (q_R 0), some (q_R x), some (q_R m), some (q_R o), some (q_I i), u5, u6] [] K M C c s := by
  obtain ⟨hx, hm, ho, hB, hR, h⟩ := h0
  have nb := nb_10 h.1.2.2.2.2 hk.2
  refine lz_aload_n dL_law_2411 rfl ?_
  refine lz_aload_n dL_law_2412 rfl ?_
  refine lz_iload dL_law_2413 rfl ?_
  refine lz_iconst dL_law_2415 ?_
  refine lz_iadd dL_law_2416 ?_
  refine lz_sald dL_law_2417 hn (by omega) (by omega) (fun hp1_2417 => ?_)
  refine lz_aload_n dL_law_2418 rfl ?_
  have oc := okc_count h (Z (i + 1))
  refine lz_callS (as := [q_R x, q_I (Z (i + 1)), q_R o]) (rest := []) (c1 := 16) (s1 := 96) (c2 := c - 16) (s2 := s - 96) dL_law_2419 k_L_count l_L_251 s_L_count rfl rfl rfl rfl (Nat.le_of_ble_eq_true rfl) ⟨by decide, by decide⟩ (by omega) (by omega) (Nat.le_of_ble_eq_true rfl) (by decide) (w_count hx ho hR h hk hB (c := 16) (s := 96) (by omega) (by omega) hp1_2417) (fun ov K2 M2 C2 g => ?_) (fun E K2 M2 C2 g => by obtain ⟨-, -, -, g5, -⟩ := g; cases g5)
  obtain ⟨⟨g1, g2⟩, g3, g4, g5, g6⟩ := g
  obtain rfl := Sum.inl.inj g5
  rw [g3]
  have hx2 := xt_get g1 hx (by decide)
  have hm2 := xt_get g1 hm (by decide)
  have ho2 := xt_get g1 ho (by decide)
  refine lz_istore (ls2 := [some (q_R 0), some (q_R x), some (q_R m), some (q_R o), some (q_I i), some (q_I ((countF M (Z (i + 1))).2 50 41)), u6]) dL_law_2422 (by decide) rfl ?_
  refine lz_aload_n dL_law_2424 rfl ?_
  refine lz_aload_n dL_law_2425 rfl ?_
  refine lz_iload dL_law_2426 rfl ?_
  refine lz_iconst dL_law_2428 ?_
  refine lz_iadd dL_law_2429 ?_
  refine lz_sald dL_law_2430 hn (by omega) (by omega) (fun hp1_2430 => ?_)
  refine lz_cV (as := [q_I (Z (i + 1))]) (rest := []) dL_law_2431 k_X11_count l_L_253 i_X11_count v_X11_count hm2 rfl (by decide) ⟨_, _, rfl⟩ rfl rfl rfl (Nat.le_of_ble_eq_true rfl) ⟨by decide, by decide⟩ (Nat.le_of_ble_eq_true rfl) (by decide) (m_count hm2 h.1.1  hp1_2430 ) ?_
  refine lz_istore (ls2 := [some (q_R 0), some (q_R x), some (q_R m), some (q_R o), some (q_I i), some (q_I ((countF M (Z (i + 1))).2 50 41)), some (q_I (countF M (Z (i + 1))).1)]) dL_law_2434 (by decide) rfl ?_
  refine lz_aload_n dL_law_2436 rfl ?_
  refine lz_cV (as := []) (rest := []) dL_law_2437 k_X11_thrown l_L_130 i_X11_thrown v_X11_thrown hm2 rfl (by decide) ⟨_, _, rfl⟩ rfl rfl rfl (Nat.le_of_ble_eq_true rfl) ⟨by decide, by decide⟩ (Nat.le_of_ble_eq_true rfl) (by decide) (m_thrown hm2) ?_
  refine lz_iload dL_law_2440 rfl ?_
  refine lz_icmp_eq (tgt := 2447) dL_law_2442 (by decide) (iI_41 oc.1.1.1) rfl ?_
  refine lz_iload dL_law_2447 rfl ?_
  refine lz_if_ne (tgt := 2464) dL_law_2449 (by decide) (iI_41 oc.1.1.1) (fun z9 => ?_) (fun z9 => ?_)
  · refine lz_goto (tgt := 2480) dL_law_2464 (by decide) ?_
    exact kk _ _ _ _ _ ⟨hx2, hm2, ho2, g2, g4, oc.1⟩
  · refine lz_aload_n dL_law_2452 rfl ?_
    refine lz_iconst dL_law_2453 ?_
    refine lz_lald (by decide) dL_law_2454 ho2 (by decide) (by decide) ?_
    refine lz_iload dL_law_2455 rfl ?_
    refine lz_i2l dL_law_2457 oc.2 ?_
    refine lz_lcmp dL_law_2458 (iL_I oc.2) (g6 z9) ?_
    refine lz_if_eq (tgt := 2464) dL_law_2459 (by decide) q_zero (fun _ => ?_) (fun y => absurd rfl y)
    refine lz_goto (tgt := 2480) dL_law_2464 (by decide) ?_
    exact kk _ _ _ _ _ ⟨hx2, hm2, ho2, g2, g4, oc.1⟩
set_option maxRecDepth 20000 in
set_option maxHeartbeats 4000000 in
theorem lc_lost {l : Launch} {D : va_G} {B sb n : Nat} {Z : Int → Int} {K : q_K} {M C : q_S} {x m o : Nat} {i k : Int} {u5 u6 : Option q_V} {c s : Nat} (hn : n ≤ 2560) (hi : 0 ≤ i ∧ i + 5 ≤ (n : Int)) (hk : 0 ≤ k ∧ k < 512) (h0 : q_LI K M C x m o k) (hc : 16 ≤ c) (hs : 96 ≤ s)
    (kk : ∀ K2 M2 C2 w5 w6, q_LI K2 M2 C2 x m o (k + 1) → q_F l D B sb n Z 2480 [some (q_R 0), some (q_R x), some (q_R m), some (q_R o), some (q_I i), w5, w6] [] K2 M2 C2 (c - 16) (s - 96)) : q_F l D B sb n Z 2467 [some (q_R 0), some (q_R x), some (q_R m), some (q_R o), some (q_I i), u5, u6] [] K M C c s := by
  obtain ⟨hx, hm, ho, hB, hR, h⟩ := h0
  have nb := nb_10 h.1.2.2.2.2 hk.2
  refine lz_aload_n dL_law_2467 rfl ?_
  have oc := okc_lost h hk
  have t0 := t0_lost M
  refine lz_callV (as := []) (rest := []) (c1 := 1) (s1 := 6) (c2 := c - 16) (s2 := s - 96) dL_law_2468 k_X10_lost l_L_254 i_X10_lost v_X10_lost hx rfl (by decide) ⟨_, _, rfl⟩ rfl rfl rfl rfl (Nat.le_of_ble_eq_true rfl) ⟨by decide, by decide⟩ (by omega) (by omega) (Nat.le_of_ble_eq_true rfl) (by decide) (c_10_lost hx hR h.1.2.2.1 h.1.1 hB (c := 1) (s := 6) (by omega) (by omega)) (fun ov K2 M2 C2 g => ?_) (fun E K2 M2 C2 g => by
    obtain ⟨-, -, -, g5⟩ := g
    rcases g5 with g5 | g5 | g5 | g5
    · cases g5.2
    all_goals omega)
  obtain ⟨⟨g1, g2⟩, g3, g4, g5⟩ := g
  have g6 : ov = some (q_I (lostF M).1) := by
    rcases g5 with g5 | g5 | g5 | g5
    · exact Sum.inl.inj g5.2
    all_goals (exact absurd g5.2 (by intro z; cases z))
  subst g6
  rw [g3]
  have hx2 := xt_get g1 hx (by decide)
  have hm2 := xt_get g1 hm (by decide)
  have ho2 := xt_get g1 ho (by decide)
  refine lz_aload_n dL_law_2471 rfl ?_
  refine lz_cV (as := []) (rest := [q_I (lostF M).1]) dL_law_2472 k_X11_lost l_L_257 i_X11_lost v_X11_lost hm2 rfl (by decide) ⟨_, _, rfl⟩ rfl rfl rfl (Nat.le_of_ble_eq_true rfl) ⟨by decide, by decide⟩ (Nat.le_of_ble_eq_true rfl) (by decide) (m_lost hm2 h.1.1   ) ?_
  refine lz_icmp_eq (tgt := 2480) dL_law_2475 (by decide) oc.2 rfl ?_
  exact kk _ _ _ _ _ ⟨hx2, hm2, ho2, g2, g4, oc.1⟩
