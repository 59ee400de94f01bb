theorem okc_idle {M : q_S} {k : Int} (h : OKC M k) : OKC M (k + 1) := by
  have h1 := okc_thr h (z := M 50 41) (rs_41 h.1.1)
  have e : thr M (M 50 41) = M := by
    funext t j
    show (if t = 50 ∧ j = 41 then M 50 41 else M t j) = M t j
    by_cases g : t = 50 ∧ j = 41
    · rw [if_pos g, g.1, g.2]
    · rw [if_neg g]
  rwa [e] at h1
/-- a call that is none: nothing changes, and one call more has gone by -/
theorem lz_idle {K : q_K} {M C : q_S} {x m o : Nat} {k : Int} (h : q_LI K M C x m o k) : q_LI K M C x m o (k + 1) := by
  obtain ⟨h1, h2, h3, h4, h5, h6⟩ := h
  exact ⟨h1, h2, h3, h4, h5, okc_idle h6⟩
set_option maxRecDepth 20000 in
set_option maxHeartbeats 8000000 in
theorem lz_loop {l : Launch} {D : va_G} {B sb n : Nat} {Z : Int → Int} {x m o : Nat} (hn : n ≤ 2560) : ∀ (r : Nat) (i k : Int) (K : q_K) (M C : q_S) (u5 u6 : Option q_V) (c s : Nat), i = 5 * k → 0 ≤ k → k + (r : Int) = 512 → q_LI K M C x m o k → 16 * r ≤ c → 96 * r ≤ s → q_F l D B sb n Z 23 [some (q_R 0), some (q_R x), some (q_R m), some (q_R o), some (q_I i), u5, u6] [] K M C c s := by
  intro r
  induction r with
  | zero =>
    intro i k K M C u5 u6 c s hi h0 hr hLI hc hs
    refine lz_iload dL_law_23 rfl ?_
    refine lz_aload_n dL_law_25 rfl ?_
    refine lz_slen dL_law_26 hn ?_
    refine lz_iconst dL_law_27 ?_
    refine lz_isub dL_law_28 ?_
    refine lz_icmp_gt (tgt := 2486) dL_law_29 (by decide) ⟨by omega, by omega⟩ ⟨by omega, by omega⟩ (fun _ => ?_) (fun y => ?_)
    · refine lz_iconst dL_law_2486 ?_
      exact lz_iret dL_law_2487
    · exfalso; omega
  | succ r ih =>
    intro i k K M C u5 u6 c s hi h0 hr hLI hc hs
    refine lz_iload dL_law_23 rfl ?_
    refine lz_aload_n dL_law_25 rfl ?_
    refine lz_slen dL_law_26 hn ?_
    refine lz_iconst dL_law_27 ?_
    refine lz_isub dL_law_28 ?_
    refine lz_icmp_gt (tgt := 2486) dL_law_29 (by decide) ⟨by omega, by omega⟩ ⟨by omega, by omega⟩ (fun _ => ?_) (fun y => ?_)
    · refine lz_iconst dL_law_2486 ?_
      exact lz_iret dL_law_2487
    have hi5 : 0 ≤ i ∧ i + 5 ≤ (n : Int) := ⟨by omega, by omega⟩
    have hk : 0 ≤ k ∧ k < 512 := ⟨h0, by omega⟩
    have hc2 : 16 ≤ c := by omega
    have hs2 : 96 ≤ s := by omega
    have tail : ∀ K2 M2 C2 w5 w6, q_LI K2 M2 C2 x m o (k + 1) → q_F l D B sb n Z 2480 [some (q_R 0), some (q_R x), some (q_R m), some (q_R o), some (q_I i), w5, w6] [] K2 M2 C2 (c - 16) (s - 96) := by
      intro K2 M2 C2 w5 w6 hL2
      refine lz_iinc (ls2 := [some (q_R 0), some (q_R x), some (q_R m), some (q_R o), some (q_I (i + 5)), w5, w6]) dL_law_2480 rfl (by decide) rfl ?_
      refine lz_goto (tgt := 23) dL_law_2483 (by decide) ?_
      exact ih (i + 5) (k + 1) K2 M2 C2 w5 w6 _ _ (by omega) (by omega) (by omega) hL2 (by omega) (by omega)
    refine lz_aload_n dL_law_32 rfl ?_
    refine lz_iload dL_law_33 rfl ?_
    refine lz_sald dL_law_35 hn (by omega) (by omega) (fun hz => ?_)
    refine lz_bipush dL_law_36 (by decide) ?_
    refine lz_iand63 dL_law_38 rfl hz ?_
    have hz1 : 0 ≤ Z i % 64 := Int.emod_nonneg _ (by decide)
    have hz2 : Z i % 64 < 64 := Int.emod_lt_of_pos _ (by decide)
    have hq : q_iI (Z i % 64) := ⟨by omega, by omega⟩
    generalize Z i % 64 = z at hz1 hz2 hq ⊢
    by_cases e0 : z = 0
    · exact lz_tsIn (j := 0) (off := 169) (tgt := 208) dL_law_39 hq (by omega) (by omega) (by decide) (by decide) (lc_draft hn hi5 hk hLI hc2 hs2 tail)
    by_cases e1 : z = 1
    · exact lz_tsIn (j := 1) (off := 225) (tgt := 264) dL_law_39 hq (by omega) (by omega) (by decide) (by decide) (lc_write hn hi5 hk hLI hc2 hs2 tail)
    by_cases e2 : z = 2
    · exact lz_tsIn (j := 2) (off := 293) (tgt := 332) dL_law_39 hq (by omega) (by omega) (by decide) (by decide) (lc_move hn hi5 hk hLI hc2 hs2 tail)
    by_cases e3 : z = 3
    · exact lz_tsIn (j := 3) (off := 373) (tgt := 412) dL_law_39 hq (by omega) (by omega) (by decide) (by decide) (lc_erase hn hi5 hk hLI hc2 hs2 tail)
    by_cases e4 : z = 4
    · exact lz_tsIn (j := 4) (off := 441) (tgt := 480) dL_law_39 hq (by omega) (by omega) (by decide) (by decide) (lc_late hn hi5 hk hLI hc2 hs2 tail)
    by_cases e5 : z = 5
    · exact lz_tsIn (j := 5) (off := 509) (tgt := 548) dL_law_39 hq (by omega) (by omega) (by decide) (by decide) (lc_lose hn hi5 hk hLI hc2 hs2 tail)
    by_cases e6 : z = 6
    · exact lz_tsIn (j := 6) (off := 565) (tgt := 604) dL_law_39 hq (by omega) (by omega) (by decide) (by decide) (lc_scan hn hi5 hk hLI hc2 hs2 tail)
    by_cases e7 : z = 7
    · exact lz_tsIn (j := 7) (off := 621) (tgt := 660) dL_law_39 hq (by omega) (by omega) (by decide) (by decide) (lc_room hn hi5 hk hLI hc2 hs2 tail)
    by_cases e8 : z = 8
    · exact lz_tsIn (j := 8) (off := 689) (tgt := 728) dL_law_39 hq (by omega) (by omega) (by decide) (by decide) (lc_pin hn hi5 hk hLI hc2 hs2 tail)
    by_cases e9 : z = 9
    · exact lz_tsIn (j := 9) (off := 792) (tgt := 831) dL_law_39 hq (by omega) (by omega) (by decide) (by decide) (lc_upload hn hi5 hk hLI hc2 hs2 tail)
    by_cases e10 : z = 10
    · exact lz_tsIn (j := 10) (off := 860) (tgt := 899) dL_law_39 hq (by omega) (by omega) (by decide) (by decide) (lc_pull hn hi5 hk hLI hc2 hs2 tail)
    by_cases e11 : z = 11
    · exact lz_tsIn (j := 11) (off := 916) (tgt := 955) dL_law_39 hq (by omega) (by omega) (by decide) (by decide) (lc_open hn hi5 hk hLI hc2 hs2 tail)
    by_cases e12 : z = 12
    · exact lz_tsIn (j := 12) (off := 984) (tgt := 1023) dL_law_39 hq (by omega) (by omega) (by decide) (by decide) (lc_lock hn hi5 hk hLI hc2 hs2 tail)
    by_cases e13 : z = 13
    · exact lz_tsIn (j := 13) (off := 1064) (tgt := 1103) dL_law_39 hq (by omega) (by omega) (by decide) (by decide) (lc_breakLock hn hi5 hk hLI hc2 hs2 tail)
    by_cases e14 : z = 14
    · exact lz_tsIn (j := 14) (off := 1120) (tgt := 1159) dL_law_39 hq (by omega) (by omega) (by decide) (by decide) (lc_share hn hi5 hk hLI hc2 hs2 tail)
    by_cases e15 : z = 15
    · exact lz_tsIn (j := 15) (off := 1192) (tgt := 1231) dL_law_39 hq (by omega) (by omega) (by decide) (by decide) (lc_hold hn hi5 hk hLI hc2 hs2 tail)
    by_cases e16 : z = 16
    · exact lz_tsIn (j := 16) (off := 1272) (tgt := 1311) dL_law_39 hq (by omega) (by omega) (by decide) (by decide) (lc_release hn hi5 hk hLI hc2 hs2 tail)
    by_cases e17 : z = 17
    · exact lz_tsIn (j := 17) (off := 1285) (tgt := 1324) dL_law_39 hq (by omega) (by omega) (by decide) (by decide) (lc_thin hn hi5 hk hLI hc2 hs2 tail)
    by_cases e18 : z = 18
    · exact lz_tsIn (j := 18) (off := 1298) (tgt := 1337) dL_law_39 hq (by omega) (by omega) (by decide) (by decide) (lc_restore hn hi5 hk hLI hc2 hs2 tail)
    by_cases e19 : z = 19
    · exact lz_tsIn (j := 19) (off := 1366) (tgt := 1405) dL_law_39 hq (by omega) (by omega) (by decide) (by decide) (lc_restoreFolder hn hi5 hk hLI hc2 hs2 tail)
    by_cases e20 : z = 20
    · exact lz_tsIn (j := 20) (off := 1434) (tgt := 1473) dL_law_39 hq (by omega) (by omega) (by decide) (by decide) (lc_damage hn hi5 hk hLI hc2 hs2 tail)
    by_cases e21 : z = 21
    · exact lz_tsIn (j := 21) (off := 1490) (tgt := 1529) dL_law_39 hq (by omega) (by omega) (by decide) (by decide) (lc_scrub hn hi5 hk hLI hc2 hs2 tail)
    by_cases e22 : z = 22
    · exact lz_tsIn (j := 22) (off := 1503) (tgt := 1542) dL_law_39 hq (by omega) (by omega) (by decide) (by decide) (lc_follow hn hi5 hk hLI hc2 hs2 tail)
    by_cases e23 : z = 23
    · exact lz_tsIn (j := 23) (off := 1559) (tgt := 1598) dL_law_39 hq (by omega) (by omega) (by decide) (by decide) (lc_pass hn hi5 hk hLI hc2 hs2 tail)
    by_cases e24 : z = 24
    · exact lz_tsIn (j := 24) (off := 1615) (tgt := 1654) dL_law_39 hq (by omega) (by omega) (by decide) (by decide) (lc_time hn hi5 hk hLI hc2 hs2 tail)
    by_cases e25 : z = 25
    · exact lz_tsIn (j := 25) (off := 1628) (tgt := 1667) dL_law_39 hq (by omega) (by omega) (by decide) (by decide) (lc_stateOf hn hi5 hk hLI hc2 hs2 tail)
    by_cases e26 : z = 26
    · exact lz_tsIn (j := 26) (off := 1696) (tgt := 1735) dL_law_39 hq (by omega) (by omega) (by decide) (by decide) (lc_folderOf hn hi5 hk hLI hc2 hs2 tail)
    by_cases e27 : z = 27
    · exact lz_tsIn (j := 27) (off := 1764) (tgt := 1803) dL_law_39 hq (by omega) (by omega) (by decide) (by decide) (lc_numberAt hn hi5 hk hLI hc2 hs2 tail)
    by_cases e28 : z = 28
    · exact lz_tsIn (j := 28) (off := 1844) (tgt := 1883) dL_law_39 hq (by omega) (by omega) (by decide) (by decide) (lc_isChanged hn hi5 hk hLI hc2 hs2 tail)
    by_cases e29 : z = 29
    · exact lz_tsIn (j := 29) (off := 1919) (tgt := 1958) dL_law_39 hq (by omega) (by omega) (by decide) (by decide) (lc_seen hn hi5 hk hLI hc2 hs2 tail)
    by_cases e30 : z = 30
    · exact lz_tsIn (j := 30) (off := 1987) (tgt := 2026) dL_law_39 hq (by omega) (by omega) (by decide) (by decide) (lc_noted hn hi5 hk hLI hc2 hs2 tail)
    by_cases e31 : z = 31
    · exact lz_tsIn (j := 31) (off := 2043) (tgt := 2082) dL_law_39 hq (by omega) (by omega) (by decide) (by decide) (lc_taken hn hi5 hk hLI hc2 hs2 tail)
    by_cases e32 : z = 32
    · exact lz_tsIn (j := 32) (off := 2099) (tgt := 2138) dL_law_39 hq (by omega) (by omega) (by decide) (by decide) (lc_versions hn hi5 hk hLI hc2 hs2 tail)
    by_cases e33 : z = 33
    · exact lz_tsIn (j := 33) (off := 2112) (tgt := 2151) dL_law_39 hq (by omega) (by omega) (by decide) (by decide) (lc_version hn hi5 hk hLI hc2 hs2 tail)
    by_cases e34 : z = 34
    · exact lz_tsIn (j := 34) (off := 2180) (tgt := 2219) dL_law_39 hq (by omega) (by omega) (by decide) (by decide) (lc_asOf hn hi5 hk hLI hc2 hs2 tail)
    by_cases e35 : z = 35
    · exact lz_tsIn (j := 35) (off := 2248) (tgt := 2287) dL_law_39 hq (by omega) (by omega) (by decide) (by decide) (lc_lockOf hn hi5 hk hLI hc2 hs2 tail)
    by_cases e36 : z = 36
    · exact lz_tsIn (j := 36) (off := 2304) (tgt := 2343) dL_law_39 hq (by omega) (by omega) (by decide) (by decide) (lc_right hn hi5 hk hLI hc2 hs2 tail)
    by_cases e37 : z = 37
    · exact lz_tsIn (j := 37) (off := 2372) (tgt := 2411) dL_law_39 hq (by omega) (by omega) (by decide) (by decide) (lc_count hn hi5 hk hLI hc2 hs2 tail)
    by_cases e38 : z = 38
    · exact lz_tsIn (j := 38) (off := 2428) (tgt := 2467) dL_law_39 hq (by omega) (by omega) (by decide) (by decide) (lc_lost hn hi5 hk hLI hc2 hs2 tail)
    refine lz_tsOut (tgt := 2480) dL_law_39 hq (Or.inr (by omega)) (by decide) ?_
    refine lz_room (c1 := c - 16) (s1 := s - 96) (by omega) (by omega) ?_
    exact tail K M C u5 u6 (lz_idle hLI)
