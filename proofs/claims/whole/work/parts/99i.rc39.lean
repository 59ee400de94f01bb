/-! every call keeps what holds of a run, and answers an int -/
def OKC (M : q_S) (k : Int) : Prop := INV M k ∧ GI M k
theorem okc_thr {M : q_S} {k : Int} (h : OKC M k) {z : Int} (hz : 0 ≤ z ∧ z ≤ 3) : OKC (thr M z) (k + 1) := ⟨inv_thr h.1 hz, gi_thr h.2 z⟩
theorem okc_ini : OKC m0 0 := ⟨inv_ini, gi_ini⟩
theorem iI_of {z : Int} (h : -1000000 ≤ z ∧ z ≤ 1000000) : q_iI z := ⟨by omega, by omega⟩
theorem iI_0 : q_iI 0 := iI_of (by decide)
theorem okc_draft {M : q_S} {k : Int} (h : OKC M k) (hk : 0 ≤ k ∧ k < 512) (n : Int) : OKC (draftF M n).2 (k + 1) ∧ q_iI (draftF M n).1 := by
  have hW := h.1.1
  refine ⟨⟨inv_draft h.1 n, gi_draft h.2 h.1.2.2.1 n⟩, ?_⟩
  unfold draftF
  split
  · exact iI_0
  split
  · exact iI_0
  exact iI_of (by have := mlen_nn ((if M 50 0 = 0 then 10 else 10 * M 50 0) + n); dsimp only; omega)
theorem okc_write {M : q_S} {k : Int} (h : OKC M k) (hk : 0 ≤ k ∧ k < 512) (m f : Int) : OKC (writeF M m f).2 (k + 1) ∧ q_iI (writeF M m f).1 := by
  have hW := h.1.1
  refine ⟨⟨inv_write h.1 hk.2 m f, gi_write h.2 hW h.1.2.2.1 m f⟩, ?_⟩
  unfold writeF
  split
  · exact iI_0
  split
  · exact iI_0
  exact iI_of (by have := mlen_nn (M 50 0); dsimp only; omega)
theorem okc_move {M : q_S} {k : Int} (h : OKC M k) (hk : 0 ≤ k ∧ k < 512) (m f d : Int) : OKC (moveF M m f d).2 (k + 1) ∧ q_iI (moveF M m f d).1 := by
  have hW := h.1.1
  refine ⟨⟨inv_move h.1 hk.2 m f d, gi_move h.2 m f d⟩, ?_⟩
  unfold moveF
  split
  · exact iI_0
  split
  · exact iI_0
  exact iI_of (by have : 0 ≤ M 4 (16 * m + f) ∧ M 4 (16 * m + f) ≤ 3 := hW 4 _; dsimp only; omega)
theorem okc_erase {M : q_S} {k : Int} (h : OKC M k) (hk : 0 ≤ k ∧ k < 512) (m f : Int) : OKC (eraseF M m f).2 (k + 1) ∧ q_iI (eraseF M m f).1 := by
  have hW := h.1.1
  refine ⟨⟨inv_erase h.1 hk.2 m f, gi_erase h.2 m f⟩, ?_⟩
  unfold eraseF
  split
  · exact iI_0
  split
  · exact iI_0
  exact iI_of (by have : 0 ≤ M 2 (16 * m + f) ∧ M 2 (16 * m + f) ≤ 2 := hW 2 _; dsimp only; omega)
theorem okc_late {M : q_S} {k : Int} (h : OKC M k) (hk : 0 ≤ k ∧ k < 512) (m x : Int) : OKC (lateF M m x).2 (k + 1) ∧ q_iI (lateF M m x).1 := by
  have hW := h.1.1
  refine ⟨⟨inv_late h.1 m x, gi_late h.2 m x⟩, ?_⟩
  unfold lateF
  split
  · exact iI_0
  split
  · exact iI_0
  exact iI_of (by have : 0 ≤ M 11 m ∧ M 11 m ≤ 50 := hW 11 _; dsimp only; omega)
theorem okc_room {M : q_S} {k : Int} (h : OKC M k) (hk : 0 ≤ k ∧ k < 512) (m x : Int) : OKC (roomF M m x).2 (k + 1) ∧ q_iI (roomF M m x).1 := by
  have hW := h.1.1
  refine ⟨⟨inv_room h.1 m x, gi_room h.2 m x⟩, ?_⟩
  unfold roomF
  split
  · exact iI_0
  split
  · exact iI_0
  exact iI_of (by have : 0 ≤ M 12 m ∧ M 12 m ≤ 200 := hW 12 _; dsimp only; omega)
theorem okc_lose {M : q_S} {k : Int} (h : OKC M k) (hk : 0 ≤ k ∧ k < 512) (m : Int) : OKC (loseF M m).2 (k + 1) ∧ q_iI (loseF M m).1 := by
  have hW := h.1.1
  refine ⟨⟨inv_lose h.1 m, gi_lose h.2 m⟩, ?_⟩
  unfold loseF
  split
  · exact iI_0
  have hh : ∀ n : Nat, 0 ≤ (loF (thr M 0) m n).1 ∧ (loF (thr M 0) m n).1 ≤ n := by
    intro n
    induction n with
    | zero => exact ⟨Int.le_refl _, Int.le_refl _⟩
    | succ n ih =>
      simp only [loF]
      split <;> ((try dsimp only); omega)
  exact iI_of (by have a := hh (M 50 13).toNat; have b := rs_13 hW; omega)
theorem okc_scan {M : q_S} {k : Int} (h : OKC M k) (hk : 0 ≤ k ∧ k < 512) (m : Int) : OKC (scanF M m).2 (k + 1) ∧ q_iI (scanF M m).1 := by
  have hW := h.1.1
  refine ⟨⟨inv_scan h.1 hk.2 m, gi_scan h.2 m⟩, ?_⟩
  unfold scanF
  split
  · exact iI_0
  have hh : ∀ n : Nat, 0 ≤ (scF (thr M 0) m n).1 ∧ (scF (thr M 0) m n).1 ≤ n := by
    intro n
    induction n with
    | zero => exact ⟨Int.le_refl _, Int.le_refl _⟩
    | succ n ih =>
      simp only [scF]
      split <;> ((try dsimp only); omega)
  exact iI_of (by have a := hh 16; omega)
theorem okc_pin {M : q_S} {k : Int} (h : OKC M k) (hk : 0 ≤ k ∧ k < 512) (m f : Int) {b : Int} (hb : b = 0 ∨ b = 1) : OKC (pinF M m f b).2 (k + 1) ∧ q_iI (pinF M m f b).1 := by
  have hW := h.1.1
  refine ⟨⟨inv_pin h.1 m f hb, gi_pin h.2 m f b⟩, ?_⟩
  unfold pinF
  split
  · exact iI_0
  exact iI_of (by have := bi_01 (p := M 6 (16 * m + f) = 1); dsimp only; omega)
theorem okc_upload {M : q_S} {k : Int} (h : OKC M k) (hk : 0 ≤ k ∧ k < 512) (m p : Int) : OKC (uploadF M m p).2 (k + 1) ∧ q_iI (uploadF M m p).1 := by
  have u := inv_upload h.1 h.2 hk m p
  refine ⟨⟨u.1, u.2.1⟩, ?_⟩
  have hh : ∀ (r : Nat) (n l : Int) (S : q_S), n ≤ (upF m r n l S).1 ∧ (upF m r n l S).1 ≤ n + r := by
    intro r
    induction r with
    | zero => intro n l S; exact ⟨Int.le_refl _, by show n ≤ n + ((0 : Nat) : Int); omega⟩
    | succ r ih =>
      intro n l S
      have lo : ∀ T p9, (looksF T p9).1 = 0 ∨ (looksF T p9).1 = 1 := fun T p9 => look2_1 _ _ _
      simp only [upF]
      split
      · dsimp only; omega
      · split
        · have := ih n l (q_us S 8 (fnF S m 16) 0); omega
        · split
          · split
            · dsimp only; omega
            · have a := lo (sendsF S (S 3 (fnF S m 16)) l).2 (fnF S m 16)
              have := ih (n + (looksF (sendsF S (S 3 (fnF S m 16)) l).2 (fnF S m 16)).1) (sendsF S (S 3 (fnF S m 16)) l).1 (looksF (sendsF S (S 3 (fnF S m 16)) l).2 (fnF S m 16)).2
              omega
          · have a := lo S (fnF S m 16)
            have := ih (n + (looksF S (fnF S m 16)).1) l (looksF S (fnF S m 16)).2
            omega
  unfold uploadF
  split
  · exact iI_0
  · split
    · exact iI_0
    · split
      · exact iI_0
      · have := hh 17 0 p (thr M 0)
        exact iI_of (by omega)
theorem okc_pull {M : q_S} {k : Int} (h : OKC M k) (hk : 0 ≤ k ∧ k < 512) (m : Int) : OKC (pullF M m).2 (k + 1) ∧ q_iI (pullF M m).1 := by
  have hW := h.1.1
  refine ⟨⟨inv_pull h.1 m, gi_pull h.2 m⟩, ?_⟩
  unfold pullF
  split
  · exact iI_0
  have hh : ∀ n : Nat, 0 ≤ (plF (thr M 0) m n).1 ∧ (plF (thr M 0) m n).1 ≤ n := by
    intro n
    induction n with
    | zero => exact ⟨Int.le_refl _, Int.le_refl _⟩
    | succ n ih =>
      simp only [plF]
      split
      · dsimp only; split <;> omega
      · omega
  exact iI_of (by have a := hh 16; omega)
theorem okc_open {M : q_S} {k : Int} (h : OKC M k) (hk : 0 ≤ k ∧ k < 512) (m f : Int) : OKC (openF M m f).2 (k + 1) ∧ q_iI (openF M m f).1 := by
  refine ⟨⟨inv_open h.1 hk.2 m f, gi_open h.2 h.1.1 m f⟩, ?_⟩
  have e : ∀ S p, q_iI (openE S p).1 := fun S p => iI_of (by have := mlen_nn (S 3 p); unfold openE; dsimp only; omega)
  unfold openF
  split
  · exact iI_0
  · split
    · exact iI_0
    · split
      · unfold openK
        split
        · exact iI_0
        · split
          · exact iI_0
          · split
            · exact iI_0
            · exact e _ _
      · exact e _ _
theorem okc_lock {M : q_S} {k : Int} (h : OKC M k) (hk : 0 ≤ k ∧ k < 512) (m f x : Int) : OKC (lockMF M m f x).2 (k + 1) ∧ q_iI (lockMF M m f x).1 := by
  have hW := h.1.1
  refine ⟨⟨inv_lock h.1 m f x, gi_lock h.2 m f x⟩, ?_⟩
  unfold lockMF
  split
  · exact iI_0
  split
  · exact iI_0
  split
  · exact iI_0
  exact iI_of (by have := rs_1 hW; dsimp only; omega)
theorem okc_breakLock {M : q_S} {k : Int} (h : OKC M k) (hk : 0 ≤ k ∧ k < 512) (f : Int) : OKC (breakF M f).2 (k + 1) ∧ q_iI (breakF M f).1 := by
  have hW := h.1.1
  refine ⟨⟨inv_breakLock h.1 f, gi_breakLock h.2 f⟩, ?_⟩
  unfold breakF
  split
  · exact iI_0
  split
  · exact iI_0
  exact iI_of (by have := lockF_rg hW f; dsimp only; omega)
theorem okc_share {M : q_S} {k : Int} (h : OKC M k) (d m r x : Int) : OKC (shareF M d m r x) (k + 1) := ⟨inv_share h.1 d m r x, gi_share h.2 d m r x⟩
theorem okc_hold {M : q_S} {k : Int} (h : OKC M k) (hk : 0 ≤ k ∧ k < 512) (f a b : Int) : OKC (holdF M f a b).2 (k + 1) ∧ q_iI (holdF M f a b).1 := by
  have hW := h.1.1
  refine ⟨⟨inv_hold h.1 f a b, gi_hold h.2 f a b⟩, ?_⟩
  unfold holdF
  split
  · exact iI_0
  split
  · exact iI_0
  split
  · exact iI_0
  exact iI_of (by have := rs_27 hW; dsimp only; omega)
theorem okc_release {M : q_S} {k : Int} (h : OKC M k) (hk : 0 ≤ k ∧ k < 512)  : OKC (releaseF M).2 (k + 1) ∧ q_iI (releaseF M).1 := by
  have hW := h.1.1
  refine ⟨⟨inv_release h.1, gi_release h.2⟩, ?_⟩
  exact iI_of (by have := rs_27 hW; unfold releaseF; dsimp only; omega)
theorem okc_thin {M : q_S} {k : Int} (h : OKC M k) (hk : 0 ≤ k ∧ k < 512)  : OKC (thinF M).2 (k + 1) ∧ q_iI (thinF M).1 := by
  have hW := h.1.1
  refine ⟨⟨inv_thin h.1, gi_thin h.2 hW h.1.2.1⟩, ?_⟩
  have e : (thinF M).1 = (thF (thr M 0) (M 50 16).toNat).1 := by unfold thinF; with_reducible rfl
  rw [e]
  exact iI_of (by have a := thF_1 (thr M 0) (M 50 16).toNat; have := rs_16 hW; omega)
theorem okc_restore {M : q_S} {k : Int} (h : OKC M k) (hk : 0 ≤ k ∧ k < 512) (f t : Int) : OKC (restoreF M f t).2 (k + 1) ∧ q_iI (restoreF M f t).1 := by
  have hW := h.1.1
  refine ⟨⟨inv_restore h.1 f t, gi_restore h.2 (rs_16 hW).1 f t⟩, ?_⟩
  unfold restoreF
  split
  · exact iI_0
  split
  · exact iI_0
  split
  · exact iI_0
  exact iI_of (by have a := restoresF_1 (thr M 0) f t (hW.thr (by decide)); omega)
theorem okc_restoreFolder {M : q_S} {k : Int} (h : OKC M k) (hk : 0 ≤ k ∧ k < 512) (d t : Int) : OKC (restoreFolderF M d t).2 (k + 1) ∧ q_iI (restoreFolderF M d t).1 := by
  have hW := h.1.1
  refine ⟨⟨inv_restoreFolder h.1 d t, gi_restoreFolder h.2 (rs_16 hW).1 d t⟩, ?_⟩
  unfold restoreFolderF
  split
  · exact iI_0
  split
  · exact iI_0
  split
  · exact iI_0
  have hh : ∀ n : Nat, 0 ≤ (rfF (thr M 0) d t n).1 ∧ (rfF (thr M 0) d t n).1 ≤ n := by
    intro n
    induction n with
    | zero => exact ⟨Int.le_refl _, Int.le_refl _⟩
    | succ n ih =>
      simp only [rfF]
      split
      · dsimp only; split <;> omega
      · omega
  exact iI_of (by have a := hh 16; omega)
theorem okc_damage {M : q_S} {k : Int} (h : OKC M k) (hk : 0 ≤ k ∧ k < 512) (p : Int) : OKC (damageF M p).2 (k + 1) ∧ q_iI (damageF M p).1 := by
  have hW := h.1.1
  refine ⟨⟨inv_damage h.1 p, gi_damage h.2 p⟩, ?_⟩
  unfold damageF
  split
  · exact iI_0
  have hh : ∀ n : Nat, 0 ≤ (daF (thr M 0) p n).1 ∧ (daF (thr M 0) p n).1 ≤ n := by
    intro n
    induction n with
    | zero => exact ⟨Int.le_refl _, Int.le_refl _⟩
    | succ n ih =>
      simp only [daF]
      split <;> ((try dsimp only); omega)
  exact iI_of (by have a := hh 20000; omega)
theorem okc_scrub {M : q_S} {k : Int} (h : OKC M k) (hk : 0 ≤ k ∧ k < 512)  : OKC (scrubF M).2 (k + 1) ∧ q_iI (scrubF M).1 := by
  have hW := h.1.1
  refine ⟨⟨inv_scrub h.1, gi_scrub h.2⟩, ?_⟩
  unfold scrubF
  have hh : ∀ n : Nat, 0 ≤ (srF (thr M 0) n).1 ∧ (srF (thr M 0) n).1 ≤ n := by
    intro n
    induction n with
    | zero => exact ⟨Int.le_refl _, Int.le_refl _⟩
    | succ n ih =>
      simp only [srF]
      split <;> ((try dsimp only); omega)
  exact iI_of (by have a := hh 20000; omega)
theorem okc_follow {M : q_S} {k : Int} (h : OKC M k) (hk : 0 ≤ k ∧ k < 512) (e : Int) : OKC (followF M e).2 (k + 1) ∧ q_iI (followF M e).1 := by
  refine ⟨⟨inv_follow h.1 e, gi_follow h.2 e⟩, ?_⟩
  have hh : ∀ (r : Nat) (n : Int) (S : q_S), WR S → S 50 36 ≤ S 50 16 → n ≤ (foF e r n S).1 ∧ (foF e r n S).1 ≤ n + r := by
    intro r
    induction r with
    | zero => intro n S _ _; exact ⟨Int.le_refl _, by show n ≤ n + ((0 : Nat) : Int); omega⟩
    | succ r ih =>
      intro n S w b
      simp only [foF]
      split
      · dsimp only; omega
      next c =>
        have g : 0 ≤ S 22 (S 50 36) ∧ S 22 (S 50 36) ≤ 1 := w 22 _
        have e36 : foS S 50 36 = S 50 36 + 1 := by rw [foS_T (by decide), us_eq]
        have e16 : foS S 50 16 = S 50 16 := foS_o (by decide)
        have := ih (n + (1 - S 22 (S 50 36))) (foS S) (wr_foS w (by omega)) (by rw [e36, e16]; omega)
        omega
  unfold followF
  split
  · exact iI_0
  · have a := hh (M 50 16 - M 50 36 + 1).toNat 0 (thr M 0) (h.1.1.thr (by decide)) h.1.2.2.2.2.1.1
    have g16 := rs_16 h.1.1
    have g36 := rs_36 h.1.1
    exact iI_of (by omega)
theorem okc_pass {M : q_S} {k : Int} (h : OKC M k) (hk : 0 ≤ k ∧ k < 512) (x : Int) : OKC (passF M x).2 (k + 1) ∧ q_iI (passF M x).1 := by
  have hW := h.1.1
  refine ⟨⟨inv_pass h.1 hk.2 x, gi_pass h.2 x⟩, ?_⟩
  unfold passF
  split
  · exact iI_0
  split
  · exact iI_0
  exact iI_of (by have := rs_1 hW; dsimp only; omega)
theorem okc_lost {M : q_S} {k : Int} (h : OKC M k) (hk : 0 ≤ k ∧ k < 512)  : OKC (lostF M).2 (k + 1) ∧ q_iI (lostF M).1 := by
  have hW := h.1.1
  refine ⟨⟨inv_lost h.1, gi_lost h.2⟩, ?_⟩
  unfold lostF
  have hh : ∀ n : Nat, 0 ≤ (ltF (thr M 0) n).1 ∧ (ltF (thr M 0) n).1 ≤ n := by
    intro n
    induction n with
    | zero => exact ⟨Int.le_refl _, Int.le_refl _⟩
    | succ n ih =>
      simp only [ltF]
      split
      · omega
      · dsimp only; split <;> omega
  exact iI_of (by have a := hh (M 50 16).toNat; have := rs_16 hW; omega)
theorem okc_stateOf {M : q_S} {k : Int} (h : OKC M k) (m f : Int) : OKC (stateOfF M m f).2 (k + 1) ∧ q_iI (stateOfF M m f).1 := by
  have hW := h.1.1
  unfold stateOfF
  split
  · exact ⟨okc_thr h (by decide), iI_of (by have : 0 ≤ M 2 (16 * m + f) ∧ M 2 (16 * m + f) ≤ 2 := hW 2 _; dsimp only; omega)⟩
  · exact ⟨okc_thr h (by decide), iI_0⟩
theorem okc_folderOf {M : q_S} {k : Int} (h : OKC M k) (m f : Int) : OKC (folderOfF M m f).2 (k + 1) ∧ q_iI (folderOfF M m f).1 := by
  have hW := h.1.1
  unfold folderOfF
  split
  · exact ⟨okc_thr h (by decide), iI_of (by have : 0 ≤ M 4 (16 * m + f) ∧ M 4 (16 * m + f) ≤ 3 := hW 4 _; dsimp only; split <;> omega)⟩
  · exact ⟨okc_thr h (by decide), iI_0⟩
theorem okc_isChanged {M : q_S} {k : Int} (h : OKC M k) (m f : Int) : OKC (isChangedF M m f).2 (k + 1) ∧ q_iI (isChangedF M m f).1 := by
  have hW := h.1.1
  unfold isChangedF
  split
  · exact ⟨okc_thr h (by decide), iI_of (by have := bi_01 (p := isOtherP M (16 * m + f)); dsimp only; omega)⟩
  · exact ⟨okc_thr h (by decide), iI_0⟩
theorem okc_seen {M : q_S} {k : Int} (h : OKC M k) (m f : Int) : OKC (seenF M m f).2 (k + 1) ∧ q_iI (seenF M m f).1 := by
  have hW := h.1.1
  unfold seenF
  split
  · exact ⟨okc_thr h (by decide), iI_of (by have : 0 ≤ M 5 (16 * m + f) ∧ M 5 (16 * m + f) ≤ 120 := hW 5 _; dsimp only; omega)⟩
  · exact ⟨okc_thr h (by decide), iI_0⟩
theorem okc_noted {M : q_S} {k : Int} (h : OKC M k) (m : Int) : OKC (notedF M m).2 (k + 1) ∧ q_iI (notedF M m).1 := by
  have hW := h.1.1
  unfold notedF
  split
  · exact ⟨okc_thr h (by decide), iI_0⟩
  exact ⟨okc_thr h (by decide), iI_of (by have := ntF_rg (thr M 0) m 16; dsimp only; omega)⟩
theorem okc_taken {M : q_S} {k : Int} (h : OKC M k) (m : Int) : OKC (takenF M m).2 (k + 1) ∧ q_iI (takenF M m).1 := by
  have hW := h.1.1
  unfold takenF
  split
  · exact ⟨okc_thr h (by decide), iI_0⟩
  exact ⟨okc_thr h (by decide), iI_of (by have := takF_rg (thr M 0) m 16; dsimp only; omega)⟩
theorem okc_version {M : q_S} {k : Int} (h : OKC M k) (v w : Int) : OKC (versionF M v w).2 (k + 1) ∧ q_iI (versionF M v w).1 := by
  have hW := h.1.1
  unfold versionF
  split
  · exact ⟨okc_thr h (by decide), iI_0⟩
  split
  · exact ⟨okc_thr h (by decide), iI_0⟩
  exact ⟨okc_thr h (by decide), iI_of (by have a1 : 0 ≤ M 17 v ∧ M 17 v ≤ 15 := hW 17 _; have a2 : 0 ≤ M 18 v ∧ M 18 v ≤ 2000 := hW 18 _; have a3 : -1 ≤ M 19 v ∧ M 19 v ≤ 2 := hW 19 _; have a4 : 0 ≤ M 20 v ∧ M 20 v ≤ 3 := hW 20 _; have a5 : 0 ≤ M 22 v ∧ M 22 v ≤ 1 := hW 22 _; have := mlen_nn (M 21 v); dsimp only; split; omega; split; omega; split; omega; split; (split <;> omega); split; omega; omega)⟩
theorem okc_asOf {M : q_S} {k : Int} (h : OKC M k) (f t : Int) : OKC (asOfMF M f t).2 (k + 1) ∧ q_iI (asOfMF M f t).1 := by
  have hW := h.1.1
  unfold asOfMF
  split
  · exact ⟨okc_thr h (by decide), iI_0⟩
  split
  · exact ⟨okc_thr h (by decide), iI_0⟩
  exact ⟨okc_thr h (by decide), iI_of (by have := asOfT_rg hW f t; have := rs_16 hW; dsimp only; omega)⟩
theorem okc_lockOf {M : q_S} {k : Int} (h : OKC M k) (f : Int) : OKC (lockOfF M f).2 (k + 1) ∧ q_iI (lockOfF M f).1 := by
  have hW := h.1.1
  unfold lockOfF
  split
  · exact ⟨okc_thr h (by decide), iI_0⟩
  exact ⟨okc_thr h (by decide), iI_of (by have := lockF_rg hW f; dsimp only; omega)⟩
theorem okc_right {M : q_S} {k : Int} (h : OKC M k) (d m : Int) : OKC (rightMF M d m).2 (k + 1) ∧ q_iI (rightMF M d m).1 := by
  have hW := h.1.1
  unfold rightMF
  split
  · exact ⟨okc_thr h (by decide), iI_0⟩
  exact ⟨okc_thr h (by decide), iI_of (by have := rightF_rg hW d m; dsimp only; omega)⟩
theorem okc_time {M : q_S} {k : Int} (h : OKC M k)  : OKC (timeF M).2 (k + 1) ∧ q_iI (timeF M).1 := by
  have hW := h.1.1
  unfold timeF
  exact ⟨okc_thr h (by decide), iI_of (by have := rs_1 hW; dsimp only; omega)⟩
theorem okc_versions {M : q_S} {k : Int} (h : OKC M k)  : OKC (versionsF M).2 (k + 1) ∧ q_iI (versionsF M).1 := by
  have hW := h.1.1
  unfold versionsF
  exact ⟨okc_thr h (by decide), iI_of (by have := rs_16 hW; dsimp only; omega)⟩
theorem okc_count {M : q_S} {k : Int} (h : OKC M k) (w : Int) : OKC (countF M w).2 (k + 1) ∧ q_iI (countF M w).1 := by
  have hW := h.1.1
  unfold countF
  split
  · exact ⟨okc_thr h (by decide), iI_0⟩
  · refine ⟨okc_thr h (by decide), iI_of ?_⟩
    have g16 := rs_16 hW
    have g36 := rs_36 hW
    have g34 := rs_34 hW
    have g37 := rs_37 hW
    have g38 := rs_38 hW
    have g39 := rs_39 hW
    have a1 := smB_rg M 31 20000
    have a2 := sm_rg hW 32 (Or.inl rfl) 20000
    have a3 := sm_rg hW 33 (Or.inr rfl) 20000
    have a4 := dueF_rg hW (M 50 16 - M 50 36).toNat
    dsimp only
    repeat (split; omega)
    omega
theorem okc_numberAt {M : q_S} {k : Int} (h : OKC M k) (m f x : Int) : OKC (numberAtF M m f x).2 (k + 1) ∧ q_iI (numberAtF M m f x).1 := by
  have hW := h.1.1
  unfold numberAtF
  split
  · refine ⟨?_, iI_0⟩
    dsimp only
    split
    · exact okc_thr h (by decide)
    · have key : ∀ z : Int, (0 ≤ z ∧ z ≤ 3) → OKC (thr (thr M z) 1) (k + 1) := fun z hz => ⟨inv_o h.1 ((hW.thr hz).thr (by decide)) (fun t j g => (us_nn (by omega)).trans (us_nn (by omega))), gi_o h.2 (fun t j g => (us_nn (by omega)).trans (us_nn (by omega)))⟩
      unfold asksF
      split
      · exact key 0 (by decide)
      · exact key 1 (by decide)
  · refine ⟨⟨inv_o h.1 ((hW.thr (by decide)).thr (by decide)) (fun t j g => (us_nn (by omega)).trans (us_nn (by omega))), gi_o h.2 (fun t j g => (us_nn (by omega)).trans (us_nn (by omega)))⟩, iI_of ?_⟩
    have := fig_rg (M 3 (16 * m + f)) x
    dsimp only
    split <;> omega
