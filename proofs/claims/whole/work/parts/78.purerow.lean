/-! the rows' calls, alike -/
theorem pad_len {T B : Nat} (hB : B = 8 ∨ B = 16) : (T + 1) + pdN B (T + 1) = (T / B + 1) * B := by
  have h := pd_mod (B := B) (q := T + 1) hB
  rcases hB with rfl | rfl <;> omega
theorem padO_R {T B : Nat} {ft mt fw fo mo : Nat → Int32} (hB : B = 8 ∨ B = 16) (h : RB T ft mt) : RB ((T + 1) + pdN B (T + 1)) (fa 0 ((T + 1) + pdN B (T + 1)) (fa (T + 1) (pdN B (T + 1)) (fun _ => 0) (upd (fa 0 T ft fw) T (nI 128))) fo) (fl ((T / B + 1) * B) (mPd T mt) mo) := by
  rw [← pad_len hB]
  have q := pad_R (B := B) (fw := fw) (fm := mo) h
  refine RB.fl0 (q.c (fun _ _ => rfl) (fun j hj => ?_))
  by_cases h1 : T + 1 ≤ j
  · rw [fa_in h1 hj, mPd_3 (by omega)]
  · rw [fa_out (Or.inl (by omega))]
    simp only [upd]
    by_cases h2 : j = T
    · rw [if_pos h2, mPd_2 h2]; decide
    · rw [if_neg h2, fa0_at (by omega), mPd_1 (by omega)]
theorem bN_z {x : Int32} (h : isB x) : bN x = 0 ↔ x = 0 := by
  have q := bN_eq h isB_0
  rw [bN_0] at q
  exact q
theorem bN_128 {x : Int32} (h : isB x) : bN x = (-128) ↔ x = nI 128 := by
  have q := bN_eq h (isB_nI (n := 128) (by decide))
  rw [show bN (nI 128) = -128 by decide] at q
  exact q
theorem lnz_R {f x : Nat → Int32} : ∀ n, RB n f x → lnz x n = lnz f n := by
  intro n
  induction n with
  | zero => intro _; rfl
  | succ n ih =>
    intro h
    obtain ⟨h1, h2⟩ := h n (by omega)
    simp only [lnz]
    rw [ih (h.le (by omega)), h2]
    by_cases hz : f n = 0
    · rw [if_pos hz, if_pos ((bN_z h1).mpr hz)]
    · rw [if_neg hz, if_neg (fun q => hz ((bN_z h1).mp q))]
theorem lnz_le (f : Nat → Int32) : ∀ n, lnz f n ≤ n := by
  intro n
  induction n with
  | zero => exact Nat.le_refl _
  | succ n ih => simp only [lnz]; split <;> omega
theorem bp_b : ∀ b, b < 256 → bcP (nI b) = bts (bN (nI b)) 8 % 2 := by decide +kernel
theorem odd_R {f x : Nat → Int32} {z : Nat} (h : RB z f x) : ∀ k, k ≤ z → cds f z k = ods x k := by
  intro k
  induction k with
  | zero => intro _; rfl
  | succ k ih =>
    intro hk
    obtain ⟨h1, h2⟩ := h k (by omega)
    obtain ⟨b, hb, e⟩ := isB_n h1
    simp only [cds, ods]
    rw [ih (by omega), rAt_in (by omega), h2, e, bp_b b hb]
theorem mB_R (v : Int32) : RB 4 (wB v) (mB v) := fun j hj => ⟨wB_B v hj, by simp only [mB]; exact sar_b v hj⟩
theorem RB.fa {T n : Nat} {f x y z : Nat → Int32} (h : RB T f x) (h2 : RB n y z) : RB (T + n) (fa T n y f) (Jvm.Pilot.CCipherBoxLaw_law_r7346_52bd48.fa T n z x) := by
  intro j hj
  by_cases h1 : T ≤ j
  · rw [fa_in h1 hj, fa_in h1 hj]; exact h2 _ (by omega)
  · rw [fa_out (Or.inl (by omega)), fa_out (Or.inl (by omega))]; exact h j (by omega)
theorem feed_R {T : Nat} {ft mt : Nat → Int32} (v1 v2 v3 v4 v5 : Int32) (h : RB T ft mt) : RB (T + 20) (fa (T + 16) 4 (wB v5) (fa (T + 12) 4 (wB v4) (fa (T + 8) 4 (wB v3) (fa (T + 4) 4 (wB v2) (fa T 4 (wB v1) ft))))) (fa (T + 16) 4 (mB v5) (fa (T + 12) 4 (mB v4) (fa (T + 8) 4 (mB v3) (fa (T + 4) 4 (mB v2) (fa T 4 (mB v1) mt))))) := (((((h.fa (mB_R v1)).fa (mB_R v2)).fa (mB_R v3)).fa (mB_R v4)).fa (mB_R v5))
theorem same_R {n : Nat} {f x g y : Nat → Int32} (h : RB n f x) (h2 : RB n g y) : (∀ j, j < n → f j = g j) ↔ (∀ j, j < n → x j = y j) := by
  constructor
  · intro q j hj; rw [(h j hj).2, (h2 j hj).2, q j hj]
  · intro q j hj
    have := q j hj
    rw [(h j hj).2, (h2 j hj).2] at this
    exact (bN_eq (h j hj).1 (h2 j hj).1).mp this
