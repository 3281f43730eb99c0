/-! SHA-256 and feed: bytes alike -/
theorem wB_n (w : Int32) {k : Nat} (hk : k < 4) : wB w k = nI (dg (un w) k) := by
  rcases (show k = 0 ∨ k = 1 ∨ k = 2 ∨ k = 3 by omega) with r | r | r | r <;> subst r
  · show ush w (nI 24) &&& nI 255 = nI (un w / 2 ^ 24 % 2 ^ 8)
    exact ush_255 w (by decide)
  · show ush w (nI 16) &&& nI 255 = nI (un w / 2 ^ 16 % 2 ^ 8)
    exact ush_255 w (by decide)
  · show ush w (nI 8) &&& nI 255 = nI (un w / 2 ^ 8 % 2 ^ 8)
    exact ush_255 w (by decide)
  · show w &&& nI 255 = nI (un w / 2 ^ 0 % 2 ^ 8)
    rw [un_255, Nat.pow_zero, Nat.div_one]
theorem wB_B (w : Int32) {k : Nat} (hk : k < 4) : isB (wB w k) := by rw [wB_n w hk]; exact isB_nI (dg_lt _ _)
theorem sar_255 (w : Int32) (s : Int32) (k : Nat) (hk : k ≤ 24) (hs : (s.toBitVec.smod 32).toNat = k) : (w >>> s) &&& nI 255 = nI (un w / 2 ^ k % 2 ^ 8) := by
  rw [← ush_255 w (by omega), ush_un w (by omega)]
  apply Int32.toBitVec_inj.mp
  rw [Int32.toBitVec_and, Int32.toBitVec_and]
  apply BitVec.eq_of_getLsbD_eq
  intro i hi
  rw [BitVec.getLsbD_and, BitVec.getLsbD_and]
  by_cases h8 : i < 8
  · have e : (w >>> s).toBitVec = w.toBitVec.sshiftRight k := by
      rw [Int32.toBitVec_shiftRight]
      show w.toBitVec.sshiftRight _ = _
      rw [hs]
    have e2 : (nI (un w / 2 ^ k)).toBitVec = w.toBitVec >>> k := by
      apply BitVec.eq_of_toNat_eq
      rw [BitVec.toNat_ushiftRight, Nat.shiftRight_eq_div_pow]
      exact pk_tn (Nat.lt_of_le_of_lt (Nat.div_le_self _ _) (un_lt w))
    rw [e, e2, BitVec.getLsbD_sshiftRight, BitVec.getLsbD_ushiftRight]
    have h1 : ¬ 32 ≤ i := by omega
    have h2 : k + i < 32 := by omega
    simp [h1, h2]
  · have : ∀ i, i < 32 → ¬ i < 8 → (nI 255).toBitVec.getLsbD i = false := by decide
    rw [this i hi h8, Bool.and_false, Bool.and_false]
theorem sar_b (w : Int32) {k : Nat} (hk : k < 4) : bN (w >>> (nI (24 - 8 * k) &&& 31)) = bN (wB w k) := by
  rw [← bN_and, sar_255 w _ (24 - 8 * k) (by omega) (s_l _ (by omega)), wB_n w hk]
  rfl
theorem shO_R (v : Nat → Int32) : RB 32 (shO v) (fun j_ => bN (shQ v j_)) := by
  intro j hj
  have hk : j % 4 < 4 := Nat.mod_lt _ (by decide)
  exact ⟨wB_B _ hk, by simp only [shQ, shO]; rw [sar_b _ hk, bN_bN]⟩
theorem len_R : ∀ n, n < 401 → ∀ j, j < 4 → isB (wB ((lus (lN (8 * n)) (nI 32)).toInt32) j) ∧ bN ((lsr (lN (8 * n)) (nI (56 - 8 * j))).toInt32) = bN (wB ((lus (lN (8 * n)) (nI 32)).toInt32) j) ∧ bN ((lsr (lN (8 * n)) (nI (56 - 8 * (4 + j)))).toInt32) = bN (wB ((lN (8 * n)).toInt32) j) := by
  unfold isB
  decide +kernel
theorem p56_m (n : Nat) (h : n ≤ 400) : shL n % 64 = 0 ∧ shL n ≤ 464 := by
  unfold shL p56
  omega
theorem shM_R {T : Nat} (hT : T ≤ 400) {f g x y : Nat → Int32} (h : RB T f x) : RB (shL T) (shM T (fa 0 T f g)) (mM T (fa 0 T (fun j_ => bN (x j_)) y)) := by
  intro j hj
  unfold shM mM
  have hl : shL T = (T + 1) + p56 (T + 1) + 8 := rfl
  by_cases h1 : (T + 1) + p56 (T + 1) ≤ j
  · obtain ⟨k, rfl⟩ : ∃ k, j = (T + 1) + p56 (T + 1) + k := ⟨j - ((T + 1) + p56 (T + 1)), by omega⟩
    by_cases h2 : k < 4
    · obtain ⟨q1, q2, _⟩ := len_R T (by omega) k h2
      rw [fa_out (Or.inl (by omega)), fa_at h2, fa_at (by omega)]
      exact ⟨q1, q2⟩
    · obtain ⟨i, rfl⟩ : ∃ i, k = 4 + i := ⟨k - 4, by omega⟩
      obtain ⟨_, _, q3⟩ := len_R T (by omega) i (by omega)
      rw [show (T + 1) + p56 (T + 1) + (4 + i) = (T + 1) + p56 (T + 1) + 4 + i by omega, fa_at (by omega), show (T + 1) + p56 (T + 1) + 4 + i = (T + 1) + p56 (T + 1) + (4 + i) by omega, fa_at (by omega)]
      exact ⟨wB_B _ (by omega), q3⟩
  · rw [fa_out (a := (T + 1) + p56 (T + 1) + 4) (Or.inl (by omega)), fa_out (a := (T + 1) + p56 (T + 1)) (n := 4) (Or.inl (by omega)), fa_out (a := (T + 1) + p56 (T + 1)) (n := 8) (Or.inl (by omega))]
    by_cases h3 : T + 1 ≤ j
    · rw [fa_in h3 (by omega), fa_in h3 (by omega)]
      exact ⟨isB_0, by rfl⟩
    · rw [fa_out (Or.inl (by omega)), fa_out (Or.inl (by omega))]
      simp only [upd]
      by_cases h4 : j = T
      · rw [if_pos h4, if_pos h4]; exact ⟨isB_nI (by decide), rfl⟩
      · rw [if_neg h4, if_neg h4, fa0_at (by omega), fa0_at (by omega)]
        exact (h.bN) j (by omega)
theorem hash_R {T : Nat} (hT : T ≤ 400) {f g x y : Nat → Int32} (h : RB T f x) : RB 32 (shO (shH (rAt (shM T (fa 0 T f g)) (shL T)) (shL T / 64))) (fun j_ => bN (shQ (mH T (fa 0 T (fun j_ => bN (x j_)) y)) j_)) := by
  have e : shH (rAt (shM T (fa 0 T f g)) (shL T)) (shL T / 64) = mH T (fa 0 T (fun j_ => bN (x j_)) y) := by
    unfold mH
    refine shH_congr _ (fun j hj => ?_)
    have hp := p56_m T hT
    have hj2 : j < shL T := by omega
    obtain ⟨q1, q2⟩ := shM_R (g := g) (y := y) hT h j hj2
    rw [rAt_in hj2, q2, bN_B q1]
  rw [e]
  exact shO_R _
