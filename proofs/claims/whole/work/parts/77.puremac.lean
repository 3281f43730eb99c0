/-! the other codes, derived keys, the rows' calls -/
theorem LR.c {V : Int64} {x y : Nat → Int32} (h : LR V x) (e : ∀ j, j < 8 → y j = x j) : LR V y := by
  obtain ⟨h1, f, hf⟩ := h
  refine ⟨h1.c (fun p hp => ?_), f, hf.c (fun _ _ => rfl) e⟩
  unfold bitN
  rw [e _ (by omega)]
/-- the code of kind 1 -/
theorem mac1_R {T : Nat} {f1 f2 mk ft mt fw fm fo mo fg mg : Nat → Int32} (h1 : KD f1 mk 0) (h2 : KD f2 mk (0 + 8)) (h : RB T ft mt) (hg : RB 16 fg mg) : RB 8 (fa 4 4 (wB ((rtO f1 f2 mbI (fa (T + 1) (pdN 8 (T + 1)) (fun _ => 0) (upd (fa 0 T ft fw) T (nI 128))) ((T + 1) + pdN 8 (T + 1)) (lAt fg 16 0)).toInt32)) (fa 0 4 (wB ((lus (rtO f1 f2 mbI (fa (T + 1) (pdN 8 (T + 1)) (fun _ => 0) (upd (fa 0 T ft fw) T (nI 128))) ((T + 1) + pdN 8 (T + 1)) (lAt fg 16 0)) (nI 32)).toInt32)) fo)) (fl 8 (fun j_ => bN (dsX (skB mk 0) (fun i_ => i_) (dsX (skB mk (0 + 8)) (fun i_ => 15 - i_) (mcR (dsX (skB mk 0) (fun i_ => i_)) 8 (fa (T + 1) (pdN 8 (T + 1)) (fun j_ => bN (nI 0)) (upd (fa 0 T (fun j_ => bN (mt j_)) fm) T (bN (nI 128)))) (fun j_ => bN (mg j_)) (((T + 1) + pdN 8 (T + 1)) / 8))) j_)) mo) := by
  have hp := pd_mod (B := 8) (q := T + 1) (Or.inl rfl)
  have hM := pad_R (B := 8) (fw := fw) (fm := fm) h
  generalize fa (T + 1) (pdN 8 (T + 1)) (fun _ => 0) (upd (fa 0 T ft fw) T (nI 128)) = P at hM
  generalize fa (T + 1) (pdN 8 (T + 1)) (fun j_ => bN (nI 0)) (upd (fa 0 T (fun j_ => bN (mt j_)) fm) T (bN (nI 128))) = M at hM
  generalize (T + 1) + pdN 8 (T + 1) = z at hp hM
  have hc : ∀ k, k ≤ z / 8 → LR (rtI f1 mbI P z (lAt fg 16 0) k) (mcR (dsX (skB mk 0) (fun i_ => i_)) 8 M (fun j_ => bN (mg j_)) k) := by
    intro k
    induction k with
    | zero =>
      intro _
      refine (LR_at (d := 0) hg (by decide)).c (fun j hj => ?_)
      show bN (mg j) = mg (0 + j)
      rw [Nat.zero_add, (hg j (by omega)).2, bN_bN]
    | succ k ih =>
      intro hk
      simp only [rtI, mcR]
      exact LR_cd h1 ix_1 (LR_xor (ih (by omega)) (LR_at (d := 8 * k) hM (by omega)))
  have q := LR_cd h1 ix_1 (LR_cd h2 ix_2 (hc (z / 8) (Nat.le_refl _)))
  have q2 := (LR_out (t := fo) q).bN
  exact q2.c (fun _ _ => rfl) (fun j hj => fl_in hj)
theorem sh1_n : ∀ a, a < 256 → bN (bN (nI a) <<< (nI 1 &&& 31)) = bN (nI (a * 2 ^ 1)) := by decide +kernel
theorem sr7_n : ∀ b, b < 256 → (bN (nI b) >>> (nI 7 &&& 31)) &&& nI 1 = nI (b / 2 ^ 7) ∧ nI b >>> (nI 7 &&& 31) = nI (b / 2 ^ 7) := by decide +kernel
theorem sh_n {a c : Nat} (ha : a < 256) (hc : c < 2) : bN ((bN (nI a) <<< (nI 1 &&& 31)) ||| nI c) = bN (nI ((a * 2 ^ 1 ||| c) % 2 ^ 8)) := by
  have h1 : nI ((a * 2 ^ 1 ||| c) % 2 ^ 8) = nI (a * 2 ^ 1 ||| c) &&& nI 255 := by
    rw [nx_mod (a * 2 ^ 1 ||| c) 8 (by rw [or_p (show c < 2 ^ 1 from hc)]; omega) (by decide)]
  rw [h1, bN_and, ← bN_or, sh1_n a ha, bN_or, nx_or]
theorem dsI_R {f x : Nat → Int32} (h : RB 16 f x) : RB 16 (dsI f) (shfO x) := by
  have hg : ∀ j, j < 16 → ∃ a, a < 256 ∧ f j = nI a ∧ x j = bN (nI a) := by
    intro j hj
    obtain ⟨h1, h2⟩ := h j hj
    obtain ⟨a, ha, e⟩ := isB_n h1
    exact ⟨a, ha, e, by rw [h2, e]⟩
  have hI : ∀ j, j < 15 → isB (dsI f j) ∧ shfI x j = bN (dsI f j) := by
    intro j hj
    obtain ⟨a, ha, e1, e2⟩ := hg j (by omega)
    obtain ⟨b, hb, e3, e4⟩ := hg (j + 1) (by omega)
    have hb7 : b / 2 ^ 7 < 2 := by omega
    rw [ds_lo hj]
    refine ⟨isB_and _, ?_⟩
    simp only [shfI]
    rw [if_pos hj, e1, e2, e3, e4, (sr7_n b hb).1, (sr7_n b hb).2, sh_n ha hb7, shl_n (by decide) (by omega), nx_or, nx_mod _ 8 (by rw [or_p (show b / 2 ^ 7 < 2 ^ 1 from hb7)]; omega) (by decide)]
  obtain ⟨a, ha, e1, e2⟩ := hg 15 (by decide)
  obtain ⟨b, hb, e3, e4⟩ := hg 0 (by decide)
  have h15 : isB ((f 15 <<< (nI 1 &&& 31)) &&& nI 255) ∧ shfI x 15 = bN ((f 15 <<< (nI 1 &&& 31)) &&& nI 255) := by
    refine ⟨isB_and _, ?_⟩
    simp only [shfI]
    rw [if_neg (by decide), e2, e1, sh_n ha (by decide), Nat.or_zero, shl_n (by decide) (by omega), nx_mod _ 8 (by omega) (by decide)]
  have hb7 : b / 2 ^ 7 < 2 := by omega
  intro j hj
  unfold shfO
  by_cases hj15 : j = 15
  · subst hj15
    rw [ds_hi]
    by_cases hc : b / 2 ^ 7 = 0
    · have c1 : ¬ ((x 0 >>> (nI 7 &&& 31)) &&& nI 1 = nI 1) := by rw [e4, (sr7_n b hb).1, hc]; decide
      have c2 : f 0 >>> (nI 7 &&& 31) = 0 := by rw [e3, (sr7_n b hb).2, hc]; rfl
      rw [if_neg c1, if_pos c2, h15.2]
      refine ⟨isB_xor h15.1 isB_0, ?_⟩
      rw [← bN_xor, bN_0, show ∀ x : Int32, x ^^^ nI 0 = x from fun x => by
        rw [show nI 0 = 0 from rfl, Int32.xor_zero], bN_bN]
    · have hc1 : b / 2 ^ 7 = 1 := by omega
      have c1 : (x 0 >>> (nI 7 &&& 31)) &&& nI 1 = nI 1 := by rw [e4, (sr7_n b hb).1, hc1]
      have c2 : ¬ f 0 >>> (nI 7 &&& 31) = 0 := by rw [e3, (sr7_n b hb).2, hc1]; decide
      rw [if_pos c1, if_neg c2, upd_at, h15.2]
      refine ⟨isB_xor h15.1 (isB_nI (by decide)), ?_⟩
      rw [bN_xl, ← bN_xor, show bN (-121 : Int32) = bN (nI 135) by decide, bN_xor]
  · have q := hI j (by omega)
    by_cases hc : (x 0 >>> (nI 7 &&& 31)) &&& nI 1 = nI 1
    · rw [if_pos hc, show upd (shfI x) 15 (bN (shfI x 15 ^^^ (-121))) j = shfI x j by simp only [upd]; rw [if_neg hj15]]
      exact q
    · rw [if_neg hc]
      exact q
/-- the code of kind 2, whole blocks -/
theorem tgW_R {n : Nat} {cd md : (Nat → Int32) → Nat → Int32} {g M : Nat → Int32} (hcp : CP 16 cd md) (h : RB n g M) (hn : 0 < n ∧ n % 16 = 0) : RB 16 (cTgW cd g n) (mTgW md M n) := by
  have hK := dsI_R (hcp _ _ (z_R 16))
  unfold cTgW mTgW mTg
  generalize dsI (cd (fun _ => nI 0)) = K at hK
  generalize shfO (md (fun _ => bN (nI 0))) = K' at hK
  have hn4 : n / 2 ^ 4 = n / 16 := rfl
  obtain ⟨N, hN⟩ : ∃ N, n / 16 = N + 1 := ⟨n / 16 - 1, by omega⟩
  have e : n = 16 * N + 16 := by omega
  rw [hn4, hN]
  have q := mc_R (B := 16) (N := N) (T := n) (g := g) (M := fa (n - 16) 16 (fun j_ => bN (M (n - 16 + j_) ^^^ K' j_)) M) (by omega) hcp (fun j hj => by
    rw [fa_out (Or.inl (by omega))]
    exact h j (by omega)) (z_R 16) N (Nat.le_refl _)
  simp only [mcR]
  refine hcp _ _ (fun j hj => ?_)
  obtain ⟨h1, h2⟩ := q j hj
  obtain ⟨h3, h4⟩ := h (16 * N + j) (by omega)
  obtain ⟨h5, h6⟩ := hK j hj
  have e9 : n - 16 = 16 * N := by omega
  rw [e9] at h2 ⊢
  rw [fa_at hj]
  simp only [xrI]
  rw [show N + 1 - 1 = N by omega, show N * 16 + j = 16 * N + j by omega, rAt_in (by omega), h2, h4, h6, bN_xor (g (16 * N + j)) (K j), bN_xor, Int32.xor_assoc]
  exact ⟨isB_xor h1 (isB_xor h3 h5), rfl⟩
/-- the code of kind 2, else -/
theorem tgN_R {n : Nat} {cd md : (Nat → Int32) → Nat → Int32} {g M : Nat → Int32} (hcp : CP 16 cd md) (h : RB n g M) : RB 16 (cTgN cd g n) (mTgN md M n) := by
  have hK := dsI_R (dsI_R (hcp _ _ (z_R 16)))
  unfold cTgN mTgN mTg
  generalize dsI (dsI (cd (fun _ => nI 0))) = K at hK
  generalize shfO (shfO (md (fun _ => bN (nI 0)))) = K' at hK
  have hp := pd_mod (B := 16) (q := n + 1) (Or.inr rfl)
  have hn4 : n / 2 ^ 4 = n / 16 := rfl
  have hn5 : n % 2 ^ 4 = n % 16 := rfl
  have e : (n + 1) + pdN 16 (n + 1) = 16 * (n / 16) + 16 := by omega
  rw [hn4, hn5, e, show (16 * (n / 16) + 16) / 16 = n / 16 + 1 by omega, show 16 * (n / 16) + 16 - 16 = 16 * (n / 16) by omega]
  have hM : ∀ j, j < 16 → fa (n + 1) (pdN 16 (n + 1)) (fun j_ => bN (nI 0)) (upd M n (bN (nI 128))) (16 * (n / 16) + j) = if j < n % 16 then M (16 * (n / 16) + j) else if j = n % 16 then bN (nI 128) else bN (nI 0) := by
    intro j hj
    by_cases c1 : j < n % 16
    · rw [if_pos c1, fa_out (Or.inl (by omega))]
      simp only [upd]
      rw [if_neg (by omega)]
    · rw [if_neg c1]
      by_cases c2 : j = n % 16
      · rw [if_pos c2, fa_out (Or.inl (by omega))]
        simp only [upd]
        rw [if_pos (by omega)]
      · rw [if_neg c2, fa_in (by omega) (by omega)]
  have q := mc_R (B := 16) (N := n / 16) (T := n) (g := g) (M := fa (16 * (n / 16)) 16 (fun j_ => bN ((fa (n + 1) (pdN 16 (n + 1)) (fun j_ => bN (nI 0)) (upd M n (bN (nI 128)))) (16 * (n / 16) + j_) ^^^ K' j_)) (fa (n + 1) (pdN 16 (n + 1)) (fun j_ => bN (nI 0)) (upd M n (bN (nI 128))))) (by omega) hcp (fun j hj => by
    rw [fa_out (Or.inl (by omega)), fa_out (Or.inl (by omega))]
    simp only [upd]
    rw [if_neg (by omega)]
    exact h j (by omega)) (z_R 16) (n / 16) (Nat.le_refl _)
  simp only [mcR]
  refine hcp _ _ (fun j hj => ?_)
  obtain ⟨h1, h2⟩ := q j hj
  obtain ⟨h5, h6⟩ := hK j hj
  rw [fa_at hj, hM j hj, h2, h6]
  simp only [upd, xrI]
  by_cases c1 : j < n % 16
  · obtain ⟨h3, h4⟩ := h (16 * (n / 16) + j) (by omega)
    rw [if_pos c1, if_neg (by omega), show n / 16 * 16 + j = 16 * (n / 16) + j by omega, rAt_in (by omega), h4, bN_xor (g (16 * (n / 16) + j)) (K j), bN_xor, Int32.xor_assoc]
    exact ⟨isB_xor h1 (isB_xor h3 h5), rfl⟩
  · rw [if_neg c1]
    have z0 : ∀ x : Int32, x ^^^ 0 = x := fun x => Int32.xor_zero
    by_cases c2 : j = n % 16
    · rw [if_pos c2, if_pos c2, ← c2, rAt_out (by omega), z0, bN_xor (nI 128) (K j), bN_xor, Int32.xor_assoc]
      exact ⟨isB_xor h1 (isB_xor (isB_nI (by decide)) h5), rfl⟩
    · rw [if_neg c2, if_neg c2, rAt_out (by omega), z0, bN_xor (nI 0) (K j), bN_xor, show ∀ x : Int32, nI 0 ^^^ x = x from fun x => by rw [show nI 0 = 0 from rfl, Int32.zero_xor]]
      exact ⟨isB_xor h1 h5, rfl⟩
/-- derived keys -/
theorem cm_R {c n i T : Nat} {ft mt : Nat → Int32} (hc : c ≤ 255) (hi : i ≤ 255) (h : RB T ft mt) (fv : Nat → Int32) : RB (16 + T) (cmM c n i ft) (kmM c n i (fl T (fun j_ => bN (mt j_)) fv)) := by
  intro j hj
  simp only [cmM, kmM]
  by_cases h1 : j < 11
  · rw [if_pos h1, if_pos h1]; exact ⟨isB_0, rfl⟩
  · rw [if_neg h1, if_neg h1]
    by_cases h2 : j = 11
    · rw [if_pos h2, if_pos h2]; exact ⟨isB_and _, by rw [bN_and]⟩
    · rw [if_neg h2, if_neg h2]
      by_cases h3 : j = 12
      · rw [if_pos h3, if_pos h3]; exact ⟨isB_and _, by rw [bN_and]⟩
      · rw [if_neg h3, if_neg h3]
        by_cases h4 : j = 13
        · rw [if_pos h4, if_pos h4]; exact ⟨isB_and _, by rw [bN_and]⟩
        · rw [if_neg h4, if_neg h4]
          by_cases h5 : j = 14
          · rw [if_pos h5, if_pos h5]; exact ⟨isB_and _, by rw [bN_and]⟩
          · rw [if_neg h5, if_neg h5]
            by_cases h6 : j = 15
            · rw [if_pos h6, if_pos h6]; exact ⟨isB_and _, by rw [bN_and]⟩
            · rw [if_neg h6, if_neg h6, fl_in (by omega), bN_bN]
              exact h.bN _ (by omega)
theorem kd_R {tg : (Nat → Int32) → Nat → Nat → Int32} {tg' : (Nat → Int32) → Nat → Nat → Int32} {c n T : Nat} {ft mt fo mo : Nat → Int32} (htg : ∀ g M, RB (16 + T) g M → RB 16 (tg g (16 + T)) (tg' M (16 + T))) (hc : c ≤ 255) (hn : n ≤ 64) (h : RB T ft mt) (fv : Nat → Int32) : RB n (fa 0 n (kdC tg c n T ft) fo) (fa 0 n (kdO tg' c n T (fl T (fun j_ => bN (mt j_)) fv)) mo) := by
  refine RB.fa0 (fun j hj => ?_)
  have q := (htg _ _ (cm_R (n := n) (i := j / 16 + 1) hc (by omega) h fv)) (j % 16) (Nat.mod_lt _ (by decide))
  simp only [kdC, kdO]
  rw [q.2, bN_bN, bN_and]
  exact ⟨isB_and _, rfl⟩
