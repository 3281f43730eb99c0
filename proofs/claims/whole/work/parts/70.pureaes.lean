/-! class and model alike: bytes; AES -/
/-- a byte of the class: an int of 0 .. 255 -/
def isB (x : Int32) : Prop := x &&& nI 255 = x
theorem isB_n {x : Int32} (h : isB x) : ∃ n, n < 256 ∧ x = nI n := ⟨un x % 2 ^ 8, Nat.mod_lt _ (by decide), by rw [← un_255, h]⟩
theorem isB_nI {n : Nat} (h : n < 256) : isB (nI n) := by
  show nI n &&& nI (2 ^ 8 - 1) = nI n
  rw [nx_mod n 8 (by omega) (by decide), Nat.mod_eq_of_lt h]
theorem isB_and (x : Int32) : isB (x &&& nI 255) := by
  rw [un_255]
  exact isB_nI (Nat.mod_lt _ (by decide))
theorem isB_xor {x y : Int32} (hx : isB x) (hy : isB y) : isB (x ^^^ y) := by
  obtain ⟨a, ha, rfl⟩ := isB_n hx
  obtain ⟨b, hb, rfl⟩ := isB_n hy
  rw [nx_xor]
  exact isB_nI (Nat.xor_lt_two_pow (n := 8) ha hb)
theorem isB_0 : isB (nI 0) := isB_nI (by decide)
theorem bN_bv (x : Int32) : (bN x).toBitVec = (x.toBitVec.setWidth 8).signExtend 32 := by
  unfold bN
  rw [Int8.toBitVec_toInt32, Int32.toBitVec_toInt8]
  congr 1
  exact BitVec.signExtend_eq_setWidth_of_le _ (by decide)
theorem bN_and (x : Int32) : bN (x &&& nI 255) = bN x := by
  apply Int32.toBitVec_inj.mp
  rw [bN_bv, bN_bv, Int32.toBitVec_and]
  congr 1
  apply BitVec.eq_of_getLsbD_eq
  intro i hi
  rw [BitVec.getLsbD_setWidth, BitVec.getLsbD_setWidth, BitVec.getLsbD_and]
  have : ∀ i, i < 8 → (nI 255).toBitVec.getLsbD i = true := by decide
  rw [this i hi, Bool.and_true]
theorem and_bN (x : Int32) : bN x &&& nI 255 = x &&& nI 255 := by
  apply Int32.toBitVec_inj.mp
  rw [Int32.toBitVec_and, Int32.toBitVec_and, bN_bv]
  apply BitVec.eq_of_getLsbD_eq
  intro i hi
  rw [BitVec.getLsbD_and, BitVec.getLsbD_and]
  by_cases h : i < 8
  · rw [BitVec.getLsbD_signExtend, BitVec.getLsbD_setWidth]
    simp [h, hi]
  · have : ∀ i, i < 32 → ¬ i < 8 → (nI 255).toBitVec.getLsbD i = false := by decide
    rw [this i hi h, Bool.and_false, Bool.and_false]
theorem bN_xor (x y : Int32) : bN (bN x ^^^ bN y) = bN (x ^^^ y) := by
  rw [← bN_and, ← bN_and (x ^^^ y)]
  congr 1
  have h : ∀ a b c : Int32, (a ^^^ b) &&& c = (a &&& c) ^^^ (b &&& c) := by
    intro a b c
    apply Int32.toBitVec_inj.mp
    simp only [Int32.toBitVec_and, Int32.toBitVec_xor]
    apply BitVec.eq_of_getLsbD_eq
    intro i _
    simp only [BitVec.getLsbD_and, BitVec.getLsbD_xor]
    cases a.toBitVec.getLsbD i <;> cases b.toBitVec.getLsbD i <;> cases c.toBitVec.getLsbD i <;> rfl
  rw [h, and_bN, and_bN, ← h]
theorem bN_B {x : Int32} (h : isB x) : bN x &&& nI 255 = x := by rw [and_bN]; exact h
theorem un_bN (x : Int32) : un (bN x) % 2 ^ 8 = un x % 2 ^ 8 := by
  have h := and_bN x
  rw [un_255, un_255] at h
  exact (nI_eq (Nat.lt_trans (Nat.mod_lt _ (by decide)) (by decide)) (Nat.lt_trans (Nat.mod_lt _ (by decide)) (by decide))).mp h
theorem bN_0 : bN (nI 0) = nI 0 := by decide
theorem bN_eq {x y : Int32} (hx : isB x) (hy : isB y) : bN x = bN y ↔ x = y := ⟨fun h => by rw [← bN_B hx, h, bN_B hy], fun h => by rw [h]⟩
/-- the first n places: bytes of the class, and the model's of them -/
def RB (n : Nat) (y x : Nat → Int32) : Prop := ∀ j, j < n → isB (y j) ∧ x j = bN (y j)
theorem RB.le {n k : Nat} {y x : Nat → Int32} (h : RB n y x) (hk : k ≤ n) : RB k y x := fun j hj => h j (by omega)
theorem RB.c {n : Nat} {y x y' x' : Nat → Int32} (h : RB n y x) (hy : ∀ j, j < n → y' j = y j) (hx : ∀ j, j < n → x' j = x j) : RB n y' x' := fun j hj => by rw [hy j hj, hx j hj]; exact h j hj
theorem RB.bN {n : Nat} {y x : Nat → Int32} (h : RB n y x) : RB n y (fun j => bN (x j)) := fun j hj => ⟨(h j hj).1, by dsimp only; rw [(h j hj).2, bN_bN]⟩
theorem RB.xor {n : Nat} {y x y' x' : Nat → Int32} (h : RB n y x) (h' : RB n y' x') : RB n (fun j => y j ^^^ y' j) (fun j => Jvm.Pilot.CCipherBoxLaw_law_r7346_52bd48.bN (x j ^^^ x' j)) := fun j hj => ⟨isB_xor (h j hj).1 (h' j hj).1, by dsimp only; rw [(h j hj).2, (h' j hj).2, bN_xor]⟩
/-- the round keys of class and model alike -/
def RK (n : Nat) (fk fr : Nat → Int32) : Prop := ∀ q, q ≤ n → ∀ j, j < 16 → isB (rkB (fk (4 * q + j / 4)) (j % 4)) ∧ fr (16 * q + j) = bN (rkB (fk (4 * q + j / 4)) (j % 4))
theorem ark_R {n q : Nat} {fk fr y x : Nat → Int32} (hk : RK n fk fr) (hq : q ≤ n) (h : RB 16 y x) : RB 16 (ark fk q y) (mAk fr q x) := by
  intro j hj
  obtain ⟨h1, h2⟩ := h j hj
  obtain ⟨h3, h4⟩ := hk q hq j hj
  exact ⟨isB_xor h1 h3, by simp only [mAk, ark]; rw [h2, h4, bN_xor]⟩
theorem sbI_B (x : Int32) : isB (sbI x) := isB_nI (tb0_lt0 _ (Nat.mod_lt _ (by decide)))
theorem ss_R {y x : Nat → Int32} (h : RB 16 y x) : RB 16 (ssI y) (fun j => bN (mSS (fun j_ => nI (tbV 0 j_)) x j)) := by
  intro j hj
  refine ⟨sbI_B _, ?_⟩
  simp only [mSS, ssI, sbI]
  rw [(h _ (Nat.mod_lt _ (by decide))).2, un_bN, bN_bN]
theorem tw_x : ∀ a, a < 256 → ∀ b, b < 256 → twN (a ^^^ b) = twN a ^^^ twN b := by decide +kernel
theorem dbl_n : ∀ a, a < 256 → dblI (nI a) = nI (twN a) := by decide +kernel
theorem tm_1 : ∀ a, a < 256 → tmN a 1 = a := by decide +kernel
theorem tm_2 : ∀ a, a < 256 → tmN a 2 = twN a := by decide +kernel
theorem tm_3 : ∀ a, a < 256 → tmN a 3 = twN a ^^^ a := by decide +kernel
theorem tm_9 : ∀ a, a < 256 → tmN a 9 = twN (twN (twN a)) ^^^ a := by decide +kernel
theorem tm_11 : ∀ a, a < 256 → tmN a 11 = twN (twN (twN a)) ^^^ (twN a ^^^ a) := by decide +kernel
theorem tm_13 : ∀ a, a < 256 → tmN a 13 = twN (twN (twN a)) ^^^ (twN (twN a) ^^^ a) := by decide +kernel
theorem tm_14 : ∀ a, a < 256 → tmN a 14 = twN (twN (twN a)) ^^^ (twN (twN a) ^^^ twN a) := by decide +kernel
theorem xo_lt {a b : Nat} (ha : a < 256) (hb : b < 256) : a ^^^ b < 256 := Nat.xor_lt_two_pow (n := 8) ha hb
theorem mx_n {a b c d : Nat} (ha : a < 256) (hb : b < 256) (hc : c < 256) (hd : d < 256) : a ^^^ ((((a ^^^ b) ^^^ c) ^^^ d) ^^^ twN (a ^^^ b)) = ((tmN a 2 ^^^ tmN b 3) ^^^ tmN c 1) ^^^ tmN d 1 := by
  rw [tm_2 a ha, tm_3 b hb, tm_1 c hc, tm_1 d hd, tw_x a ha b hb]
  generalize twN a = a2
  generalize twN b = b2
  have e : a ^^^ ((((a ^^^ b) ^^^ c) ^^^ d) ^^^ (a2 ^^^ b2)) = (a ^^^ a) ^^^ (((a2 ^^^ (b2 ^^^ b)) ^^^ c) ^^^ d) := by ac_rfl
  rw [e, Nat.xor_self, Nat.zero_xor]
theorem tm_I {x : Int32} {a k : Nat} (ha : a < 256) (hk : k < 256) (h : x = bN (nI a)) : tmI (x &&& nI 255) (nI k) = nI (tmN a k) := by
  rw [h, bN_B (isB_nI ha), tmI_n ha hk]
theorem mMv_n {p q r s : Nat} (hp : p < 256) (hq : q < 256) (hr : r < 256) (hs : s < 256) {x : Nat → Int32} {g : Nat → Nat} {c k : Nat} (hg : ∀ i, i < 4 → g i < 256 ∧ x (c + i) = bN (nI (g i))) (hk : k < 4) : mMv (nI p) (nI q) (nI r) (nI s) x c k = nI (((tmN (g k) p ^^^ tmN (g ((k + 1) % 4)) q) ^^^ tmN (g ((k + 2) % 4)) r) ^^^ tmN (g ((k + 3) % 4)) s) := by
  have m4 : ∀ i, i % 4 < 4 := fun i => Nat.mod_lt _ (by decide)
  unfold mMv
  rw [tm_I (hg k hk).1 hp (hg k hk).2, tm_I (hg _ (m4 _)).1 hq (hg _ (m4 (k + 1))).2, tm_I (hg _ (m4 _)).1 hr (hg _ (m4 (k + 2))).2, tm_I (hg _ (m4 _)).1 hs (hg _ (m4 (k + 3))).2, nx_xor, nx_xor, nx_xor]
theorem tmN_lt {v x : Nat} (hv : v < 256) : tmN v x < 256 := tmG_lt v x hv
theorem col_n {y x : Nat → Int32} (h : RB 16 y x) {c : Nat} (hc : c < 4) : ∃ g : Nat → Nat, ∀ i, i < 4 → g i < 256 ∧ y (4 * c + i) = nI (g i) ∧ x (4 * c + i) = bN (nI (g i)) := by
  refine ⟨fun i => un (y (4 * c + i)) % 2 ^ 8, fun i hi => ⟨Nat.mod_lt _ (by decide), ?_⟩⟩
  obtain ⟨h1, h2⟩ := h (4 * c + i) (by omega)
  have e : y (4 * c + i) = nI (un (y (4 * c + i)) % 2 ^ 8) := by rw [← un_255]; exact h1.symm
  exact ⟨e, by rw [← e]; exact h2⟩
theorem mx_R {y x : Nat → Int32} (h : RB 16 y x) : RB 16 (mxI y) (fun j => bN (mMx (nI 2) (nI 3) (nI 1) (nI 1) x j)) := by
  intro j hj
  obtain ⟨c, k, hc, hk, rfl⟩ : ∃ c k, c < 4 ∧ k < 4 ∧ j = 4 * c + k := ⟨j / 4, j % 4, by omega, by omega, by omega⟩
  obtain ⟨g, hg⟩ := col_n h hc
  dsimp only
  rw [mx_i k hk, mMx_i hk, mMv_n (by decide) (by decide) (by decide) (by decide) (fun i hi => ⟨(hg i hi).1, (hg i hi).2.2⟩) hk, bN_bN]
  have g0 := hg 0 (by decide)
  have g1 := hg 1 (by decide)
  have g2 := hg 2 (by decide)
  have g3 := hg 3 (by decide)
  rw [(hg k hk).2.1, (hg ((k + 1) % 4) (Nat.mod_lt _ (by decide))).2.1, show y (4 * c) = nI (g 0) from g0.2.1, g1.2.1, g2.2.1, g3.2.1, nx_xor, nx_xor, nx_xor, nx_xor, dbl_n _ (xo_lt (hg k hk).1 (hg _ (Nat.mod_lt _ (by decide))).1), nx_xor, nx_xor]
  have e : g k ^^^ ((((g 0 ^^^ g 1) ^^^ g 2) ^^^ g 3) ^^^ twN (g k ^^^ g ((k + 1) % 4))) = ((tmN (g k) 2 ^^^ tmN (g ((k + 1) % 4)) 3) ^^^ tmN (g ((k + 2) % 4)) 1) ^^^ tmN (g ((k + 3) % 4)) 1 := by
    rcases (show k = 0 ∨ k = 1 ∨ k = 2 ∨ k = 3 by omega) with r | r | r | r <;> subst r
    · exact mx_n g0.1 g1.1 g2.1 g3.1
    · rw [show ((g 0 ^^^ g 1) ^^^ g 2) ^^^ g 3 = ((g 1 ^^^ g 2) ^^^ g 3) ^^^ g 0 by ac_rfl]; exact mx_n g1.1 g2.1 g3.1 g0.1
    · rw [show ((g 0 ^^^ g 1) ^^^ g 2) ^^^ g 3 = ((g 2 ^^^ g 3) ^^^ g 0) ^^^ g 1 by ac_rfl]; exact mx_n g2.1 g3.1 g0.1 g1.1
    · rw [show ((g 0 ^^^ g 1) ^^^ g 2) ^^^ g 3 = ((g 3 ^^^ g 0) ^^^ g 1) ^^^ g 2 by ac_rfl]; exact mx_n g3.1 g0.1 g1.1 g2.1
  rw [e]
  have m4 : ∀ i, g (i % 4) < 256 := fun i => (hg _ (Nat.mod_lt _ (by decide))).1
  exact ⟨isB_nI (xo_lt (xo_lt (xo_lt (tmN_lt (hg k hk).1) (tmN_lt (m4 _))) (tmN_lt (m4 _))) (tmN_lt (m4 _))), rfl⟩
theorem or_B : ∀ v, v < 256 → orR 256 v &&& nI 255 = orR 256 v := by decide +kernel
theorem sr_R {y x : Nat → Int32} (h : RB 16 y x) : RB 16 (srI (orR 256) y) (fun j => bN (mSR (orR 256) x j)) := by
  intro j hj
  refine ⟨or_B _ (Nat.mod_lt _ (by decide)), ?_⟩
  simp only [mSR, srI]
  rw [show j % 2 ^ 2 = j % 4 from rfl, show (j + 16 - 4 * (j % 4)) % 2 ^ 4 = (j + 16 - 4 * (j % 4)) % 16 from rfl, (h _ (Nat.mod_lt _ (by decide))).2, un_bN, bN_bN]
theorem tw_lt {a : Nat} (h : a < 256) : twN a < 256 := twN_lt a h
theorem ux_n {a b c d : Nat} (ha : a < 256) (hb : b < 256) (hc : c < 256) (hd : d < 256) : ((tmN (a ^^^ twN (twN (a ^^^ c))) 2 ^^^ tmN (b ^^^ twN (twN (b ^^^ d))) 3) ^^^ tmN (c ^^^ twN (twN (a ^^^ c))) 1) ^^^ tmN (d ^^^ twN (twN (b ^^^ d))) 1 = ((tmN a 14 ^^^ tmN b 11) ^^^ tmN c 13) ^^^ tmN d 9 := by
  have hac : twN (twN (a ^^^ c)) = twN (twN a) ^^^ twN (twN c) := by rw [tw_x a ha c hc, tw_x _ (tw_lt ha) _ (tw_lt hc)]
  have hbd : twN (twN (b ^^^ d)) = twN (twN b) ^^^ twN (twN d) := by rw [tw_x b hb d hd, tw_x _ (tw_lt hb) _ (tw_lt hd)]
  have la := tw_lt (tw_lt ha)
  have lb := tw_lt (tw_lt hb)
  have lc := tw_lt (tw_lt hc)
  have ld := tw_lt (tw_lt hd)
  rw [hac, hbd, tm_2 _ (xo_lt ha (xo_lt la lc)), tm_3 _ (xo_lt hb (xo_lt lb ld)), tm_1 _ (xo_lt hc (xo_lt la lc)), tm_1 _ (xo_lt hd (xo_lt lb ld)), tm_14 a ha, tm_11 b hb, tm_13 c hc, tm_9 d hd,
    tw_x a ha _ (xo_lt la lc), tw_x _ la _ lc, tw_x b hb _ (xo_lt lb ld), tw_x _ lb _ ld]
  generalize twN (twN (twN a)) = a3
  generalize twN (twN (twN b)) = b3
  generalize twN (twN (twN c)) = c3
  generalize twN (twN (twN d)) = d3
  generalize twN (twN a) = a2
  generalize twN (twN b) = b2
  generalize twN (twN c) = c2
  generalize twN (twN d) = d2
  generalize twN a = a1
  generalize twN b = b1
  have e : (((a1 ^^^ (a3 ^^^ c3)) ^^^ ((b1 ^^^ (b3 ^^^ d3)) ^^^ (b ^^^ (b2 ^^^ d2)))) ^^^ (c ^^^ (a2 ^^^ c2))) ^^^ (d ^^^ (b2 ^^^ d2)) = ((b2 ^^^ b2) ^^^ (d2 ^^^ d2)) ^^^ ((((a3 ^^^ (a2 ^^^ a1)) ^^^ (b3 ^^^ (b1 ^^^ b))) ^^^ (c3 ^^^ (c2 ^^^ c))) ^^^ (d3 ^^^ d)) := by ac_rfl
  rw [e, Nat.xor_self, Nat.xor_self, Nat.xor_self, Nat.zero_xor]
theorem umx_R {y x : Nat → Int32} (h : RB 16 y x) : RB 16 (mxI (uxI y)) (fun j => bN (mMx (nI 14) (nI 11) (nI 13) (nI 9) x j)) := by
  intro j hj
  obtain ⟨c, k, hc, hk, rfl⟩ : ∃ c k, c < 4 ∧ k < 4 ∧ j = 4 * c + k := ⟨j / 4, j % 4, by omega, by omega, by omega⟩
  obtain ⟨g, hg⟩ := col_n h hc
  dsimp only
  rw [mx_i k hk, mMx_i hk, mMv_n (by decide) (by decide) (by decide) (by decide) (fun i hi => ⟨(hg i hi).1, (hg i hi).2.2⟩) hk, bN_bN]
  obtain ⟨u, hu⟩ : ∃ u : Nat → Nat, u = fun i => g i ^^^ twN (twN (g (i % 2) ^^^ g (i % 2 + 2))) := ⟨_, rfl⟩
  have hui : ∀ i, i < 4 → u i < 256 ∧ uxI y (4 * c + i) = nI (u i) := by
    intro i hi
    have l1 := (hg (i % 2) (by omega)).1
    have l2 := (hg (i % 2 + 2) (by omega)).1
    rw [hu]
    dsimp only
    refine ⟨xo_lt (hg i hi).1 (tw_lt (tw_lt (xo_lt l1 l2))), ?_⟩
    rw [ux_i i hi, (hg i hi).2.1, (hg (i % 2) (by omega)).2.1, show 4 * c + i % 2 + 2 = 4 * c + (i % 2 + 2) by omega, (hg (i % 2 + 2) (by omega)).2.1, nx_xor, dbl_n _ (xo_lt l1 l2), dbl_n _ (tw_lt (xo_lt l1 l2)), nx_xor]
  have u0 := hui 0 (by decide)
  have u1 := hui 1 (by decide)
  have u2 := hui 2 (by decide)
  have u3 := hui 3 (by decide)
  rw [(hui k hk).2, (hui ((k + 1) % 4) (Nat.mod_lt _ (by decide))).2, show uxI y (4 * c) = nI (u 0) from u0.2, u1.2, u2.2, u3.2, nx_xor, nx_xor, nx_xor, nx_xor, dbl_n _ (xo_lt (hui k hk).1 (hui _ (Nat.mod_lt _ (by decide))).1), nx_xor, nx_xor]
  have g0 := (hg 0 (by decide)).1
  have g1 := (hg 1 (by decide)).1
  have g2 := (hg 2 (by decide)).1
  have g3 := (hg 3 (by decide)).1
  have e : u k ^^^ ((((u 0 ^^^ u 1) ^^^ u 2) ^^^ u 3) ^^^ twN (u k ^^^ u ((k + 1) % 4))) = ((tmN (g k) 14 ^^^ tmN (g ((k + 1) % 4)) 11) ^^^ tmN (g ((k + 2) % 4)) 13) ^^^ tmN (g ((k + 3) % 4)) 9 := by
    rcases (show k = 0 ∨ k = 1 ∨ k = 2 ∨ k = 3 by omega) with r | r | r | r <;> subst r
    · refine (mx_n u0.1 u1.1 u2.1 u3.1).trans ?_
      rw [hu]
      exact ux_n g0 g1 g2 g3
    · rw [show ((u 0 ^^^ u 1) ^^^ u 2) ^^^ u 3 = ((u 1 ^^^ u 2) ^^^ u 3) ^^^ u 0 by ac_rfl]
      refine (mx_n u1.1 u2.1 u3.1 u0.1).trans ?_
      have hx := ux_n g1 g2 g3 g0
      rw [Nat.xor_comm (g 2) (g 0)] at hx
      rw [hu]
      exact hx
    · rw [show ((u 0 ^^^ u 1) ^^^ u 2) ^^^ u 3 = ((u 2 ^^^ u 3) ^^^ u 0) ^^^ u 1 by ac_rfl]
      refine (mx_n u2.1 u3.1 u0.1 u1.1).trans ?_
      have hx := ux_n g2 g3 g0 g1
      rw [Nat.xor_comm (g 2) (g 0), Nat.xor_comm (g 3) (g 1)] at hx
      rw [hu]
      exact hx
    · rw [show ((u 0 ^^^ u 1) ^^^ u 2) ^^^ u 3 = ((u 3 ^^^ u 0) ^^^ u 1) ^^^ u 2 by ac_rfl]
      refine (mx_n u3.1 u0.1 u1.1 u2.1).trans ?_
      have hx := ux_n g3 g0 g1 g2
      rw [Nat.xor_comm (g 3) (g 1)] at hx
      rw [hu]
      exact hx
  rw [e]
  have m4 : ∀ i, g (i % 4) < 256 := fun i => (hg _ (Nat.mod_lt _ (by decide))).1
  exact ⟨isB_nI (xo_lt (xo_lt (xo_lt (tmN_lt (hg k hk).1) (tmN_lt (m4 _))) (tmN_lt (m4 _))) (tmN_lt (m4 _))), rfl⟩
/-- AES there: class and model alike -/
theorem ae_R {rd : Nat} {fk fr y x : Nat → Int32} (hk : RK rd fk fr) (hr : 1 ≤ rd) (h : RB 16 y x) : RB 16 (aeT fk rd y) (mT fr (fun j_ => nI (tbV 0 j_)) rd x) := by
  have hg : ∀ n, n ≤ rd - 1 → RB 16 (agI fk y n) (mGo fr (fun j_ => nI (tbV 0 j_)) x n) := by
    intro n
    induction n with
    | zero => intro _; exact ark_R hk (by omega) h
    | succ n ih =>
      intro hn
      exact ark_R hk (by omega) (mx_R (ss_R (ih (by omega))))
  exact ark_R hk (Nat.le_refl _) (ss_R (hg _ (Nat.le_refl _)))
/-- AES back: class and model alike -/
theorem ab_R {rd : Nat} {fk fr y x : Nat → Int32} (hk : RK rd fk fr) (hr : 1 ≤ rd) (h : RB 16 y x) : RB 16 (aeB fk (orR 256) rd y) (mBa fr (orR 256) rd x) := by
  have hg : ∀ n, n ≤ rd - 1 → RB 16 (abI fk (orR 256) rd y n) (mBk fr (orR 256) rd x n) := by
    intro n
    induction n with
    | zero => intro _; exact ark_R hk (Nat.le_refl _) h
    | succ n ih =>
      intro hn
      exact umx_R (ark_R hk (by omega) (sr_R (ih (by omega))))
  exact ark_R hk (by omega) (sr_R (hg _ (Nat.le_refl _)))
