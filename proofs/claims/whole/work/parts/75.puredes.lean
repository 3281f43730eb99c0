/-! DES: a block, three of them, the retail code's chain -/
theorem inv12 : ∀ p, p < 64 → tbV 2 p - 1 < 64 ∧ tbV 1 (tbV 2 p - 1) - 1 = p := by decide +kernel
theorem inv21 : ∀ k, k < 64 → tbV 1 k - 1 < 64 ∧ tbV 2 (tbV 1 k - 1) - 1 = k := by decide +kernel
theorem bN_or (x y : Int32) : bN (bN x ||| bN y) = bN (x ||| y) := by
  rw [← bN_and, ← bN_and (x ||| y)]
  congr 1
  have h : ∀ a b c : Int32, (a ||| b) &&& c = (a &&& c) ||| (b &&& c) := by
    intro a b c
    apply Int32.toBitVec_inj.mp
    simp only [Int32.toBitVec_and, Int32.toBitVec_or]
    apply BitVec.eq_of_getLsbD_eq
    intro i _
    simp only [BitVec.getLsbD_and, BitVec.getLsbD_or]
    cases a.toBitVec.getLsbD i <;> cases b.toBitVec.getLsbD i <;> cases c.toBitVec.getLsbD i <;> rfl
  rw [h, and_bN, and_bN, ← h]
def pb (bt : Nat → Nat) : Nat → Nat → Nat
  | 0 => fun _ => 0
  | k + 1 => fun j => if j = (tbV 1 k - 1) / 8 then pb bt k j ||| vN bt k * 2 ^ (7 - (tbV 1 k - 1) % 8) else pb bt k j
theorem vN_lt {bt : Nat → Nat} (h : ∀ j, bt j < 2) (k : Nat) : vN bt k < 2 := h _
theorem v1_8 {v g : Nat} (hv : v < 2) (hg : g < 8) : v * 2 ^ g < 2 ^ 8 := by
  have h1 : v * 2 ^ g ≤ 1 * 2 ^ g := Nat.mul_le_mul_right _ (by omega)
  have h2 : 2 ^ g ≤ 2 ^ 7 := Nat.pow_le_pow_right (by decide) (by omega)
  omega
theorem pb_lt {bt : Nat → Nat} (h : ∀ j, bt j < 2) : ∀ n j, pb bt n j < 2 ^ 8 := by
  intro n
  induction n with
  | zero => intro j; exact (by decide : (0 : Nat) < 2 ^ 8)
  | succ n ih =>
    intro j
    simp only [pb]
    split
    · exact Nat.or_lt_two_pow (ih j) (v1_8 (vN_lt h _) (by omega))
    · exact ih j
theorem pk_n {bt : Nat → Nat} (h : ∀ j, bt j < 2) {f : Nat → Int32} : ∀ n, n ≤ 64 → ∀ j, j < 8 → pkA bt f 0 n j = bN (nI (pb bt n j)) := by
  intro n
  induction n with
  | zero => intro _ j hj; simp only [pkA, pb]; rw [fa0_at hj]
  | succ n ih =>
    intro hn j hj
    have q := (inv21 n (by omega)).1
    simp only [pkA, pb, Nat.zero_add]
    by_cases h1 : j = (tbV 1 n - 1) / 8
    · rw [if_pos h1, ← h1, upd_at, ih (by omega) j hj, bN_or, shl_n (by omega) (Nat.lt_trans (v1_8 (vN_lt h n) (by omega)) (by decide)), nx_or]
    · rw [if_neg h1, show upd (pkA bt f 0 n) ((tbV 1 n - 1) / 8) _ j = pkA bt f 0 n j from by simp only [upd]; rw [if_neg h1], ih (by omega) j hj]
theorem pb_b {bt : Nat → Nat} (h : ∀ j, bt j < 2) {p : Nat} (hp : p < 64) : ∀ n, n ≤ 64 → bx (pb bt n (p / 8)) (7 - p % 8) = if tbV 2 p - 1 < n then vN bt (tbV 2 p - 1) else 0 := by
  intro n
  have q := inv12 p hp
  induction n with
  | zero => intro _; rw [if_neg (by omega)]; exact bx_0 _
  | succ n ih =>
    intro hn
    have q2 := inv21 n (by omega)
    simp only [pb]
    by_cases h1 : p / 8 = (tbV 1 n - 1) / 8
    · rw [if_pos h1, bx_or, ih (by omega), bx_1 (vN_lt h n)]
      by_cases h2 : p = tbV 1 n - 1
      · have e : tbV 2 p - 1 = n := by rw [h2]; exact q2.2
        rw [if_neg (show ¬ tbV 2 p - 1 < n by omega), Nat.zero_or, if_pos (show 7 - p % 8 = 7 - (tbV 1 n - 1) % 8 by rw [← h2]), if_pos (show tbV 2 p - 1 < n + 1 by omega), e]
      · have e : tbV 2 p - 1 ≠ n := fun e => h2 (by rw [← e]; exact q.2.symm)
        rw [if_neg (show ¬ 7 - p % 8 = 7 - (tbV 1 n - 1) % 8 by omega), Nat.or_zero]
        by_cases h3 : tbV 2 p - 1 < n
        · rw [if_pos h3, if_pos (by omega)]
        · rw [if_neg h3, if_neg (by omega)]
    · rw [if_neg h1, ih (by omega)]
      have e : tbV 2 p - 1 ≠ n := fun e => h1 (by rw [← e, q.2])
      by_cases h3 : tbV 2 p - 1 < n
      · rw [if_pos h3, if_pos (by omega)]
      · rw [if_neg h3, if_neg (by omega)]
theorem spR_n (v : Int64) : ∀ k, ln (spR v k) = ln v / 2 ^ (8 * k) := by
  intro k
  induction k with
  | zero => simp only [spR]; rw [Nat.mul_zero, Nat.pow_zero, Nat.div_one]
  | succ k ih => simp only [spR]; rw [ln_lus _ (by decide), ih, Nat.div_div_eq_div_mul, ← Nat.pow_add, show 8 * (k + 1) = 8 * k + 8 by omega]
theorem spB_n (v : Int64) (j : Nat) : spB v j = nI (ln v / 2 ^ (8 * (7 - j)) % 2 ^ 8) := by
  unfold spB
  rw [un_255, un_l, spR_n, Nat.mod_mod_of_dvd _ (Nat.pow_dvd_pow 2 (show 8 ≤ 32 by decide))]
theorem dsX_n {sk ix : Nat → Nat} (hs : ∀ j, sk j < 2) (x : Nat → Int32) {j : Nat} (hj : j < 8) : dsX sk ix x j = bN (nI (pb (rdN x 0 sk ix 16) 64 j)) := by
  unfold dsX
  exact pk_n (rdN_lt hs 16) 64 (Nat.le_refl _) j hj
theorem dsX_bit {sk ix : Nat → Nat} (hs : ∀ j, sk j < 2) (x : Nat → Int32) {p : Nat} (hp : p < 64) : bitN (dsX sk ix x) 0 p = vN (rdN x 0 sk ix 16) (tbV 2 p - 1) := by
  have hb := pb_lt (rdN_lt (f := x) (d := 0) (ix := ix) hs 16) 64
  have q := bitN_b (f := fun j => nI (pb (rdN x 0 sk ix 16) 64 j)) (x := dsX sk ix x) (d := 0) (p := p) ⟨isB_nI (hb _), dsX_n hs x (by omega)⟩
  rw [q, un_nI (Nat.lt_trans (hb _) (by decide)), Nat.zero_add, pb_b (rdN_lt hs 16) hp 64 (Nat.le_refl _), if_pos (inv12 p hp).1]
/-- a class's round keys are the model's, at d -/
def KD (f mk : Nat → Int32) (d : Nat) : Prop := ∀ q, q < 16 → ∀ b, b < 8 → BT 6 (un (f (q * 8 + b))) (fun i => skB mk d (48 * q + (6 * b + i)))
theorem skB_lt2 (f : Nat → Int32) (d j : Nat) : skB f d j < 2 := by
  have hc : ∀ r j, cdR f d r j < 2 := by
    intro r
    induction r with
    | zero => intro j; exact bitN_lt _ _ _
    | succ r ih =>
      intro j
      have hr : ∀ (c : Nat → Nat), (∀ j, c j < 2) → ∀ t j, rotN c t j < 2 := by
        intro c hc t
        induction t with
        | zero => exact hc
        | succ t ih2 =>
          intro j
          simp only [rotN, rot1]
          split
          · exact ih2 _
          · exact ih2 _
      exact hr _ ih _ _
  exact hc _ _
/-- from the bits of a block behind the first permutation to the next's -/
theorem ds_step {fk mk : Nat → Int32} {d : Nat} {ix : Nat → Nat} {V : Int64} {x : Nat → Int32} (hk : KD fk mk d) (hix : ∀ r, r < 16 → ix r < 16) (h : BT 64 (ln V) (bI x 0)) : BT 64 (ln (rds fk mbI ix V)) (bI (dsX (skB mk d) ix x) 0) := by
  have q := rds_B hk hix h
  rw [← rdN_G] at q
  refine q.c (fun k hk9 => ?_)
  have h1 := inv21 k hk9
  unfold bI
  rw [dsX_bit (skB_lt2 mk d) x h1.1, h1.2]
theorem ds_last {fk mk : Nat → Int32} {d : Nat} {ix : Nat → Nat} {V : Int64} {x : Nat → Int32} (hk : KD fk mk d) (hix : ∀ r, r < 16 → ix r < 16) (h : BT 64 (ln V) (bI x 0)) : BT 64 (ln (pm (rds fk mbI ix V) 64 2)) (bitN (dsX (skB mk d) ix x) 0) := by
  have q := rds_B hk hix h
  rw [← rdN_G] at q
  refine (pm_B q (by decide) tb_2 (by decide) tb2_i9).c (fun k hk9 => ?_)
  rw [dsX_bit (skB_lt2 mk d) x hk9]
theorem sp_R {V : Int64} {f x : Nat → Int32} (h : BT 64 (ln V) (bitN x 0)) (hf : RB 8 f x) : RB 8 (spB V) x := by
  intro j hj
  obtain ⟨h1, h2⟩ := hf j hj
  obtain ⟨b, hb, e⟩ := isB_n h1
  have e2 : spB V j = f j := by
    rw [spB_n, e]
    congr 1
    refine bx_eq (n := 8) (Nat.mod_lt _ (by decide)) hb (fun k hk => ?_)
    have q := h.2 (8 * j + (7 - k)) (by omega)
    rw [bitN_b (f := f) (hf _ (by omega)), Nat.zero_add, show (8 * j + (7 - k)) / 8 = j by omega, show (8 * j + (7 - k)) % 8 = 7 - k by omega, e, un_nI (by omega), show 7 - (7 - k) = k by omega] at q
    rw [bx_mod hk, bx_div, ← q]
    congr 1
    omega
  exact ⟨by rw [e2]; exact h1, by rw [e2]; exact h2⟩
theorem dsX_R {sk ix : Nat → Nat} (hs : ∀ j, sk j < 2) (x : Nat → Int32) : RB 8 (fun j => nI (pb (rdN x 0 sk ix 16) 64 j)) (dsX sk ix x) := fun j hj => ⟨isB_nI (pb_lt (rdN_lt hs 16) 64 _), dsX_n hs x hj⟩
theorem ip_B {V : Int64} {x : Nat → Int32} (h : BT 64 (ln V) (bitN x 0)) : BT 64 (ln (pm V 64 1)) (bI x 0) := pm_B h (by decide) tb_1 (by decide) tb1_i9
theorem ix_1 : ∀ r, r < 16 → (fun i_ : Nat => i_) r < 16 := fun _ h => h
theorem ix_2 : ∀ r, r < 16 → (fun i_ : Nat => 15 - i_) r < 16 := fun r _ => by show 15 - r < 16; omega
/-- triple DES there -/
theorem d3_R {f1 f2 mk f x : Nat → Int32} {d : Nat} (h1 : KD f1 mk d) (h2 : KD f2 mk (d + 8)) (h : RB 8 f x) : RB 8 (d3T f1 f2 mbI f) (d3X mk d x) := by
  have q := ds_last h1 ix_1 (ds_step h2 ix_2 (ds_step h1 ix_1 (ip_B (blk_B h))))
  exact sp_R q (dsX_R (skB_lt2 _ _) _)
theorem d3b_R {f1 f2 mk f x : Nat → Int32} {d : Nat} (h1 : KD f1 mk d) (h2 : KD f2 mk (d + 8)) (h : RB 8 f x) : RB 8 (d3B f1 f2 mbI f) (d3Y mk d x) := by
  have q := ds_last h1 ix_2 (ds_step h2 ix_1 (ds_step h1 ix_2 (ip_B (blk_B h))))
  exact sp_R q (dsX_R (skB_lt2 _ _) _)
theorem KD_key {fk mk : Nat → Int32} {z d : Nat} (h : RB z fk mk) (hd : d + 8 ≤ z) : KD (dkI (lAt fk z d)) mk d := fun q hq b hb => dk_B (lAt_BT h hd) hq hb
/-- a long and eight bytes of the model -/
def LR (V : Int64) (x : Nat → Int32) : Prop := BT 64 (ln V) (bitN x 0) ∧ ∃ f, RB 8 f x
theorem LR_cd {fk mk x : Nat → Int32} {d : Nat} {ix : Nat → Nat} {V : Int64} (hk : KD fk mk d) (hix : ∀ r, r < 16 → ix r < 16) (h : LR V x) : LR (cdI fk mbI ix V) (dsX (skB mk d) ix x) := ⟨ds_last hk hix (ip_B h.1), _, dsX_R (skB_lt2 _ _) _⟩
theorem LR_xor {V U : Int64} {x y : Nat → Int32} (h : LR V x) (g : LR U y) : LR (V ^^^ U) (fun j_ => bN (x j_ ^^^ y j_)) := by
  obtain ⟨h1, f1, hf1⟩ := h
  obtain ⟨h2, f2, hf2⟩ := g
  have hx := hf1.xor hf2
  refine ⟨?_, _, hx⟩
  rw [ln_xor]
  refine (h1.xor h2).c (fun p hp => ?_)
  have hp8 : 0 + p / 8 < 8 := by omega
  have q3 : bitN (fun j_ => bN (x j_ ^^^ y j_)) 0 p = bx (un (f1 (0 + p / 8) ^^^ f2 (0 + p / 8))) (7 - p % 8) := bitN_b (f := fun j => f1 j ^^^ f2 j) (x := fun j_ => bN (x j_ ^^^ y j_)) (d := 0) (p := p) (hx (0 + p / 8) hp8)
  rw [q3, un_xor, bx_xor, bitN_b (f := f1) (x := x) (d := 0) (p := p) (hf1 _ hp8), bitN_b (f := f2) (x := y) (d := 0) (p := p) (hf2 _ hp8)]
theorem LR_at {f x : Nat → Int32} {z d : Nat} (h : RB z f x) (hd : d + 8 ≤ z) : LR (lAt f z d) (fun j_ => x (d + j_)) := by
  refine ⟨(lAt_BT h hd).c (fun p hp => ?_), fun j => f (d + j), fun j hj => h _ (by omega)⟩
  unfold bitN
  try dsimp only
  rw [Nat.zero_add]
theorem LR_out {V : Int64} {x t : Nat → Int32} (h : LR V x) : RB 8 (fa 4 4 (wB (V.toInt32)) (fa 0 4 (wB ((lus V (nI 32)).toInt32)) t)) x := by
  obtain ⟨h1, f, hf⟩ := h
  have hs := sp_R h1 hf
  refine hs.c (fun j hj => ?_) (fun j _ => rfl)
  rw [spB_n]
  have hl := ln_lt V
  by_cases h4 : j < 4
  · rw [fa_out (Or.inl h4), fa0_at h4, wB_n _ h4, un_l, ln_lus _ (by decide), Nat.mod_eq_of_lt (by omega)]
    unfold dg
    rw [Nat.div_div_eq_div_mul, ← Nat.pow_add, show 32 + (24 - 8 * j) = 8 * (7 - j) by omega]
  · obtain ⟨k, rfl⟩ : ∃ k, j = 4 + k := ⟨j - 4, by omega⟩
    rw [fa_at (by omega), wB_n _ (by omega), un_l]
    unfold dg
    congr 1
    refine bx_eq (n := 8) (Nat.mod_lt _ (by decide)) (Nat.mod_lt _ (by decide)) (fun i hi => ?_)
    rw [bx_mod hi, bx_mod hi, bx_div, bx_div, bx_mod (by omega)]
    congr 1
    omega
