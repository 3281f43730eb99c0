/-! the key's schedule for AES, alike -/
theorem un_nI {n : Nat} (h : n < 2 ^ 32) : un (nI n) = n := pk_tn h
theorem nI_un (w : Int32) : nI (un w) = w := by
  apply Int32.toBitVec_inj.1
  apply BitVec.eq_of_toNat_eq
  exact pk_tn (un_lt w)
theorem un_xor (a b : Int32) : un (a ^^^ b) = un a ^^^ un b := by
  unfold un
  rw [Int32.toBitVec_xor, BitVec.toNat_xor]
theorem un_or (a b : Int32) : un (a ||| b) = un a ||| un b := by
  unfold un
  rw [Int32.toBitVec_or, BitVec.toNat_or]
/-- the k-th byte of a word, the highest first -/
def dg (w k : Nat) : Nat := w / 2 ^ (24 - 8 * k) % 2 ^ 8
theorem dg_lt (w k : Nat) : dg w k < 256 := Nat.mod_lt _ (by decide)
theorem rkB_n (w : Int32) {k : Nat} (hk : k < 4) : rkB w k = nI (dg (un w) k) := by
  have hw := un_lt w
  rcases (show k = 0 ∨ k = 1 ∨ k = 2 ∨ k = 3 by omega) with r | r | r | r <;> subst r
  · show ush w (nI 24) = nI (un w / 2 ^ 24 % 2 ^ 8)
    rw [ush_un w (by decide), Nat.mod_eq_of_lt (show un w / 2 ^ 24 < 2 ^ 8 by omega)]
  · show ush w (nI 16) &&& nI 255 = nI (un w / 2 ^ 16 % 2 ^ 8)
    exact ush_255 w (by decide)
  · show ush w (nI 8) &&& nI 255 = nI (un w / 2 ^ 8 % 2 ^ 8)
    exact ush_255 w (by decide)
  · show w &&& nI 255 = nI (un w / 2 ^ 0 % 2 ^ 8)
    rw [un_255, Nat.pow_zero, Nat.div_one]
theorem rkB_B (w : Int32) {k : Nat} (hk : k < 4) : isB (rkB w k) := by rw [rkB_n w hk]; exact isB_nI (dg_lt _ _)
theorem dg_xor (a b k : Nat) : dg (a ^^^ b) k = dg a k ^^^ dg b k := by
  unfold dg
  rw [Nat.xor_div_two_pow, Nat.xor_mod_two_pow]
theorem rkB_xor (a b : Int32) {k : Nat} (hk : k < 4) : rkB (a ^^^ b) k = rkB a k ^^^ rkB b k := by
  rw [rkB_n _ hk, rkB_n _ hk, rkB_n _ hk, un_xor, dg_xor, nx_xor]
theorem or_p {a b i : Nat} (h : b < 2 ^ i) : a * 2 ^ i ||| b = a * 2 ^ i + b := by
  rw [Nat.mul_comm]
  exact (Nat.two_pow_add_eq_or_of_lt h a).symm
theorem or4 {a b c d : Nat} (hb : b < 256) (hc : c < 256) (hd : d < 256) : ((a * 2 ^ 24 ||| b * 2 ^ 16) ||| c * 2 ^ 8) ||| d = a * 2 ^ 24 + (b * 2 ^ 16 + (c * 2 ^ 8 + d)) := by
  rw [Nat.or_assoc, Nat.or_assoc, or_p (show d < 2 ^ 8 from hd), or_p (show c * 2 ^ 8 + d < 2 ^ 16 by omega), or_p (show b * 2 ^ 16 + (c * 2 ^ 8 + d) < 2 ^ 24 by omega)]
theorem dg4 {a b c d : Nat} (ha : a < 256) (hb : b < 256) (hc : c < 256) (hd : d < 256) {k : Nat} (hk : k < 4) : dg (a * 2 ^ 24 + (b * 2 ^ 16 + (c * 2 ^ 8 + d))) k = if k = 0 then a else if k = 1 then b else if k = 2 then c else d := by
  unfold dg
  rcases (show k = 0 ∨ k = 1 ∨ k = 2 ∨ k = 3 by omega) with r | r | r | r <;> subst r <;> simp <;> omega
theorem shl_n {a k : Nat} (hk : k < 32) (h : a * 2 ^ k < 2 ^ 32) : nI a <<< (nI k &&& 31) = nI (a * 2 ^ k) := pk_shlN _ k (s_l k hk) h
theorem mw_n {g : Nat → Int32} {f : Nat → Nat} {k : Nat} (h : ∀ i, i < 4 → f i < 256 ∧ g (k + i) = nI (f i)) : mw g k = nI (f 0 * 2 ^ 24 + (f 1 * 2 ^ 16 + (f 2 * 2 ^ 8 + f 3))) := by
  have h0 := h 0 (by decide)
  have h1 := h 1 (by decide)
  have h2 := h 2 (by decide)
  have h3 := h 3 (by decide)
  have l0 := h0.1
  have l1 := h1.1
  have l2 := h2.1
  have l3 := h3.1
  unfold mw
  rw [show g k = nI (f 0) from h0.2, h1.2, h2.2, h3.2, shl_n (by decide) (by omega), shl_n (by decide) (by omega), shl_n (by decide) (by omega), nx_or, nx_or, nx_or, or4 l1 l2 l3]
theorem mw_B {g : Nat → Int32} {k : Nat} (h : ∀ i, i < 4 → isB (g (k + i))) {i : Nat} (hi : i < 4) : rkB (mw g k) i = g (k + i) := by
  have hf : ∀ i, i < 4 → un (g (k + i)) % 2 ^ 8 < 256 ∧ g (k + i) = nI (un (g (k + i)) % 2 ^ 8) := fun i hi => ⟨Nat.mod_lt _ (by decide), by rw [← un_255]; exact (h i hi).symm⟩
  have e := mw_n (f := fun i => un (g (k + i)) % 2 ^ 8) hf
  have l0 := (hf 0 (by decide)).1
  have l1 := (hf 1 (by decide)).1
  have l2 := (hf 2 (by decide)).1
  have l3 := (hf 3 (by decide)).1
  rw [e, rkB_n _ hi, un_nI (by omega), dg4 l0 l1 l2 l3 hi]
  rw [(hf i hi).2]
  rcases (show i = 0 ∨ i = 1 ∨ i = 2 ∨ i = 3 by omega) with r | r | r | r <;> subst r <;> simp [Nat.mod_mod]
  all_goals (first | rfl | (rw [un_nI (by omega)]; omega) | skip)
theorem wAt_mw (f : Nat → Int32) (z k : Nat) : wAt f z k = mw (rAt f z) k := rfl
theorem rAt_B {f : Nat → Int32} {z : Nat} (h : ∀ j, j < z → isB (f j)) (k : Nat) : isB (rAt f z k) := by
  by_cases q : k < z
  · rw [rAt_in q]; exact h k q
  · rw [rAt_out (by omega)]; exact isB_0
theorem sub_n (v : Nat) {k : Nat} (hv : v < 2 ^ 32) (hk : k < 4) : rkB (nI (subN v)) k = nI (tbV 0 (dg v k)) := by
  have l0 := tb0_lt (v / 2 ^ 24)
  have l1 := tb0_lt (v / 2 ^ 16 % 2 ^ 8)
  have l2 := tb0_lt (v / 2 ^ 8 % 2 ^ 8)
  have l3 := tb0_lt (v % 2 ^ 8)
  unfold subN
  rw [or4 l1 l2 l3, rkB_n _ hk, un_nI (by omega), dg4 l0 l1 l2 l3 hk]
  unfold dg
  rcases (show k = 0 ∨ k = 1 ∨ k = 2 ∨ k = 3 by omega) with r | r | r | r <;> subst r
  · show nI (tbV 0 (v / 2 ^ 24)) = nI (tbV 0 (v / 2 ^ 24 % 2 ^ 8))
    rw [Nat.mod_eq_of_lt (show v / 2 ^ 24 < 2 ^ 8 by omega)]
  · rfl
  · rfl
  · show nI (tbV 0 (v % 2 ^ 8)) = nI (tbV 0 (v / 2 ^ 0 % 2 ^ 8))
    rw [Nat.pow_zero, Nat.div_one]
theorem rot24_n (w : Int32) : un (rot 24 w) = un w * 2 ^ 8 % 2 ^ 32 + un w / 2 ^ 24 := by
  have hw := un_lt w
  unfold rot
  rw [un_or, ush_un w (by decide), un_nI (by omega)]
  have e : un (w <<< ((-(nI 24)) &&& 31)) = un w * 2 ^ 8 % 2 ^ 32 := pk_shl w _ 8 (by decide)
  rw [e, Nat.or_comm]
  have e2 : un w * 2 ^ 8 % 2 ^ 32 = (un w % 2 ^ 24) * 2 ^ 8 := by omega
  rw [e2]
  exact or_p (by omega)
theorem wd4 {n : Nat} (h : n < 2 ^ 32) : n = dg n 0 * 2 ^ 24 + (dg n 1 * 2 ^ 16 + (dg n 2 * 2 ^ 8 + dg n 3)) := by
  unfold dg
  simp
  omega
theorem dg_rot (w : Int32) {k : Nat} (hk : k < 4) : dg (un (rot 24 w)) k = dg (un w) ((k + 1) % 4) := by
  have h := wd4 (un_lt w)
  have l0 := dg_lt (un w) 0
  have l1 := dg_lt (un w) 1
  have l2 := dg_lt (un w) 2
  have l3 := dg_lt (un w) 3
  rw [rot24_n]
  have e : un w * 2 ^ 8 % 2 ^ 32 + un w / 2 ^ 24 = dg (un w) 1 * 2 ^ 24 + (dg (un w) 2 * 2 ^ 16 + (dg (un w) 3 * 2 ^ 8 + dg (un w) 0)) := by omega
  rw [e, dg4 l1 l2 l3 l0 hk]
  rcases (show k = 0 ∨ k = 1 ∨ k = 2 ∨ k = 3 by omega) with r | r | r | r <;> subst r <;> rfl
theorem rc_n : ∀ n, rcI n = nI (twRN 1 n) := by
  intro n
  induction n with
  | zero => rfl
  | succ n ih => simp only [rcI, twRN]; rw [ih, dbl_n _ (twRN_lt (by decide) n)]
theorem rc_sh (n : Nat) {k : Nat} (hk : k < 4) : rkB (rcI n <<< (nI 24 &&& 31)) k = if k = 0 then twR (nI 1) n else nI 0 := by
  have hl := twRN_lt (a := 1) (by decide) n
  rw [rc_n, shl_n (by decide) (by omega), rkB_n _ hk, un_nI (by omega), twR_n (by decide)]
  unfold dg
  rcases (show k = 0 ∨ k = 1 ∨ k = 2 ∨ k = 3 by omega) with r | r | r | r <;> subst r
  · rw [if_pos rfl]; congr 1; simp; omega
  · rw [if_neg (by decide)]; congr 1; simp; omega
  · rw [if_neg (by decide)]; congr 1; simp; omega
  · rw [if_neg (by decide)]; congr 1; simp; omega
theorem bN_xl (x y : Int32) : bN (bN x ^^^ y) = bN (x ^^^ y) := by rw [← bN_xor, bN_bN, bN_xor]
theorem bN_xr {x y z : Int32} (h : bN y = bN z) : bN (x ^^^ y) = bN (x ^^^ z) := by rw [← bN_xor, h, bN_xor]
theorem un_rk (w : Int32) {k : Nat} (hk : k < 4) : un (bN (rkB w k)) % 2 ^ 8 = dg (un w) k := by
  rw [un_bN, rkB_n w hk, un_nI (Nat.lt_trans (dg_lt _ _) (by decide)), Nat.mod_eq_of_lt (dg_lt _ _)]
theorem sk_R {u v : Nat → Int32} {nw : Nat} (hn : nw = 4 ∨ nw = 6 ∨ nw = 8) (h : ∀ i, i < nw → ∀ k, k < 4 → v (4 * i + k) = bN (rkB (u i) k)) : ∀ t i, i < nw + t → ∀ k, k < 4 → mkA (fun j_ => nI (tbV 0 j_)) v nw t (4 * i + k) = bN (rkB (skA u nw t i) k) := by
  intro t
  induction t with
  | zero => intro i hi k hk; exact h i (by omega) k hk
  | succ t ih =>
    intro i hi k hk
    simp only [mkA, skA]
    by_cases h1 : i = nw + t
    · subst h1
      rw [fa_at hk, upd_at]
      simp only [mkS]
      rw [ih (nw + t - nw) (by omega) k hk, bN_xl, rkB_xor _ _ hk]
      refine bN_xr ?_
      unfold mkV skT
      have hw := ih (nw + t - 1) (by omega)
      generalize skA u nw t (nw + t - 1) = w at hw
      by_cases c1 : t % nw = 0
      · rw [if_pos (show (nw + t) % nw = 0 by rw [Nat.add_mod_left]; exact c1), if_pos c1, hw _ (Nat.mod_lt _ (by decide)), un_rk _ (Nat.mod_lt _ (by decide)), rkB_xor _ _ hk, sub_n _ (un_lt _) hk, dg_rot _ hk, rc_sh _ hk]
        rfl
      · rw [if_neg (show ¬ (nw + t) % nw = 0 by rw [Nat.add_mod_left]; exact c1), if_neg c1]
        by_cases c2 : nw = 8 ∧ t % nw = 4
        · rw [if_pos (show nw = 8 ∧ (nw + t) % 8 = 4 from ⟨c2.1, by have := c2.2; rw [c2.1] at this ⊢; omega⟩), if_pos c2, hw k hk, un_rk _ hk, sub_n _ (un_lt _) hk]
        · rw [if_neg (show ¬ (nw = 8 ∧ (nw + t) % 8 = 4) from fun q => c2 ⟨q.1, by have := q.2; have := q.1; subst this; omega⟩), if_neg c2, hw k hk, bN_bN]
    · rw [fa_out (by omega), show upd (skA u nw t) (nw + t) (skA u nw t (nw + t - nw) ^^^ skT nw t (skA u nw t (nw + t - 1))) i = skA u nw t i by simp [upd, h1]]
      exact ih i (by omega) k hk
/-- the round keys, alike -/
theorem key_R {fk mk u v : Nat → Int32} {nw : Nat} (hn : nw = 4 ∨ nw = 6 ∨ nw = 8) (h : RB (4 * nw) fk mk) : RK (nw + 6) (skA (fl nw (fun i_ => wAt fk (4 * nw) (4 * i_)) u) nw (3 * nw + 28)) (mkA (fun j_ => nI (tbV 0 j_)) (fl (4 * nw) (fun j_ => bN (mk j_)) v) nw (3 * nw + 28)) := by
  intro q hq j hj
  have hk : j % 4 < 4 := Nat.mod_lt _ (by decide)
  refine ⟨rkB_B _ hk, ?_⟩
  rw [show 16 * q + j = 4 * (4 * q + j / 4) + j % 4 by omega]
  refine sk_R hn ?_ (3 * nw + 28) (4 * q + j / 4) (by omega) _ hk
  intro i hi k hk
  rw [fl_in (by omega), fl_in hi, (h (4 * i + k) (by omega)).2, bN_bN, wAt_mw, mw_B (fun i2 h2 => rAt_B (fun j hj => (h j hj).1) _) hk, rAt_in (by omega)]
