/-! the model's boxes for AES are the class's table -/
def twN (v : Nat) : Nat := if v < 128 then 2 * v else (2 * v) ^^^ 283
theorem twI_n : ∀ v, v < 256 → twI (nI v) = nI (twN v) := by decide +kernel
theorem twN_lt : ∀ v, v < 256 → twN v < 256 := by decide +kernel
def twRN (a : Nat) : Nat → Nat
  | 0 => a
  | k + 1 => twN (twRN a k)
theorem twRN_lt {a : Nat} (h : a < 256) : ∀ k, twRN a k < 256 := by
  intro k
  induction k with
  | zero => exact h
  | succ k ih => exact twN_lt _ ih
theorem twR_n {a : Nat} (h : a < 256) : ∀ k, twR (nI a) k = nI (twRN a k) := by
  intro k
  induction k with
  | zero => rfl
  | succ k ih => simp only [twR, twRN]; rw [ih, twI_n _ (twRN_lt h k)]
def tsN (a b : Nat) : Nat → Nat
  | 0 => 0
  | k + 1 => tsN a b k ^^^ (if b / 2 ^ k % 2 = 1 then twRN a k else 0)
theorem bit_n : ∀ k, k < 8 → ∀ b, b < 256 → ((nI b >>> (nI k &&& 31)) &&& nI 1 = nI 1 ↔ b / 2 ^ k % 2 = 1) := by decide +kernel
theorem tsI_n {a b : Nat} (ha : a < 256) (hb : b < 256) : ∀ k, k ≤ 8 → tsI (nI a) (nI b) k = nI (tsN a b k) := by
  intro k
  induction k with
  | zero => intro _; rfl
  | succ k ih =>
    intro hk
    simp only [tsI, tsN]
    rw [ih (by omega)]
    by_cases h : b / 2 ^ k % 2 = 1
    · rw [if_pos ((bit_n k (by omega) b hb).mpr h), if_pos h, twR_n ha, nx_xor]
    · rw [if_neg (fun q => h ((bit_n k (by omega) b hb).mp q)), if_neg h, nx_xor]
def tmN (a b : Nat) : Nat := tsN a b 8
theorem tmI_n {a b : Nat} (ha : a < 256) (hb : b < 256) : tmI (nI a) (nI b) = nI (tmN a b) := tsI_n ha hb 8 (Nat.le_refl _)
/-- a times b, by an accumulator -/
def tmG : Nat → Nat → Nat → Nat → Nat
  | 0, _, _, r => r
  | n + 1, a, b, r => tmG n (twN a) (b / 2) (bif b % 2 == 1 then r ^^^ a else r)
theorem twRN_s (a : Nat) : ∀ k, twRN (twN a) k = twRN a (k + 1) := by
  intro k
  induction k with
  | zero => rfl
  | succ k ih => simp only [twRN] at ih ⊢; rw [ih]
theorem tmG_ts (a b : Nat) : ∀ n k, tmG n (twRN a k) (b / 2 ^ k) (tsN a b k) = tsN a b (k + n) := by
  intro n
  induction n with
  | zero => intro k; rfl
  | succ n ih =>
    intro k
    simp only [tmG]
    rw [show twN (twRN a k) = twRN a (k + 1) from rfl, Nat.div_div_eq_div_mul, ← Nat.pow_succ, show k + (n + 1) = (k + 1) + n by omega, ← ih (k + 1)]
    congr 1
    simp only [tsN]
    by_cases h : b / 2 ^ k % 2 = 1
    · rw [if_pos h, h]; rfl
    · rw [if_neg h, Nat.xor_zero, show (b / 2 ^ k % 2 == 1) = false from beq_false_of_ne h]; rfl
theorem tmN_G (a b : Nat) : tmN a b = tmG 8 a b 0 := by
  have h := tmG_ts a b 8 0
  rw [Nat.pow_zero, Nat.div_one, Nat.zero_add] at h
  exact h.symm
/-- the last x of 1 .. k with v times x = 1 -/
def ivL (v : Nat) : Nat → Nat
  | 0 => 0
  | k + 1 => if tmI (nI v) (nI (k + 1)) = nI 1 then k + 1 else ivL v k
theorem ivL_n {v k : Nat} (h : ¬ tmI (nI v) (nI (k + 1)) = nI 1) : nI (ivL v k) = nI (ivL v (k + 1)) := by simp only [ivL]; rw [if_neg h]
theorem ivL_y {v k : Nat} (h : tmI (nI v) (nI (k + 1)) = nI 1) : nI (k + 1) = nI (ivL v (k + 1)) := by simp only [ivL]; rw [if_pos h]
theorem ivL_le (v : Nat) : ∀ k, ivL v k ≤ k := by
  intro k
  induction k with
  | zero => exact Nat.le_refl _
  | succ k ih => simp only [ivL]; split <;> omega
def ivG (v : Nat) : Nat → Nat
  | 0 => 0
  | k + 1 => bif tmG 8 v (k + 1) 0 == 1 then k + 1 else ivG v k
theorem tmG_lt (v x : Nat) (hv : v < 256) : tmN v x < 256 := by
  unfold tmN
  have : ∀ k, tsN v x k < 256 := by
    intro k
    induction k with
    | zero => exact (by decide : (0 : Nat) < 256)
    | succ k ih =>
      simp only [tsN]
      refine Nat.xor_lt_two_pow (n := 8) ih ?_
      split
      · exact twRN_lt hv k
      · decide
  exact this 8
theorem ivL_G {v : Nat} (hv : v < 256) : ∀ k, k < 256 → ivL v k = ivG v k := by
  intro k
  induction k with
  | zero => intro _; rfl
  | succ k ih =>
    intro hk
    simp only [ivL, ivG]
    rw [ih (by omega), tmI_n hv hk, ← tmN_G]
    by_cases h : tmN v (k + 1) = 1
    · rw [if_pos (by rw [h]), h]; rfl
    · rw [if_neg (fun q => h ((nI_eq (by have := tmG_lt v (k + 1) hv; omega) (by decide)).mp q)), show (tmN v (k + 1) == 1) = false from beq_false_of_ne h]; rfl
def onN (i k : Nat) : Nat := (i / 2 ^ k) ^^^ (i / 2 ^ ((k + 4) % 8)) ^^^ (i / 2 ^ ((k + 5) % 8)) ^^^ (i / 2 ^ ((k + 6) % 8)) ^^^ (i / 2 ^ ((k + 7) % 8)) ^^^ (99 / 2 ^ k)
def sbL (i : Nat) : Nat → Nat
  | 0 => 0
  | k + 1 => sbL i k ||| (onN i k % 2 ^ 1) * 2 ^ k
theorem mb_ok1 : ∀ v, v < 256 → sbL (ivG v 255) 8 = tbV 0 v := by decide +kernel
theorem mb_ok {v : Nat} (h : v < 256) : sbL (ivL v 255) 8 = tbV 0 v := by rw [ivL_G h 255 (by decide), mb_ok1 v h]
theorem dv_lt {i k : Nat} (h : i < 256) : i / 2 ^ k < 2 ^ 8 := Nat.lt_of_le_of_lt (Nat.div_le_self _ _) h
theorem onN_lt {i k : Nat} (h : i < 256) : onN i k < 2 ^ 8 := by
  unfold onN
  exact Nat.xor_lt_two_pow (Nat.xor_lt_two_pow (Nat.xor_lt_two_pow (Nat.xor_lt_two_pow (Nat.xor_lt_two_pow (dv_lt h) (dv_lt h)) (dv_lt h)) (dv_lt h)) (dv_lt h)) (dv_lt (by decide))
theorem on_sh {x k : Nat} (h : k < 8) : x % 2 ^ 1 * 2 ^ k < 2 ^ 32 := Nat.lt_of_le_of_lt (Nat.mul_le_mul (Nat.le_of_lt_succ (Nat.mod_lt _ (by decide))) (Nat.pow_le_pow_right (by decide) (Nat.le_of_lt h))) (by decide)
set_option maxHeartbeats 4000000 in
set_option maxRecDepth 100000 in
theorem c_m_makeBoxes (l : Launch) (G : wG) (h : Nat) (a : Nat → Nat) (rd mn tp os : Nat) (ty : Int32) (sz : Nat) (fs : Nat → Int32)  : CMv l G yX8_makeBoxes wsX8_makeBoxes 2 44 0 0 [.ref h] [(h, .inr (7, mO a rd mn tp os ty sz)), (a 8, .inl (G.2.1, 256, .inl fs)), (a 9, .inl (G.2.1, 256, .inl (fun _ => 0)))] (fun (_ : Unit) => True) (fun _ => [(h, .inr (7, mO a rd mn tp os ty sz)), (a 8, .inl (G.2.1, 256, .inl (fun j_ => nI (tbV 0 j_)))), (a 9, .inl (G.2.1, 256, .inl (orR 256)))]) := by
  refine CMv.start cX8_makeBoxes 6 (by decide) rfl (Nat.le_of_ble_eq_true rfl) ?_
  intro p e s m below meth c A Q ls H locs hx hb hml hown hnm hts hK hT hA hP hD hS hl hret
  have hinX8 : ∀ w ∈ u_ws RX8 TX8 35, w ∈ wsX8_makeBoxes := by decide +kernel
  have hl : lv_has ls 6 [(0, .ref h)] := hl
  refine lv_iconst (v := nI 0) hx hb dX8_makeBoxes_0 (by decide) ?_
  refine lv_istore_n (lv' := [(1, .int (nI 0)), (0, .ref h)]) hx hb dX8_makeBoxes_1 rfl hl (by decide) rfl (fun ls hl => ?_)
  refine w_loop (ι := Nat) (fun v => 256 - v) (fun v => v ≤ 256) (fun v => [(h, .inr (7, mO a rd mn tp os ty sz)), (a 8, .inl (G.2.1, 256, .inl (fl v (fun j_ => nI (tbV 0 j_)) fs))), (a 9, .inl (G.2.1, 256, .inl (orR v)))]) (fun v => [(1, .int (nI v)), (0, .ref h)]) 0 (Nat.zero_le _) (by simp only [fl_0, orR]; exact hP) (by simp only [fl_0, orR]; exact hD) hS hl ?_
  intro v H locs ls hv hP hD hS hl ihv
  have hv : v ≤ 256 := hv
  have hP : va_P G.1 vwCl [(h, .inr (7, mO a rd mn tp os ty sz)), (a 8, .inl (G.2.1, 256, .inl (fl v (fun j_ => nI (tbV 0 j_)) fs))), (a 9, .inl (G.2.1, 256, .inl (orR v)))] H := hP
  have hD : va_D A [(h, .inr (7, mO a rd mn tp os ty sz)), (a 8, .inl (G.2.1, 256, .inl (fl v (fun j_ => nI (tbV 0 j_)) fs))), (a 9, .inl (G.2.1, 256, .inl (orR v)))] := hD
  have hl : lv_has ls 6 [(1, .int (nI v)), (0, .ref h)] := hl
  refine lv_iload_n hx hb dX8_makeBoxes_2 rfl (lv_at hl 0 rfl) ?_
  refine lv_sipush (v := nI 256) hx hb dX8_makeBoxes_3 (by decide) ?_
  refine w_icmpN_ge (tgt := 139) hx hb (by omega) (by omega) dX8_makeBoxes_6 (by decide) (fun h1 => ?_) (fun h1 => ?_)
  · obtain rfl : 256 = v := Eq.symm (show v = 256 from by omega)
    have hP := w_ext (fl 256 (fun j_ => nI (tbV 0 j_)) fs) (fun j_ => nI (tbV 0 j_)) 1 hP rfl (fun j hj => fl_in hj)
    have hD := hD.set (p := 1) (e := .inl (G.2.1, 256, .inl (fun j_ => nI (tbV 0 j_)))) rfl
    have hP : va_P G.1 vwCl [(h, .inr (7, mO a rd mn tp os ty sz)), (a 8, .inl (G.2.1, 256, .inl (fun j_ => nI (tbV 0 j_)))), (a 9, .inl (G.2.1, 256, .inl (orR 256)))] H := hP
    have hD : va_D A [(h, .inr (7, mO a rd mn tp os ty sz)), (a 8, .inl (G.2.1, 256, .inl (fun j_ => nI (tbV 0 j_)))), (a 9, .inl (G.2.1, 256, .inl (orR 256)))] := hD
    exact hret () H _ 139 ls dX8_makeBoxes_139 (trivial) (hP.sub [0, 1, 2] rfl) (hD.sub [0, 1, 2] (by decide) rfl) hS
  · have hiv : ivL v 255 < 256 := by have := ivL_le v 255; omega
    have ht0 := tb0_lt0 v h1
    refine lv_iconst (v := nI 0) hx hb dX8_makeBoxes_9 (by decide) ?_
    refine lv_istore_n (lv' := [(2, .int (nI 0)), (1, .int (nI v)), (0, .ref h)]) hx hb dX8_makeBoxes_10 rfl hl (by decide) rfl (fun ls hl => ?_)
    refine lv_iconst (v := nI 1) hx hb dX8_makeBoxes_11 (by decide) ?_
    refine lv_istore_n (lv' := [(3, .int (nI 1)), (2, .int (nI 0)), (1, .int (nI v)), (0, .ref h)]) hx hb dX8_makeBoxes_12 rfl hl (by decide) rfl (fun ls hl => ?_)
    refine w_loop (ι := Nat) (fun k => 255 - k) (fun k => k ≤ 255) (fun k => [(h, .inr (7, mO a rd mn tp os ty sz)), (a 8, .inl (G.2.1, 256, .inl (fl v (fun j_ => nI (tbV 0 j_)) fs))), (a 9, .inl (G.2.1, 256, .inl (orR v)))]) (fun k => [(3, .int (nI (k + 1))), (2, .int (nI (ivL v k))), (1, .int (nI v)), (0, .ref h)]) 0 (Nat.zero_le _) hP hD hS hl ?_
    intro k H locs ls hk hP hD hS hl ih
    have hk : k ≤ 255 := hk
    have hP : va_P G.1 vwCl [(h, .inr (7, mO a rd mn tp os ty sz)), (a 8, .inl (G.2.1, 256, .inl (fl v (fun j_ => nI (tbV 0 j_)) fs))), (a 9, .inl (G.2.1, 256, .inl (orR v)))] H := hP
    have hD : va_D A [(h, .inr (7, mO a rd mn tp os ty sz)), (a 8, .inl (G.2.1, 256, .inl (fl v (fun j_ => nI (tbV 0 j_)) fs))), (a 9, .inl (G.2.1, 256, .inl (orR v)))] := hD
    have hl : lv_has ls 6 [(3, .int (nI (k + 1))), (2, .int (nI (ivL v k))), (1, .int (nI v)), (0, .ref h)] := hl
    refine lv_iload_n hx hb dX8_makeBoxes_13 rfl (lv_at hl 0 rfl) ?_
    refine lv_sipush (v := nI 256) hx hb dX8_makeBoxes_14 (by decide) ?_
    refine w_icmpN_ge (tgt := 37) hx hb (by omega) (by omega) dX8_makeBoxes_17 (by decide) (fun h2 => ?_) (fun h2 => ?_)
    · obtain rfl : 255 = k := Eq.symm (show k = 255 from by omega)
      refine lv_iconst (v := nI 0) hx hb dX8_makeBoxes_37 (by decide) ?_
      refine lv_istore_n (lv' := [(3, .int (nI 0)), (2, .int (nI (ivL v 255))), (1, .int (nI v)), (0, .ref h)]) hx hb dX8_makeBoxes_38 rfl hl (by decide) rfl (fun ls hl => ?_)
      refine lv_iconst (v := nI 0) hx hb dX8_makeBoxes_39 (by decide) ?_
      refine lv_istore (lv' := [(4, .int (nI 0)), (3, .int (nI 0)), (2, .int (nI (ivL v 255))), (1, .int (nI v)), (0, .ref h)]) hx hb dX8_makeBoxes_40 hl (by decide) rfl (fun ls hl => ?_)
      refine w_loop (ι := Nat) (fun k => 8 - k) (fun k => k ≤ 8) (fun k => [(h, .inr (7, mO a rd mn tp os ty sz)), (a 8, .inl (G.2.1, 256, .inl (fl v (fun j_ => nI (tbV 0 j_)) fs))), (a 9, .inl (G.2.1, 256, .inl (orR v)))]) (fun k => [(4, .int (nI k)), (3, .int (nI (sbL (ivL v 255) k))), (2, .int (nI (ivL v 255))), (1, .int (nI v)), (0, .ref h)]) 0 (Nat.zero_le _) hP hD hS hl ?_
      intro k H locs ls hk hP hD hS hl ih
      have hk : k ≤ 8 := hk
      have hP : va_P G.1 vwCl [(h, .inr (7, mO a rd mn tp os ty sz)), (a 8, .inl (G.2.1, 256, .inl (fl v (fun j_ => nI (tbV 0 j_)) fs))), (a 9, .inl (G.2.1, 256, .inl (orR v)))] H := hP
      have hD : va_D A [(h, .inr (7, mO a rd mn tp os ty sz)), (a 8, .inl (G.2.1, 256, .inl (fl v (fun j_ => nI (tbV 0 j_)) fs))), (a 9, .inl (G.2.1, 256, .inl (orR v)))] := hD
      have hl : lv_has ls 6 [(4, .int (nI k)), (3, .int (nI (sbL (ivL v 255) k))), (2, .int (nI (ivL v 255))), (1, .int (nI v)), (0, .ref h)] := hl
      refine lv_iload hx hb dX8_makeBoxes_42 (lv_at hl 0 rfl) ?_
      refine lv_bipush (v := nI 8) hx hb dX8_makeBoxes_44 (by decide) ?_
      refine w_icmpN_ge (tgt := 119) hx hb (by omega) (by omega) dX8_makeBoxes_46 (by decide) (fun h3 => ?_) (fun h3 => ?_)
      · obtain rfl : 8 = k := Eq.symm (show k = 8 from by omega)
        have hl : lv_has ls 6 [(4, .int (nI 8)), (3, .int (nI (tbV 0 v))), (2, .int (nI (ivL v 255))), (1, .int (nI v)), (0, .ref h)] := by have h9 := hl; rw [mb_ok (by assumption)] at h9; exact h9
        refine lv_aload_n hx hb dX8_makeBoxes_119 rfl (lv_at hl 4 rfl) ?_
        refine va_get (D := G.1) (ci := 7) (v := .ref (a 8)) (C := RX8) (T := TX8) (N := 35) hx hb hts hinX8 hown hK hP 0 rfl rfl 8 (by decide) (hts (.fieldLink RX8 56 "CipherBoxModel" "sbox" "[I") (by decide +kernel)) (fun _ h9 => h9) rfl dX8_makeBoxes_120 ?_
        refine lv_iload_n hx hb dX8_makeBoxes_123 rfl (lv_at hl 3 rfl) ?_
        refine lv_iload_n hx hb dX8_makeBoxes_124 rfl (lv_at hl 1 rfl) ?_
        refine w_iast hx hb hK hP hD hS 1 rfl (by omega) (by omega) (fl (v + 1) (fun j_ => nI (tbV 0 j_)) fs) (fl_s rfl) dX8_makeBoxes_125 (fun H locs hP hD hS => ?_)
        have hP : va_P G.1 vwCl [(h, .inr (7, mO a rd mn tp os ty sz)), (a 8, .inl (G.2.1, 256, .inl (fl (v + 1) (fun j_ => nI (tbV 0 j_)) fs))), (a 9, .inl (G.2.1, 256, .inl (orR v)))] H := hP
        have hD : va_D A [(h, .inr (7, mO a rd mn tp os ty sz)), (a 8, .inl (G.2.1, 256, .inl (fl (v + 1) (fun j_ => nI (tbV 0 j_)) fs))), (a 9, .inl (G.2.1, 256, .inl (orR v)))] := hD
        refine lv_aload_n hx hb dX8_makeBoxes_126 rfl (lv_at hl 4 rfl) ?_
        refine va_get (D := G.1) (ci := 7) (v := .ref (a 9)) (C := RX8) (T := TX8) (N := 35) hx hb hts hinX8 hown hK hP 0 rfl rfl 9 (by decide) (hts (.fieldLink RX8 59 "CipherBoxModel" "unbox" "[I") (by decide +kernel)) (fun _ h9 => h9) rfl dX8_makeBoxes_127 ?_
        refine lv_iload_n hx hb dX8_makeBoxes_130 rfl (lv_at hl 1 rfl) ?_
        refine lv_iload_n hx hb dX8_makeBoxes_131 rfl (lv_at hl 3 rfl) ?_
        refine w_iast hx hb hK hP hD hS 2 rfl (by omega) (by omega) (orR (v + 1)) (by simp only [orR]; rw [Nat.mod_eq_of_lt ht0]) dX8_makeBoxes_132 (fun H locs hP hD hS => ?_)
        have hP : va_P G.1 vwCl [(h, .inr (7, mO a rd mn tp os ty sz)), (a 8, .inl (G.2.1, 256, .inl (fl (v + 1) (fun j_ => nI (tbV 0 j_)) fs))), (a 9, .inl (G.2.1, 256, .inl (orR (v + 1))))] H := hP
        have hD : va_D A [(h, .inr (7, mO a rd mn tp os ty sz)), (a 8, .inl (G.2.1, 256, .inl (fl (v + 1) (fun j_ => nI (tbV 0 j_)) fs))), (a 9, .inl (G.2.1, 256, .inl (orR (v + 1))))] := hD
        refine lv_iinc (v := nI (v + 1)) (lv' := [(1, .int (nI (v + 1))), (4, .int (nI 8)), (3, .int (nI (tbV 0 v))), (2, .int (nI (ivL v 255))), (0, .ref h)]) hx hb dX8_makeBoxes_133 hl (k := 3) rfl (nI_add v 1) (by decide) rfl (fun ls hl => ?_)
        refine lv_goto (tgt := 2) hx hb dX8_makeBoxes_136 (by decide) ?_
        exact ihv (v + 1) H _ _ (by omega) (by omega) hP hD hS (lv_sub hl [0, 4] rfl)
      · refine lv_iload_n hx hb dX8_makeBoxes_49 rfl (lv_at hl 2 rfl) ?_
        refine lv_iload hx hb dX8_makeBoxes_50 (lv_at hl 0 rfl) ?_
        refine w_ishrN hx hb (by omega) (by have := dv_lt (k := k) hiv; omega) dX8_makeBoxes_52 ?_
        refine lv_iload_n hx hb dX8_makeBoxes_53 rfl (lv_at hl 2 rfl) ?_
        refine lv_iload hx hb dX8_makeBoxes_54 (lv_at hl 0 rfl) ?_
        refine lv_iconst (v := nI 4) hx hb dX8_makeBoxes_56 (by decide) ?_
        refine w_iaddN hx hb dX8_makeBoxes_57 ?_
        refine lv_bipush (v := nI 8) hx hb dX8_makeBoxes_58 (by decide) ?_
        refine w_iremN hx hb (by omega) (by omega) (by omega) dX8_makeBoxes_60 ?_
        refine w_ishrN hx hb (by omega) (by omega) dX8_makeBoxes_61 ?_
        refine w_ixorN hx hb dX8_makeBoxes_62 ?_
        refine lv_iload_n hx hb dX8_makeBoxes_63 rfl (lv_at hl 2 rfl) ?_
        refine lv_iload hx hb dX8_makeBoxes_64 (lv_at hl 0 rfl) ?_
        refine lv_iconst (v := nI 5) hx hb dX8_makeBoxes_66 (by decide) ?_
        refine w_iaddN hx hb dX8_makeBoxes_67 ?_
        refine lv_bipush (v := nI 8) hx hb dX8_makeBoxes_68 (by decide) ?_
        refine w_iremN hx hb (by omega) (by omega) (by omega) dX8_makeBoxes_70 ?_
        refine w_ishrN hx hb (by omega) (by omega) dX8_makeBoxes_71 ?_
        refine w_ixorN hx hb dX8_makeBoxes_72 ?_
        refine lv_iload_n hx hb dX8_makeBoxes_73 rfl (lv_at hl 2 rfl) ?_
        refine lv_iload hx hb dX8_makeBoxes_74 (lv_at hl 0 rfl) ?_
        refine lv_bipush (v := nI 6) hx hb dX8_makeBoxes_76 (by decide) ?_
        refine w_iaddN hx hb dX8_makeBoxes_78 ?_
        refine lv_bipush (v := nI 8) hx hb dX8_makeBoxes_79 (by decide) ?_
        refine w_iremN hx hb (by omega) (by omega) (by omega) dX8_makeBoxes_81 ?_
        refine w_ishrN hx hb (by omega) (by omega) dX8_makeBoxes_82 ?_
        refine w_ixorN hx hb dX8_makeBoxes_83 ?_
        refine lv_iload_n hx hb dX8_makeBoxes_84 rfl (lv_at hl 2 rfl) ?_
        refine lv_iload hx hb dX8_makeBoxes_85 (lv_at hl 0 rfl) ?_
        refine lv_bipush (v := nI 7) hx hb dX8_makeBoxes_87 (by decide) ?_
        refine w_iaddN hx hb dX8_makeBoxes_89 ?_
        refine lv_bipush (v := nI 8) hx hb dX8_makeBoxes_90 (by decide) ?_
        refine w_iremN hx hb (by omega) (by omega) (by omega) dX8_makeBoxes_92 ?_
        refine w_ishrN hx hb (by omega) (by omega) dX8_makeBoxes_93 ?_
        refine w_ixorN hx hb dX8_makeBoxes_94 ?_
        refine lv_bipush (v := nI 99) hx hb dX8_makeBoxes_95 (by decide) ?_
        refine lv_iload hx hb dX8_makeBoxes_97 (lv_at hl 0 rfl) ?_
        refine w_ishrN hx hb (by omega) (by omega) dX8_makeBoxes_99 ?_
        refine w_ixorN hx hb dX8_makeBoxes_100 ?_
        refine lv_istore (lv' := [(5, .int (nI (((((((ivL v 255) / 2 ^ k) ^^^ ((ivL v 255) / 2 ^ ((k + 4) % 8))) ^^^ ((ivL v 255) / 2 ^ ((k + 5) % 8))) ^^^ ((ivL v 255) / 2 ^ ((k + 6) % 8))) ^^^ ((ivL v 255) / 2 ^ ((k + 7) % 8))) ^^^ (99 / 2 ^ k)))), (4, .int (nI k)), (3, .int (nI (sbL (ivL v 255) k))), (2, .int (nI (ivL v 255))), (1, .int (nI v)), (0, .ref h)]) hx hb dX8_makeBoxes_101 hl (by decide) rfl (fun ls hl => ?_)
        refine lv_iload_n hx hb dX8_makeBoxes_103 rfl (lv_at hl 2 rfl) ?_
        refine lv_iload hx hb dX8_makeBoxes_104 (lv_at hl 0 rfl) ?_
        refine lv_iconst (v := nI 1) hx hb dX8_makeBoxes_106 (by decide) ?_
        refine w_iandN 1 hx hb (by have : _ < 2 ^ 8 := onN_lt (k := k) hiv; exact Nat.lt_trans this (by decide)) (by decide) rfl dX8_makeBoxes_107 ?_
        refine lv_iload hx hb dX8_makeBoxes_108 (lv_at hl 1 rfl) ?_
        refine w_ishlN hx hb (by omega) (on_sh (by assumption)) dX8_makeBoxes_110 ?_
        refine w_iorN hx hb dX8_makeBoxes_111 ?_
        refine lv_istore_n (lv' := [(3, .int (nI ((sbL (ivL v 255) k) ||| (((((((((ivL v 255) / 2 ^ k) ^^^ ((ivL v 255) / 2 ^ ((k + 4) % 8))) ^^^ ((ivL v 255) / 2 ^ ((k + 5) % 8))) ^^^ ((ivL v 255) / 2 ^ ((k + 6) % 8))) ^^^ ((ivL v 255) / 2 ^ ((k + 7) % 8))) ^^^ (99 / 2 ^ k)) % 2 ^ 1) * 2 ^ k)))), (5, .int (nI (((((((ivL v 255) / 2 ^ k) ^^^ ((ivL v 255) / 2 ^ ((k + 4) % 8))) ^^^ ((ivL v 255) / 2 ^ ((k + 5) % 8))) ^^^ ((ivL v 255) / 2 ^ ((k + 6) % 8))) ^^^ ((ivL v 255) / 2 ^ ((k + 7) % 8))) ^^^ (99 / 2 ^ k)))), (4, .int (nI k)), (2, .int (nI (ivL v 255))), (1, .int (nI v)), (0, .ref h)]) hx hb dX8_makeBoxes_112 rfl hl (by decide) rfl (fun ls hl => ?_)
        refine lv_iinc (v := nI (k + 1)) (lv' := [(4, .int (nI (k + 1))), (3, .int (nI ((sbL (ivL v 255) k) ||| (((((((((ivL v 255) / 2 ^ k) ^^^ ((ivL v 255) / 2 ^ ((k + 4) % 8))) ^^^ ((ivL v 255) / 2 ^ ((k + 5) % 8))) ^^^ ((ivL v 255) / 2 ^ ((k + 6) % 8))) ^^^ ((ivL v 255) / 2 ^ ((k + 7) % 8))) ^^^ (99 / 2 ^ k)) % 2 ^ 1) * 2 ^ k)))), (5, .int (nI (((((((ivL v 255) / 2 ^ k) ^^^ ((ivL v 255) / 2 ^ ((k + 4) % 8))) ^^^ ((ivL v 255) / 2 ^ ((k + 5) % 8))) ^^^ ((ivL v 255) / 2 ^ ((k + 6) % 8))) ^^^ ((ivL v 255) / 2 ^ ((k + 7) % 8))) ^^^ (99 / 2 ^ k)))), (2, .int (nI (ivL v 255))), (1, .int (nI v)), (0, .ref h)]) hx hb dX8_makeBoxes_113 hl (k := 2) rfl (nI_add k 1) (by decide) rfl (fun ls hl => ?_)
        refine lv_goto (tgt := 42) hx hb dX8_makeBoxes_116 (by decide) ?_
        exact ih (k + 1) H _ _ (by omega) (by omega) hP hD hS (lv_sub hl [0, 1, 3, 4, 5] rfl)
    · refine lv_iload_n hx hb dX8_makeBoxes_20 rfl (lv_at hl 2 rfl) ?_
      refine lv_iload_n hx hb dX8_makeBoxes_21 rfl (lv_at hl 0 rfl) ?_
      refine w_fini (wr := [(h, .inr (7, mO a rd mn tp os ty sz)), (a 8, .inl (G.2.1, 256, .inl (fl v (fun j_ => nI (tbV 0 j_)) fs))), (a 9, .inl (G.2.1, 256, .inl (orR v)))]) (va_runS (As := [.int (nI v), .int (nI (k + 1))]) (rest := []) ⟨hx, hb, hml, hown, hts⟩ (c_m_times l G (nI v) (nI (k + 1)) H.size) (va_cwS 2 hts gX8_makeBoxes_X8_times rfl rfl rfl (by decide +kernel) ⟨Nat.le_of_ble_eq_true rfl, Nat.le_of_ble_eq_true rfl⟩) ⟨wPre.blind, (fun U hU hW => ⟨rfl, w_pre hK hT hA hP hD hS (isC := []) (by decide) rfl U hU hW⟩)⟩ rfl rfl hl.1 rfl (lv_room (Nat.le_of_ble_eq_true rfl)) dX8_makeBoxes_22 ⟨Nat.le_of_ble_eq_true rfl, Nat.le_of_ble_eq_true rfl⟩) hA hP hD hS [] [0, 1, 2] rfl rfl (by decide) (by decide) (fun r u H locs hpost hP hD hS => ?_)
      obtain rfl := hpost
      have hP : va_P G.1 vwCl [(h, .inr (7, mO a rd mn tp os ty sz)), (a 8, .inl (G.2.1, 256, .inl (fl v (fun j_ => nI (tbV 0 j_)) fs))), (a 9, .inl (G.2.1, 256, .inl (orR v)))] H := hP
      have hD : va_D A [(h, .inr (7, mO a rd mn tp os ty sz)), (a 8, .inl (G.2.1, 256, .inl (fl v (fun j_ => nI (tbV 0 j_)) fs))), (a 9, .inl (G.2.1, 256, .inl (orR v)))] := hD
      refine lv_iconst (v := nI 1) hx hb dX8_makeBoxes_25 (by decide) ?_
      refine lv_icmp_ne (tgt := 31) hx hb dX8_makeBoxes_26 (by decide) (fun h4 => ?_) (fun h4 => ?_)
      · have hl : lv_has ls 6 [(3, .int (nI (k + 1))), (2, .int (nI (ivL v (k + 1)))), (1, .int (nI v)), (0, .ref h)] := by have h9 := hl; rw [ivL_n h4] at h9; exact h9
        refine lv_iinc (v := nI (k + 1 + 1)) (lv' := [(3, .int (nI (k + 1 + 1))), (2, .int (nI (ivL v (k + 1)))), (1, .int (nI v)), (0, .ref h)]) hx hb dX8_makeBoxes_31 hl (k := 0) rfl (nI_add (k + 1) 1) (by decide) rfl (fun ls hl => ?_)
        refine lv_goto (tgt := 13) hx hb dX8_makeBoxes_34 (by decide) ?_
        exact ih (k + 1) H _ _ (by omega) (by omega) hP hD hS (lv_sub hl [0, 1, 2, 3] rfl)
      · have hy9 := h4
        refine lv_iload_n hx hb dX8_makeBoxes_29 rfl (lv_at hl 0 rfl) ?_
        refine w_top (nI (ivL v (k + 1))) (ivL_y hy9) ?_
        refine lv_istore_n (lv' := [(2, .int (nI (ivL v (k + 1)))), (3, .int (nI (k + 1))), (1, .int (nI v)), (0, .ref h)]) hx hb dX8_makeBoxes_30 rfl hl (by decide) rfl (fun ls hl => ?_)
        refine lv_iinc (v := nI (k + 1 + 1)) (lv' := [(3, .int (nI (k + 1 + 1))), (2, .int (nI (ivL v (k + 1)))), (1, .int (nI v)), (0, .ref h)]) hx hb dX8_makeBoxes_31 hl (k := 1) rfl (nI_add (k + 1) 1) (by decide) rfl (fun ls hl => ?_)
        refine lv_goto (tgt := 13) hx hb dX8_makeBoxes_34 (by decide) ?_
        exact ih (k + 1) H _ _ (by omega) (by omega) hP hD hS (lv_sub hl [0, 1, 2, 3] rfl)
