/-! the model's DES: rows of bits, as Nat -/
def nF (g : Nat → Nat) : Nat → Int32 := fun j => nI (g j)
def bitN (f : Nat → Int32) (d p : Nat) : Nat := (f (d + p / 8) >>> (nI (7 - p % 8) &&& 31)).toBitVec.toNat % 2
theorem bitN_lt (f : Nat → Int32) (d p : Nat) : bitN f d p < 2 := Nat.mod_lt _ (by decide)
def kb (f : Nat → Int32) (d : Nat) : Nat → Nat := fun k => bitN f d (tbV 3 k - 1)
theorem tb3_in : ∀ k, k < 56 → 1 ≤ tbV 3 k ∧ tbV 3 k ≤ 64 := by decide +kernel
theorem tb4_in : ∀ k, k < 48 → 1 ≤ tbV 4 k ∧ tbV 4 k ≤ 56 := by decide +kernel
theorem sh5 : ∀ r, r < 16 → tbV 5 r = if r = 0 ∨ r = 1 ∨ r = 8 ∨ r = 15 then 1 else 2 := by decide +kernel
def rot1 (c : Nat → Nat) : Nat → Nat := fun j => if j < 28 then c ((j + 1) % 28) else c (28 + (j - 28 + 1) % 28)
def rotN (c : Nat → Nat) : Nat → Nat → Nat
  | 0 => c
  | t + 1 => rot1 (rotN c t)
def shD (c : Nat → Nat) (k l : Nat) : Nat → Nat := fun j => if j < k then c (j + 1) else if 28 ≤ j ∧ j < 28 + l then c (j + 1) else c j
theorem shD_0 {c : Nat → Nat} : shD c 0 0 = c := by funext j; simp only [shD]; rw [if_neg (by omega), if_neg (by omega)]
theorem shD_r {c : Nat → Nat} {k l j : Nat} (h : k ≤ j) (h2 : j < 28 ∨ 28 + l ≤ j) : nF (shD c k l) j = nI (c j) := by simp only [nF, shD]; rw [if_neg (by omega), if_neg (by omega)]
theorem shD_a {c : Nat → Nat} {k l : Nat} (hk : k < 28) : upd (nF (shD c k l)) k (nI (c (k + 1))) = nF (shD c (k + 1) l) := by
  funext j
  simp only [upd, nF, shD]
  by_cases h : j = k
  · rw [if_pos h, if_pos (show j < k + 1 by omega), h]
  · rw [if_neg h]
    by_cases h1 : j < k
    · rw [if_pos h1, if_pos (show j < k + 1 by omega)]
    · rw [if_neg h1, if_neg (show ¬ j < k + 1 by omega)]
theorem shD_b {c : Nat → Nat} {k l : Nat} (hk : k ≤ 28) : upd (nF (shD c k l)) (28 + l) (nI (c (29 + l))) = nF (shD c k (l + 1)) := by
  funext j
  simp only [upd, nF, shD]
  by_cases h : j = 28 + l
  · rw [if_pos h, if_neg (by omega), if_pos (by omega), h, show 28 + l + 1 = 29 + l by omega]
  · rw [if_neg h]
    by_cases h1 : j < k
    · rw [if_pos h1, if_pos h1]
    · rw [if_neg h1, if_neg h1]
      by_cases h2 : 28 ≤ j ∧ j < 28 + l
      · rw [if_pos h2, if_pos (by omega)]
      · rw [if_neg h2, if_neg (by omega)]
theorem rot_e {c : Nat → Nat} {j : Nat} (hj : j < 56) : upd (upd (nF (shD c 27 27)) 27 (nI (c 0))) 55 (nI (c 28)) j = nF (rot1 c) j := by
  simp only [upd, nF, shD, rot1]
  by_cases h1 : j = 55
  · rw [if_pos h1, if_neg (by omega), show 28 + (j - 28 + 1) % 28 = 28 by omega]
  · rw [if_neg h1]
    by_cases h2 : j = 27
    · rw [if_pos h2, if_pos (by omega), show (j + 1) % 28 = 0 by omega]
    · rw [if_neg h2]
      by_cases h3 : j < 27
      · rw [if_pos h3, if_pos (by omega), show (j + 1) % 28 = j + 1 by omega]
      · rw [if_neg h3, if_pos (by omega), if_neg (by omega), show 28 + (j - 28 + 1) % 28 = j + 1 by omega]
def cdR (f : Nat → Int32) (d : Nat) : Nat → Nat → Nat
  | 0 => kb f d
  | r + 1 => rotN (cdR f d r) (tbV 5 r)
def skB (f : Nat → Int32) (d : Nat) : Nat → Nat := fun i => cdR f d (i / 48 + 1) (tbV 4 (i % 48) - 1)
theorem skB_i {f : Nat → Int32} {d r k : Nat} (hk : k < 48) : skB f d (48 * r + k) = cdR f d (r + 1) (tbV 4 k - 1) := by
  simp only [skB]
  rw [show (48 * r + k) / 48 = r by omega, show (48 * r + k) % 48 = k by omega]
set_option maxHeartbeats 4000000 in
set_option maxRecDepth 100000 in
theorem c_m_desKey (l : Launch) (G : wG) (h : Nat) (a : Nat → Nat) (rd mn tp os : Nat) (ty : Int32) (sz : Nat) (b bn d : Nat) (fb fc fq : Nat → Int32) (hd : d + 8 ≤ bn) (hbn : bn < 2 ^ 20) : CMv l G yX8_desKey wsX8_desKey 0 0 0 0 [.ref h, .ref b, .int (nI d)] [(h, .inr (7, mO a rd mn tp os ty sz)), (a 3, .inl (G.2.1, 56, .inl (fun j_ => nI (tbV 3 j_)))), (a 4, .inl (G.2.1, 48, .inl (fun j_ => nI (tbV 4 j_)))), (a 12, .inl (G.2.1, 56, .inl fc)), (a 13, .inl (G.2.1, 768, .inl fq)), (b, .inl (G.2.2.1, bn, .inl fb))] (fun (_ : Unit) => True) (fun _ => [(h, .inr (7, mO a rd mn tp os ty sz)), (a 3, .inl (G.2.1, 56, .inl (fun j_ => nI (tbV 3 j_)))), (a 4, .inl (G.2.1, 48, .inl (fun j_ => nI (tbV 4 j_)))), (a 12, .inl (G.2.1, 56, .inl (nF (cdR fb d 16)))), (a 13, .inl (G.2.1, 768, .inl (nF (skB fb d)))), (b, .inl (G.2.2.1, bn, .inl fb))]) := by
  refine CMv.start cX8_desKey 9 (by decide) rfl (Nat.le_of_ble_eq_true rfl) ?_
  intro p e s m below meth c A Q ls H locs hx hb hml hown hnm hts hK hT hA hP hD hS hl hret
  have hinX8 : ∀ w ∈ u_ws RX8 TX8 35, w ∈ wsX8_desKey := by decide +kernel
  have hl : lv_has ls 9 [(0, .ref h), (1, .ref b), (2, .int (nI d))] := hl
  refine lv_iconst (v := nI 0) hx hb dX8_desKey_0 (by decide) ?_
  refine lv_istore_n (lv' := [(3, .int (nI 0)), (0, .ref h), (1, .ref b), (2, .int (nI d))]) hx hb dX8_desKey_1 rfl hl (by decide) rfl (fun ls hl => ?_)
  refine w_loop (ι := Nat) (fun k => 56 - k) (fun k => k ≤ 56) (fun k => [(h, .inr (7, mO a rd mn tp os ty sz)), (a 3, .inl (G.2.1, 56, .inl (fun j_ => nI (tbV 3 j_)))), (a 4, .inl (G.2.1, 48, .inl (fun j_ => nI (tbV 4 j_)))), (a 12, .inl (G.2.1, 56, .inl (fl k (nF (kb fb d)) fc))), (a 13, .inl (G.2.1, 768, .inl fq)), (b, .inl (G.2.2.1, bn, .inl fb))]) (fun k => [(3, .int (nI k)), (0, .ref h), (1, .ref b), (2, .int (nI d))]) 0 (by omega) (by simp only [fl_0]; exact hP) (by simp only [fl_0]; exact hD) hS hl ?_
  intro k H locs ls hk hP hD hS hl ih
  have hk : k ≤ 56 := hk
  have hP : va_P G.1 vwCl [(h, .inr (7, mO a rd mn tp os ty sz)), (a 3, .inl (G.2.1, 56, .inl (fun j_ => nI (tbV 3 j_)))), (a 4, .inl (G.2.1, 48, .inl (fun j_ => nI (tbV 4 j_)))), (a 12, .inl (G.2.1, 56, .inl (fl k (nF (kb fb d)) fc))), (a 13, .inl (G.2.1, 768, .inl fq)), (b, .inl (G.2.2.1, bn, .inl fb))] H := hP
  have hD : va_D A [(h, .inr (7, mO a rd mn tp os ty sz)), (a 3, .inl (G.2.1, 56, .inl (fun j_ => nI (tbV 3 j_)))), (a 4, .inl (G.2.1, 48, .inl (fun j_ => nI (tbV 4 j_)))), (a 12, .inl (G.2.1, 56, .inl (fl k (nF (kb fb d)) fc))), (a 13, .inl (G.2.1, 768, .inl fq)), (b, .inl (G.2.2.1, bn, .inl fb))] := hD
  have hl : lv_has ls 9 [(3, .int (nI k)), (0, .ref h), (1, .ref b), (2, .int (nI d))] := hl
  refine lv_iload_n hx hb dX8_desKey_2 rfl (lv_at hl 0 rfl) ?_
  refine lv_bipush (v := nI 56) hx hb dX8_desKey_3 (by decide) ?_
  refine w_icmpN_ge (tgt := 50) hx hb (by omega) (by omega) dX8_desKey_5 (by decide) (fun h1 => ?_) (fun h1 => ?_)
  · obtain rfl : 56 = k := Eq.symm (show k = 56 from by omega)
    have hP := w_ext (fl 56 (nF (kb fb d)) fc) (nF (cdR fb d 0)) 3 hP rfl (fun j hj => fl_in hj)
    have hD := hD.set (p := 3) (e := .inl (G.2.1, 56, .inl (nF (cdR fb d 0)))) rfl
    have hP : va_P G.1 vwCl [(h, .inr (7, mO a rd mn tp os ty sz)), (a 3, .inl (G.2.1, 56, .inl (fun j_ => nI (tbV 3 j_)))), (a 4, .inl (G.2.1, 48, .inl (fun j_ => nI (tbV 4 j_)))), (a 12, .inl (G.2.1, 56, .inl (nF (cdR fb d 0)))), (a 13, .inl (G.2.1, 768, .inl fq)), (b, .inl (G.2.2.1, bn, .inl fb))] H := hP
    have hD : va_D A [(h, .inr (7, mO a rd mn tp os ty sz)), (a 3, .inl (G.2.1, 56, .inl (fun j_ => nI (tbV 3 j_)))), (a 4, .inl (G.2.1, 48, .inl (fun j_ => nI (tbV 4 j_)))), (a 12, .inl (G.2.1, 56, .inl (nF (cdR fb d 0)))), (a 13, .inl (G.2.1, 768, .inl fq)), (b, .inl (G.2.2.1, bn, .inl fb))] := hD
    refine lv_iconst (v := nI 0) hx hb dX8_desKey_50 (by decide) ?_
    refine lv_istore_n (lv' := [(3, .int (nI 0)), (0, .ref h), (1, .ref b), (2, .int (nI d))]) hx hb dX8_desKey_51 rfl hl (by decide) rfl (fun ls hl => ?_)
    refine w_loop (ι := Nat) (fun r => 16 - r) (fun r => r ≤ 16) (fun r => [(h, .inr (7, mO a rd mn tp os ty sz)), (a 3, .inl (G.2.1, 56, .inl (fun j_ => nI (tbV 3 j_)))), (a 4, .inl (G.2.1, 48, .inl (fun j_ => nI (tbV 4 j_)))), (a 12, .inl (G.2.1, 56, .inl (nF (cdR fb d r)))), (a 13, .inl (G.2.1, 768, .inl (fl (48 * r) (nF (skB fb d)) fq))), (b, .inl (G.2.2.1, bn, .inl fb))]) (fun r => [(3, .int (nI r)), (0, .ref h), (1, .ref b), (2, .int (nI d))]) 0 (by omega) (by simp only [Nat.mul_zero, fl_0]; exact hP) (by simp only [Nat.mul_zero, fl_0]; exact hD) hS hl ?_
    intro r H locs ls hr hP hD hS hl ihr
    have hr : r ≤ 16 := hr
    have hP : va_P G.1 vwCl [(h, .inr (7, mO a rd mn tp os ty sz)), (a 3, .inl (G.2.1, 56, .inl (fun j_ => nI (tbV 3 j_)))), (a 4, .inl (G.2.1, 48, .inl (fun j_ => nI (tbV 4 j_)))), (a 12, .inl (G.2.1, 56, .inl (nF (cdR fb d r)))), (a 13, .inl (G.2.1, 768, .inl (fl (48 * r) (nF (skB fb d)) fq))), (b, .inl (G.2.2.1, bn, .inl fb))] H := hP
    have hD : va_D A [(h, .inr (7, mO a rd mn tp os ty sz)), (a 3, .inl (G.2.1, 56, .inl (fun j_ => nI (tbV 3 j_)))), (a 4, .inl (G.2.1, 48, .inl (fun j_ => nI (tbV 4 j_)))), (a 12, .inl (G.2.1, 56, .inl (nF (cdR fb d r)))), (a 13, .inl (G.2.1, 768, .inl (fl (48 * r) (nF (skB fb d)) fq))), (b, .inl (G.2.2.1, bn, .inl fb))] := hD
    have hl : lv_has ls 9 [(3, .int (nI r)), (0, .ref h), (1, .ref b), (2, .int (nI d))] := hl
    refine lv_iload_n hx hb dX8_desKey_52 rfl (lv_at hl 0 rfl) ?_
    refine lv_bipush (v := nI 16) hx hb dX8_desKey_53 (by decide) ?_
    refine w_icmpN_ge (tgt := 237) hx hb (by omega) (by omega) dX8_desKey_55 (by decide) (fun h2 => ?_) (fun h2 => ?_)
    · obtain rfl : 16 = r := Eq.symm (show r = 16 from by omega)
      have hP := w_ext (fl (48 * 16) (nF (skB fb d)) fq) (nF (skB fb d)) 4 hP rfl (fun j hj => fl_in (by omega))
      have hD := hD.set (p := 4) (e := .inl (G.2.1, 768, .inl (nF (skB fb d)))) rfl
      have hP : va_P G.1 vwCl [(h, .inr (7, mO a rd mn tp os ty sz)), (a 3, .inl (G.2.1, 56, .inl (fun j_ => nI (tbV 3 j_)))), (a 4, .inl (G.2.1, 48, .inl (fun j_ => nI (tbV 4 j_)))), (a 12, .inl (G.2.1, 56, .inl (nF (cdR fb d 16)))), (a 13, .inl (G.2.1, 768, .inl (nF (skB fb d)))), (b, .inl (G.2.2.1, bn, .inl fb))] H := hP
      have hD : va_D A [(h, .inr (7, mO a rd mn tp os ty sz)), (a 3, .inl (G.2.1, 56, .inl (fun j_ => nI (tbV 3 j_)))), (a 4, .inl (G.2.1, 48, .inl (fun j_ => nI (tbV 4 j_)))), (a 12, .inl (G.2.1, 56, .inl (nF (cdR fb d 16)))), (a 13, .inl (G.2.1, 768, .inl (nF (skB fb d)))), (b, .inl (G.2.2.1, bn, .inl fb))] := hD
      exact hret () H _ 237 ls dX8_desKey_237 (trivial) (hP.sub [0, 1, 2, 3, 4, 5] rfl) (hD.sub [0, 1, 2, 3, 4, 5] (by decide) rfl) hS
    · have h5 : tbV 5 r ≤ 2 := by rw [sh5 r h2]; split <;> omega
      refine lv_iload_n hx hb dX8_desKey_58 rfl (lv_at hl 0 rfl) ?_
      refine w_ifN_eq (tgt := 79) hx hb (by omega) dX8_desKey_59 (by decide) (fun h3 => ?_) (fun h3 => ?_)
      · refine lv_iconst (v := nI 1) hx hb dX8_desKey_79 (by decide) ?_
        refine lv_goto (tgt := 84) hx hb dX8_desKey_80 (by decide) ?_
        refine lv_istore (lv' := [(4, .int (nI 1)), (3, .int (nI r)), (0, .ref h), (1, .ref b), (2, .int (nI d))]) hx hb dX8_desKey_84 hl (by decide) rfl (fun ls hl => ?_)
        have hl : lv_has ls 9 [(4, .int (nI (tbV 5 r))), (3, .int (nI r)), (0, .ref h), (1, .ref b), (2, .int (nI d))] := by have h9 := hl; rw [show nI 1 = nI (tbV 5 r) by rw [sh5 r (by omega), if_pos (by omega)]] at h9; exact h9
        refine lv_iconst (v := nI 0) hx hb dX8_desKey_86 (by decide) ?_
        refine lv_istore (lv' := [(5, .int (nI 0)), (4, .int (nI (tbV 5 r))), (3, .int (nI r)), (0, .ref h), (1, .ref b), (2, .int (nI d))]) hx hb dX8_desKey_87 hl (by decide) rfl (fun ls hl => ?_)
        refine w_loop (ι := Nat) (fun t => tbV 5 r - t) (fun t => t ≤ tbV 5 r) (fun t => [(h, .inr (7, mO a rd mn tp os ty sz)), (a 3, .inl (G.2.1, 56, .inl (fun j_ => nI (tbV 3 j_)))), (a 4, .inl (G.2.1, 48, .inl (fun j_ => nI (tbV 4 j_)))), (a 12, .inl (G.2.1, 56, .inl (nF (rotN (cdR fb d r) t)))), (a 13, .inl (G.2.1, 768, .inl (fl (48 * r) (nF (skB fb d)) fq))), (b, .inl (G.2.2.1, bn, .inl fb))]) (fun t => [(5, .int (nI t)), (4, .int (nI (tbV 5 r))), (3, .int (nI r)), (0, .ref h), (1, .ref b), (2, .int (nI d))]) 0 (Nat.zero_le _) hP hD hS hl ?_
        intro t H locs ls ht hP hD hS hl iht
        have ht : t ≤ tbV 5 r := ht
        have hP : va_P G.1 vwCl [(h, .inr (7, mO a rd mn tp os ty sz)), (a 3, .inl (G.2.1, 56, .inl (fun j_ => nI (tbV 3 j_)))), (a 4, .inl (G.2.1, 48, .inl (fun j_ => nI (tbV 4 j_)))), (a 12, .inl (G.2.1, 56, .inl (nF (rotN (cdR fb d r) t)))), (a 13, .inl (G.2.1, 768, .inl (fl (48 * r) (nF (skB fb d)) fq))), (b, .inl (G.2.2.1, bn, .inl fb))] H := hP
        have hD : va_D A [(h, .inr (7, mO a rd mn tp os ty sz)), (a 3, .inl (G.2.1, 56, .inl (fun j_ => nI (tbV 3 j_)))), (a 4, .inl (G.2.1, 48, .inl (fun j_ => nI (tbV 4 j_)))), (a 12, .inl (G.2.1, 56, .inl (nF (rotN (cdR fb d r) t)))), (a 13, .inl (G.2.1, 768, .inl (fl (48 * r) (nF (skB fb d)) fq))), (b, .inl (G.2.2.1, bn, .inl fb))] := hD
        have hl : lv_has ls 9 [(5, .int (nI t)), (4, .int (nI (tbV 5 r))), (3, .int (nI r)), (0, .ref h), (1, .ref b), (2, .int (nI d))] := hl
        refine lv_iload hx hb dX8_desKey_89 (lv_at hl 0 rfl) ?_
        refine lv_iload hx hb dX8_desKey_91 (lv_at hl 1 rfl) ?_
        refine w_icmpN_ge (tgt := 189) hx hb (by omega) (by omega) dX8_desKey_93 (by decide) (fun h4 => ?_) (fun h4 => ?_)
        · obtain rfl : tbV 5 r = t := Eq.symm (show t = tbV 5 r from by omega)
          have hP : va_P G.1 vwCl [(h, .inr (7, mO a rd mn tp os ty sz)), (a 3, .inl (G.2.1, 56, .inl (fun j_ => nI (tbV 3 j_)))), (a 4, .inl (G.2.1, 48, .inl (fun j_ => nI (tbV 4 j_)))), (a 12, .inl (G.2.1, 56, .inl (nF (cdR fb d (r + 1))))), (a 13, .inl (G.2.1, 768, .inl (fl (48 * r) (nF (skB fb d)) fq))), (b, .inl (G.2.2.1, bn, .inl fb))] H := hP
          have hD : va_D A [(h, .inr (7, mO a rd mn tp os ty sz)), (a 3, .inl (G.2.1, 56, .inl (fun j_ => nI (tbV 3 j_)))), (a 4, .inl (G.2.1, 48, .inl (fun j_ => nI (tbV 4 j_)))), (a 12, .inl (G.2.1, 56, .inl (nF (cdR fb d (r + 1))))), (a 13, .inl (G.2.1, 768, .inl (fl (48 * r) (nF (skB fb d)) fq))), (b, .inl (G.2.2.1, bn, .inl fb))] := hD
          refine lv_iconst (v := nI 0) hx hb dX8_desKey_189 (by decide) ?_
          refine lv_istore (lv' := [(5, .int (nI 0)), (4, .int (nI (tbV 5 r))), (3, .int (nI r)), (0, .ref h), (1, .ref b), (2, .int (nI d))]) hx hb dX8_desKey_190 hl (by decide) rfl (fun ls hl => ?_)
          refine w_loop (ι := Nat) (fun k => 48 - k) (fun k => k ≤ 48) (fun k => [(h, .inr (7, mO a rd mn tp os ty sz)), (a 3, .inl (G.2.1, 56, .inl (fun j_ => nI (tbV 3 j_)))), (a 4, .inl (G.2.1, 48, .inl (fun j_ => nI (tbV 4 j_)))), (a 12, .inl (G.2.1, 56, .inl (nF (cdR fb d (r + 1))))), (a 13, .inl (G.2.1, 768, .inl (fl (48 * r + k) (nF (skB fb d)) fq))), (b, .inl (G.2.2.1, bn, .inl fb))]) (fun k => [(5, .int (nI k)), (4, .int (nI (tbV 5 r))), (3, .int (nI r)), (0, .ref h), (1, .ref b), (2, .int (nI d))]) 0 (by omega) hP hD hS hl ?_
          intro k H locs ls hk hP hD hS hl ih
          have hk : k ≤ 48 := hk
          have hP : va_P G.1 vwCl [(h, .inr (7, mO a rd mn tp os ty sz)), (a 3, .inl (G.2.1, 56, .inl (fun j_ => nI (tbV 3 j_)))), (a 4, .inl (G.2.1, 48, .inl (fun j_ => nI (tbV 4 j_)))), (a 12, .inl (G.2.1, 56, .inl (nF (cdR fb d (r + 1))))), (a 13, .inl (G.2.1, 768, .inl (fl (48 * r + k) (nF (skB fb d)) fq))), (b, .inl (G.2.2.1, bn, .inl fb))] H := hP
          have hD : va_D A [(h, .inr (7, mO a rd mn tp os ty sz)), (a 3, .inl (G.2.1, 56, .inl (fun j_ => nI (tbV 3 j_)))), (a 4, .inl (G.2.1, 48, .inl (fun j_ => nI (tbV 4 j_)))), (a 12, .inl (G.2.1, 56, .inl (nF (cdR fb d (r + 1))))), (a 13, .inl (G.2.1, 768, .inl (fl (48 * r + k) (nF (skB fb d)) fq))), (b, .inl (G.2.2.1, bn, .inl fb))] := hD
          have hl : lv_has ls 9 [(5, .int (nI k)), (4, .int (nI (tbV 5 r))), (3, .int (nI r)), (0, .ref h), (1, .ref b), (2, .int (nI d))] := hl
          refine lv_iload hx hb dX8_desKey_192 (lv_at hl 0 rfl) ?_
          refine lv_bipush (v := nI 48) hx hb dX8_desKey_194 (by decide) ?_
          refine w_icmpN_ge (tgt := 231) hx hb (by omega) (by omega) dX8_desKey_196 (by decide) (fun h5 => ?_) (fun h5 => ?_)
          · obtain rfl : 48 = k := Eq.symm (show k = 48 from by omega)
            refine lv_iinc (v := nI (r + 1)) (lv' := [(3, .int (nI (r + 1))), (5, .int (nI 48)), (4, .int (nI (tbV 5 r))), (0, .ref h), (1, .ref b), (2, .int (nI d))]) hx hb dX8_desKey_231 hl (k := 2) rfl (nI_add r 1) (by decide) rfl (fun ls hl => ?_)
            refine lv_goto (tgt := 52) hx hb dX8_desKey_234 (by decide) ?_
            exact ihr (r + 1) H _ _ (by omega) (by omega) hP hD hS (lv_sub hl [0, 3, 4, 5] rfl)
          · have hp := tb4_in k h5
            refine lv_aload_n hx hb dX8_desKey_199 rfl (lv_at hl 3 rfl) ?_
            refine va_get (D := G.1) (ci := 7) (v := .ref (a 13)) (C := RX8) (T := TX8) (N := 35) hx hb hts hinX8 hown hK hP 0 rfl rfl 13 (by decide) (hts (.fieldLink RX8 10 "CipherBoxModel" "subkey" "[I") (by decide +kernel)) (fun _ h9 => h9) rfl dX8_desKey_200 ?_
            refine lv_bipush (v := nI 48) hx hb dX8_desKey_203 (by decide) ?_
            refine lv_iload_n hx hb dX8_desKey_205 rfl (lv_at hl 2 rfl) ?_
            refine w_imulN hx hb dX8_desKey_206 ?_
            refine lv_iload hx hb dX8_desKey_207 (lv_at hl 0 rfl) ?_
            refine w_iaddN hx hb dX8_desKey_209 ?_
            refine lv_aload_n hx hb dX8_desKey_210 rfl (lv_at hl 3 rfl) ?_
            refine va_get (D := G.1) (ci := 7) (v := .ref (a 12)) (C := RX8) (T := TX8) (N := 35) hx hb hts hinX8 hown hK hP 0 rfl rfl 12 (by decide) (hts (.fieldLink RX8 7 "CipherBoxModel" "cd" "[I") (by decide +kernel)) (fun _ h9 => h9) rfl dX8_desKey_211 ?_
            refine lv_aload_n hx hb dX8_desKey_214 rfl (lv_at hl 3 rfl) ?_
            refine va_get (D := G.1) (ci := 7) (v := .ref (a 4)) (C := RX8) (T := TX8) (N := 35) hx hb hts hinX8 hown hK hP 0 rfl rfl 4 (by decide) (hts (.fieldLink RX8 13 "CipherBoxModel" "second" "[I") (by decide +kernel)) (fun _ h9 => h9) rfl dX8_desKey_215 ?_
            refine lv_iload hx hb dX8_desKey_218 (lv_at hl 0 rfl) ?_
            refine w_iald hx hb hK hP 2 rfl (by omega) (by omega) dX8_desKey_220 ?_
            refine w_top (nI (tbV 4 k)) (rfl) ?_
            refine lv_iconst (v := nI 1) hx hb dX8_desKey_221 (by decide) ?_
            refine w_isubN hx hb (by omega) dX8_desKey_222 ?_
            refine w_iald hx hb hK hP 3 rfl (by omega) (by omega) dX8_desKey_223 ?_
            refine w_top (nI (cdR fb d (r + 1) (tbV 4 k - 1))) (rfl) ?_
            refine w_iast hx hb hK hP hD hS 4 rfl (by omega) (by omega) (fl (48 * r + (k + 1)) (nF (skB fb d)) fq) (fl_s (k := 48 * r + k) (by show _ = nI (skB fb d (48 * r + k)); rw [skB_i (by omega)])) dX8_desKey_224 (fun H locs hP hD hS => ?_)
            have hP : va_P G.1 vwCl [(h, .inr (7, mO a rd mn tp os ty sz)), (a 3, .inl (G.2.1, 56, .inl (fun j_ => nI (tbV 3 j_)))), (a 4, .inl (G.2.1, 48, .inl (fun j_ => nI (tbV 4 j_)))), (a 12, .inl (G.2.1, 56, .inl (nF (cdR fb d (r + 1))))), (a 13, .inl (G.2.1, 768, .inl (fl (48 * r + (k + 1)) (nF (skB fb d)) fq))), (b, .inl (G.2.2.1, bn, .inl fb))] H := hP
            have hD : va_D A [(h, .inr (7, mO a rd mn tp os ty sz)), (a 3, .inl (G.2.1, 56, .inl (fun j_ => nI (tbV 3 j_)))), (a 4, .inl (G.2.1, 48, .inl (fun j_ => nI (tbV 4 j_)))), (a 12, .inl (G.2.1, 56, .inl (nF (cdR fb d (r + 1))))), (a 13, .inl (G.2.1, 768, .inl (fl (48 * r + (k + 1)) (nF (skB fb d)) fq))), (b, .inl (G.2.2.1, bn, .inl fb))] := hD
            refine lv_iinc (v := nI (k + 1)) (lv' := [(5, .int (nI (k + 1))), (4, .int (nI (tbV 5 r))), (3, .int (nI r)), (0, .ref h), (1, .ref b), (2, .int (nI d))]) hx hb dX8_desKey_225 hl (k := 0) rfl (nI_add k 1) (by decide) rfl (fun ls hl => ?_)
            refine lv_goto (tgt := 192) hx hb dX8_desKey_228 (by decide) ?_
            exact ih (k + 1) H _ _ (by omega) (by omega) hP hD hS (lv_sub hl [0, 1, 2, 3, 4, 5] rfl)
        · refine lv_aload_n hx hb dX8_desKey_96 rfl (lv_at hl 3 rfl) ?_
          refine va_get (D := G.1) (ci := 7) (v := .ref (a 12)) (C := RX8) (T := TX8) (N := 35) hx hb hts hinX8 hown hK hP 0 rfl rfl 12 (by decide) (hts (.fieldLink RX8 7 "CipherBoxModel" "cd" "[I") (by decide +kernel)) (fun _ h9 => h9) rfl dX8_desKey_97 ?_
          refine lv_iconst (v := nI 0) hx hb dX8_desKey_100 (by decide) ?_
          refine w_iald hx hb hK hP 3 rfl (by omega) (by omega) dX8_desKey_101 ?_
          refine w_top (nI ((rotN (cdR fb d r) t) 0)) (rfl) ?_
          refine lv_istore (lv' := [(6, .int (nI ((rotN (cdR fb d r) t) 0))), (5, .int (nI t)), (4, .int (nI (tbV 5 r))), (3, .int (nI r)), (0, .ref h), (1, .ref b), (2, .int (nI d))]) hx hb dX8_desKey_102 hl (by decide) rfl (fun ls hl => ?_)
          refine lv_aload_n hx hb dX8_desKey_104 rfl (lv_at hl 4 rfl) ?_
          refine va_get (D := G.1) (ci := 7) (v := .ref (a 12)) (C := RX8) (T := TX8) (N := 35) hx hb hts hinX8 hown hK hP 0 rfl rfl 12 (by decide) (hts (.fieldLink RX8 7 "CipherBoxModel" "cd" "[I") (by decide +kernel)) (fun _ h9 => h9) rfl dX8_desKey_105 ?_
          refine lv_bipush (v := nI 28) hx hb dX8_desKey_108 (by decide) ?_
          refine w_iald hx hb hK hP 3 rfl (by omega) (by omega) dX8_desKey_110 ?_
          refine w_top (nI ((rotN (cdR fb d r) t) 28)) (rfl) ?_
          refine lv_istore (lv' := [(7, .int (nI ((rotN (cdR fb d r) t) 28))), (6, .int (nI ((rotN (cdR fb d r) t) 0))), (5, .int (nI t)), (4, .int (nI (tbV 5 r))), (3, .int (nI r)), (0, .ref h), (1, .ref b), (2, .int (nI d))]) hx hb dX8_desKey_111 hl (by decide) rfl (fun ls hl => ?_)
          refine lv_iconst (v := nI 0) hx hb dX8_desKey_113 (by decide) ?_
          refine lv_istore (lv' := [(8, .int (nI 0)), (7, .int (nI ((rotN (cdR fb d r) t) 28))), (6, .int (nI ((rotN (cdR fb d r) t) 0))), (5, .int (nI t)), (4, .int (nI (tbV 5 r))), (3, .int (nI r)), (0, .ref h), (1, .ref b), (2, .int (nI d))]) hx hb dX8_desKey_114 hl (by decide) rfl (fun ls hl => ?_)
          refine w_loop (ι := Nat) (fun k => 27 - k) (fun k => k ≤ 27) (fun k => [(h, .inr (7, mO a rd mn tp os ty sz)), (a 3, .inl (G.2.1, 56, .inl (fun j_ => nI (tbV 3 j_)))), (a 4, .inl (G.2.1, 48, .inl (fun j_ => nI (tbV 4 j_)))), (a 12, .inl (G.2.1, 56, .inl (nF (shD (rotN (cdR fb d r) t) k k)))), (a 13, .inl (G.2.1, 768, .inl (fl (48 * r) (nF (skB fb d)) fq))), (b, .inl (G.2.2.1, bn, .inl fb))]) (fun k => [(8, .int (nI k)), (7, .int (nI ((rotN (cdR fb d r) t) 28))), (6, .int (nI ((rotN (cdR fb d r) t) 0))), (5, .int (nI t)), (4, .int (nI (tbV 5 r))), (3, .int (nI r)), (0, .ref h), (1, .ref b), (2, .int (nI d))]) 0 (by omega) (by simp only [shD_0]; exact hP) (by simp only [shD_0]; exact hD) hS hl ?_
          intro k H locs ls hk hP hD hS hl ih
          have hk : k ≤ 27 := hk
          have hP : va_P G.1 vwCl [(h, .inr (7, mO a rd mn tp os ty sz)), (a 3, .inl (G.2.1, 56, .inl (fun j_ => nI (tbV 3 j_)))), (a 4, .inl (G.2.1, 48, .inl (fun j_ => nI (tbV 4 j_)))), (a 12, .inl (G.2.1, 56, .inl (nF (shD (rotN (cdR fb d r) t) k k)))), (a 13, .inl (G.2.1, 768, .inl (fl (48 * r) (nF (skB fb d)) fq))), (b, .inl (G.2.2.1, bn, .inl fb))] H := hP
          have hD : va_D A [(h, .inr (7, mO a rd mn tp os ty sz)), (a 3, .inl (G.2.1, 56, .inl (fun j_ => nI (tbV 3 j_)))), (a 4, .inl (G.2.1, 48, .inl (fun j_ => nI (tbV 4 j_)))), (a 12, .inl (G.2.1, 56, .inl (nF (shD (rotN (cdR fb d r) t) k k)))), (a 13, .inl (G.2.1, 768, .inl (fl (48 * r) (nF (skB fb d)) fq))), (b, .inl (G.2.2.1, bn, .inl fb))] := hD
          have hl : lv_has ls 9 [(8, .int (nI k)), (7, .int (nI ((rotN (cdR fb d r) t) 28))), (6, .int (nI ((rotN (cdR fb d r) t) 0))), (5, .int (nI t)), (4, .int (nI (tbV 5 r))), (3, .int (nI r)), (0, .ref h), (1, .ref b), (2, .int (nI d))] := hl
          refine lv_iload hx hb dX8_desKey_116 (lv_at hl 0 rfl) ?_
          refine lv_bipush (v := nI 27) hx hb dX8_desKey_118 (by decide) ?_
          refine w_icmpN_ge (tgt := 165) hx hb (by omega) (by omega) dX8_desKey_120 (by decide) (fun h6 => ?_) (fun h6 => ?_)
          · obtain rfl : 27 = k := Eq.symm (show k = 27 from by omega)
            refine lv_aload_n hx hb dX8_desKey_165 rfl (lv_at hl 6 rfl) ?_
            refine va_get (D := G.1) (ci := 7) (v := .ref (a 12)) (C := RX8) (T := TX8) (N := 35) hx hb hts hinX8 hown hK hP 0 rfl rfl 12 (by decide) (hts (.fieldLink RX8 7 "CipherBoxModel" "cd" "[I") (by decide +kernel)) (fun _ h9 => h9) rfl dX8_desKey_166 ?_
            refine lv_bipush (v := nI 27) hx hb dX8_desKey_169 (by decide) ?_
            refine lv_iload hx hb dX8_desKey_171 (lv_at hl 2 rfl) ?_
            refine w_iast hx hb hK hP hD hS 3 rfl (by omega) (by omega) (upd (nF (shD (rotN (cdR fb d r) t) 27 27)) 27 (nI ((rotN (cdR fb d r) t) 0))) (rfl) dX8_desKey_173 (fun H locs hP hD hS => ?_)
            have hP : va_P G.1 vwCl [(h, .inr (7, mO a rd mn tp os ty sz)), (a 3, .inl (G.2.1, 56, .inl (fun j_ => nI (tbV 3 j_)))), (a 4, .inl (G.2.1, 48, .inl (fun j_ => nI (tbV 4 j_)))), (a 12, .inl (G.2.1, 56, .inl (upd (nF (shD (rotN (cdR fb d r) t) 27 27)) 27 (nI ((rotN (cdR fb d r) t) 0))))), (a 13, .inl (G.2.1, 768, .inl (fl (48 * r) (nF (skB fb d)) fq))), (b, .inl (G.2.2.1, bn, .inl fb))] H := hP
            have hD : va_D A [(h, .inr (7, mO a rd mn tp os ty sz)), (a 3, .inl (G.2.1, 56, .inl (fun j_ => nI (tbV 3 j_)))), (a 4, .inl (G.2.1, 48, .inl (fun j_ => nI (tbV 4 j_)))), (a 12, .inl (G.2.1, 56, .inl (upd (nF (shD (rotN (cdR fb d r) t) 27 27)) 27 (nI ((rotN (cdR fb d r) t) 0))))), (a 13, .inl (G.2.1, 768, .inl (fl (48 * r) (nF (skB fb d)) fq))), (b, .inl (G.2.2.1, bn, .inl fb))] := hD
            refine lv_aload_n hx hb dX8_desKey_174 rfl (lv_at hl 6 rfl) ?_
            refine va_get (D := G.1) (ci := 7) (v := .ref (a 12)) (C := RX8) (T := TX8) (N := 35) hx hb hts hinX8 hown hK hP 0 rfl rfl 12 (by decide) (hts (.fieldLink RX8 7 "CipherBoxModel" "cd" "[I") (by decide +kernel)) (fun _ h9 => h9) rfl dX8_desKey_175 ?_
            refine lv_bipush (v := nI 55) hx hb dX8_desKey_178 (by decide) ?_
            refine lv_iload hx hb dX8_desKey_180 (lv_at hl 1 rfl) ?_
            refine w_iast hx hb hK hP hD hS 3 rfl (by omega) (by omega) (upd (upd (nF (shD (rotN (cdR fb d r) t) 27 27)) 27 (nI ((rotN (cdR fb d r) t) 0))) 55 (nI ((rotN (cdR fb d r) t) 28))) (rfl) dX8_desKey_182 (fun H locs hP hD hS => ?_)
            have hP : va_P G.1 vwCl [(h, .inr (7, mO a rd mn tp os ty sz)), (a 3, .inl (G.2.1, 56, .inl (fun j_ => nI (tbV 3 j_)))), (a 4, .inl (G.2.1, 48, .inl (fun j_ => nI (tbV 4 j_)))), (a 12, .inl (G.2.1, 56, .inl (upd (upd (nF (shD (rotN (cdR fb d r) t) 27 27)) 27 (nI ((rotN (cdR fb d r) t) 0))) 55 (nI ((rotN (cdR fb d r) t) 28))))), (a 13, .inl (G.2.1, 768, .inl (fl (48 * r) (nF (skB fb d)) fq))), (b, .inl (G.2.2.1, bn, .inl fb))] H := hP
            have hD : va_D A [(h, .inr (7, mO a rd mn tp os ty sz)), (a 3, .inl (G.2.1, 56, .inl (fun j_ => nI (tbV 3 j_)))), (a 4, .inl (G.2.1, 48, .inl (fun j_ => nI (tbV 4 j_)))), (a 12, .inl (G.2.1, 56, .inl (upd (upd (nF (shD (rotN (cdR fb d r) t) 27 27)) 27 (nI ((rotN (cdR fb d r) t) 0))) 55 (nI ((rotN (cdR fb d r) t) 28))))), (a 13, .inl (G.2.1, 768, .inl (fl (48 * r) (nF (skB fb d)) fq))), (b, .inl (G.2.2.1, bn, .inl fb))] := hD
            have hP := w_ext (upd (upd (nF (shD (rotN (cdR fb d r) t) 27 27)) 27 (nI ((rotN (cdR fb d r) t) 0))) 55 (nI ((rotN (cdR fb d r) t) 28))) (nF (rotN (cdR fb d r) (t + 1))) 3 hP rfl (fun j hj => rot_e hj)
            have hD := hD.set (p := 3) (e := .inl (G.2.1, 56, .inl (nF (rotN (cdR fb d r) (t + 1))))) rfl
            have hP : va_P G.1 vwCl [(h, .inr (7, mO a rd mn tp os ty sz)), (a 3, .inl (G.2.1, 56, .inl (fun j_ => nI (tbV 3 j_)))), (a 4, .inl (G.2.1, 48, .inl (fun j_ => nI (tbV 4 j_)))), (a 12, .inl (G.2.1, 56, .inl (nF (rotN (cdR fb d r) (t + 1))))), (a 13, .inl (G.2.1, 768, .inl (fl (48 * r) (nF (skB fb d)) fq))), (b, .inl (G.2.2.1, bn, .inl fb))] H := hP
            have hD : va_D A [(h, .inr (7, mO a rd mn tp os ty sz)), (a 3, .inl (G.2.1, 56, .inl (fun j_ => nI (tbV 3 j_)))), (a 4, .inl (G.2.1, 48, .inl (fun j_ => nI (tbV 4 j_)))), (a 12, .inl (G.2.1, 56, .inl (nF (rotN (cdR fb d r) (t + 1))))), (a 13, .inl (G.2.1, 768, .inl (fl (48 * r) (nF (skB fb d)) fq))), (b, .inl (G.2.2.1, bn, .inl fb))] := hD
            refine lv_iinc (v := nI (t + 1)) (lv' := [(5, .int (nI (t + 1))), (8, .int (nI 27)), (7, .int (nI ((rotN (cdR fb d r) t) 28))), (6, .int (nI ((rotN (cdR fb d r) t) 0))), (4, .int (nI (tbV 5 r))), (3, .int (nI r)), (0, .ref h), (1, .ref b), (2, .int (nI d))]) hx hb dX8_desKey_183 hl (k := 3) rfl (nI_add t 1) (by decide) rfl (fun ls hl => ?_)
            refine lv_goto (tgt := 89) hx hb dX8_desKey_186 (by decide) ?_
            exact iht (t + 1) H _ _ (by omega) (by omega) hP hD hS (lv_sub hl [0, 4, 5, 6, 7, 8] rfl)
          · refine lv_aload_n hx hb dX8_desKey_123 rfl (lv_at hl 6 rfl) ?_
            refine va_get (D := G.1) (ci := 7) (v := .ref (a 12)) (C := RX8) (T := TX8) (N := 35) hx hb hts hinX8 hown hK hP 0 rfl rfl 12 (by decide) (hts (.fieldLink RX8 7 "CipherBoxModel" "cd" "[I") (by decide +kernel)) (fun _ h9 => h9) rfl dX8_desKey_124 ?_
            refine lv_iload hx hb dX8_desKey_127 (lv_at hl 0 rfl) ?_
            refine lv_aload_n hx hb dX8_desKey_129 rfl (lv_at hl 6 rfl) ?_
            refine va_get (D := G.1) (ci := 7) (v := .ref (a 12)) (C := RX8) (T := TX8) (N := 35) hx hb hts hinX8 hown hK hP 0 rfl rfl 12 (by decide) (hts (.fieldLink RX8 7 "CipherBoxModel" "cd" "[I") (by decide +kernel)) (fun _ h9 => h9) rfl dX8_desKey_130 ?_
            refine lv_iload hx hb dX8_desKey_133 (lv_at hl 0 rfl) ?_
            refine lv_iconst (v := nI 1) hx hb dX8_desKey_135 (by decide) ?_
            refine w_iaddN hx hb dX8_desKey_136 ?_
            refine w_iald hx hb hK hP 3 rfl (by omega) (by omega) dX8_desKey_137 ?_
            refine w_top (nI ((rotN (cdR fb d r) t) (k + 1))) (shD_r (by omega) (Or.inl (by omega))) ?_
            refine w_iast hx hb hK hP hD hS 3 rfl (by omega) (by omega) (nF (shD (rotN (cdR fb d r) t) (k + 1) k)) (shD_a (by omega)) dX8_desKey_138 (fun H locs hP hD hS => ?_)
            have hP : va_P G.1 vwCl [(h, .inr (7, mO a rd mn tp os ty sz)), (a 3, .inl (G.2.1, 56, .inl (fun j_ => nI (tbV 3 j_)))), (a 4, .inl (G.2.1, 48, .inl (fun j_ => nI (tbV 4 j_)))), (a 12, .inl (G.2.1, 56, .inl (nF (shD (rotN (cdR fb d r) t) (k + 1) k)))), (a 13, .inl (G.2.1, 768, .inl (fl (48 * r) (nF (skB fb d)) fq))), (b, .inl (G.2.2.1, bn, .inl fb))] H := hP
            have hD : va_D A [(h, .inr (7, mO a rd mn tp os ty sz)), (a 3, .inl (G.2.1, 56, .inl (fun j_ => nI (tbV 3 j_)))), (a 4, .inl (G.2.1, 48, .inl (fun j_ => nI (tbV 4 j_)))), (a 12, .inl (G.2.1, 56, .inl (nF (shD (rotN (cdR fb d r) t) (k + 1) k)))), (a 13, .inl (G.2.1, 768, .inl (fl (48 * r) (nF (skB fb d)) fq))), (b, .inl (G.2.2.1, bn, .inl fb))] := hD
            refine lv_aload_n hx hb dX8_desKey_139 rfl (lv_at hl 6 rfl) ?_
            refine va_get (D := G.1) (ci := 7) (v := .ref (a 12)) (C := RX8) (T := TX8) (N := 35) hx hb hts hinX8 hown hK hP 0 rfl rfl 12 (by decide) (hts (.fieldLink RX8 7 "CipherBoxModel" "cd" "[I") (by decide +kernel)) (fun _ h9 => h9) rfl dX8_desKey_140 ?_
            refine lv_bipush (v := nI 28) hx hb dX8_desKey_143 (by decide) ?_
            refine lv_iload hx hb dX8_desKey_145 (lv_at hl 0 rfl) ?_
            refine w_iaddN hx hb dX8_desKey_147 ?_
            refine lv_aload_n hx hb dX8_desKey_148 rfl (lv_at hl 6 rfl) ?_
            refine va_get (D := G.1) (ci := 7) (v := .ref (a 12)) (C := RX8) (T := TX8) (N := 35) hx hb hts hinX8 hown hK hP 0 rfl rfl 12 (by decide) (hts (.fieldLink RX8 7 "CipherBoxModel" "cd" "[I") (by decide +kernel)) (fun _ h9 => h9) rfl dX8_desKey_149 ?_
            refine lv_bipush (v := nI 29) hx hb dX8_desKey_152 (by decide) ?_
            refine lv_iload hx hb dX8_desKey_154 (lv_at hl 0 rfl) ?_
            refine w_iaddN hx hb dX8_desKey_156 ?_
            refine w_iald hx hb hK hP 3 rfl (by omega) (by omega) dX8_desKey_157 ?_
            refine w_top (nI ((rotN (cdR fb d r) t) (29 + k))) (shD_r (by omega) (Or.inr (by omega))) ?_
            refine w_iast hx hb hK hP hD hS 3 rfl (by omega) (by omega) (nF (shD (rotN (cdR fb d r) t) (k + 1) (k + 1))) (shD_b (by omega)) dX8_desKey_158 (fun H locs hP hD hS => ?_)
            have hP : va_P G.1 vwCl [(h, .inr (7, mO a rd mn tp os ty sz)), (a 3, .inl (G.2.1, 56, .inl (fun j_ => nI (tbV 3 j_)))), (a 4, .inl (G.2.1, 48, .inl (fun j_ => nI (tbV 4 j_)))), (a 12, .inl (G.2.1, 56, .inl (nF (shD (rotN (cdR fb d r) t) (k + 1) (k + 1))))), (a 13, .inl (G.2.1, 768, .inl (fl (48 * r) (nF (skB fb d)) fq))), (b, .inl (G.2.2.1, bn, .inl fb))] H := hP
            have hD : va_D A [(h, .inr (7, mO a rd mn tp os ty sz)), (a 3, .inl (G.2.1, 56, .inl (fun j_ => nI (tbV 3 j_)))), (a 4, .inl (G.2.1, 48, .inl (fun j_ => nI (tbV 4 j_)))), (a 12, .inl (G.2.1, 56, .inl (nF (shD (rotN (cdR fb d r) t) (k + 1) (k + 1))))), (a 13, .inl (G.2.1, 768, .inl (fl (48 * r) (nF (skB fb d)) fq))), (b, .inl (G.2.2.1, bn, .inl fb))] := hD
            refine lv_iinc (v := nI (k + 1)) (lv' := [(8, .int (nI (k + 1))), (7, .int (nI ((rotN (cdR fb d r) t) 28))), (6, .int (nI ((rotN (cdR fb d r) t) 0))), (5, .int (nI t)), (4, .int (nI (tbV 5 r))), (3, .int (nI r)), (0, .ref h), (1, .ref b), (2, .int (nI d))]) hx hb dX8_desKey_159 hl (k := 0) rfl (nI_add k 1) (by decide) rfl (fun ls hl => ?_)
            refine lv_goto (tgt := 116) hx hb dX8_desKey_162 (by decide) ?_
            exact ih (k + 1) H _ _ (by omega) (by omega) hP hD hS (lv_sub hl [0, 1, 2, 3, 4, 5, 6, 7, 8] rfl)
      · refine lv_iload_n hx hb dX8_desKey_62 rfl (lv_at hl 0 rfl) ?_
        refine lv_iconst (v := nI 1) hx hb dX8_desKey_63 (by decide) ?_
        refine w_icmpN_eq (tgt := 79) hx hb (by omega) (by omega) dX8_desKey_64 (by decide) (fun h7 => ?_) (fun h7 => ?_)
        · refine lv_iconst (v := nI 1) hx hb dX8_desKey_79 (by decide) ?_
          refine lv_goto (tgt := 84) hx hb dX8_desKey_80 (by decide) ?_
          refine lv_istore (lv' := [(4, .int (nI 1)), (3, .int (nI r)), (0, .ref h), (1, .ref b), (2, .int (nI d))]) hx hb dX8_desKey_84 hl (by decide) rfl (fun ls hl => ?_)
          have hl : lv_has ls 9 [(4, .int (nI (tbV 5 r))), (3, .int (nI r)), (0, .ref h), (1, .ref b), (2, .int (nI d))] := by have h9 := hl; rw [show nI 1 = nI (tbV 5 r) by rw [sh5 r (by omega), if_pos (by omega)]] at h9; exact h9
          refine lv_iconst (v := nI 0) hx hb dX8_desKey_86 (by decide) ?_
          refine lv_istore (lv' := [(5, .int (nI 0)), (4, .int (nI (tbV 5 r))), (3, .int (nI r)), (0, .ref h), (1, .ref b), (2, .int (nI d))]) hx hb dX8_desKey_87 hl (by decide) rfl (fun ls hl => ?_)
          refine w_loop (ι := Nat) (fun t => tbV 5 r - t) (fun t => t ≤ tbV 5 r) (fun t => [(h, .inr (7, mO a rd mn tp os ty sz)), (a 3, .inl (G.2.1, 56, .inl (fun j_ => nI (tbV 3 j_)))), (a 4, .inl (G.2.1, 48, .inl (fun j_ => nI (tbV 4 j_)))), (a 12, .inl (G.2.1, 56, .inl (nF (rotN (cdR fb d r) t)))), (a 13, .inl (G.2.1, 768, .inl (fl (48 * r) (nF (skB fb d)) fq))), (b, .inl (G.2.2.1, bn, .inl fb))]) (fun t => [(5, .int (nI t)), (4, .int (nI (tbV 5 r))), (3, .int (nI r)), (0, .ref h), (1, .ref b), (2, .int (nI d))]) 0 (Nat.zero_le _) hP hD hS hl ?_
          intro t H locs ls ht hP hD hS hl iht
          have ht : t ≤ tbV 5 r := ht
          have hP : va_P G.1 vwCl [(h, .inr (7, mO a rd mn tp os ty sz)), (a 3, .inl (G.2.1, 56, .inl (fun j_ => nI (tbV 3 j_)))), (a 4, .inl (G.2.1, 48, .inl (fun j_ => nI (tbV 4 j_)))), (a 12, .inl (G.2.1, 56, .inl (nF (rotN (cdR fb d r) t)))), (a 13, .inl (G.2.1, 768, .inl (fl (48 * r) (nF (skB fb d)) fq))), (b, .inl (G.2.2.1, bn, .inl fb))] H := hP
          have hD : va_D A [(h, .inr (7, mO a rd mn tp os ty sz)), (a 3, .inl (G.2.1, 56, .inl (fun j_ => nI (tbV 3 j_)))), (a 4, .inl (G.2.1, 48, .inl (fun j_ => nI (tbV 4 j_)))), (a 12, .inl (G.2.1, 56, .inl (nF (rotN (cdR fb d r) t)))), (a 13, .inl (G.2.1, 768, .inl (fl (48 * r) (nF (skB fb d)) fq))), (b, .inl (G.2.2.1, bn, .inl fb))] := hD
          have hl : lv_has ls 9 [(5, .int (nI t)), (4, .int (nI (tbV 5 r))), (3, .int (nI r)), (0, .ref h), (1, .ref b), (2, .int (nI d))] := hl
          refine lv_iload hx hb dX8_desKey_89 (lv_at hl 0 rfl) ?_
          refine lv_iload hx hb dX8_desKey_91 (lv_at hl 1 rfl) ?_
          refine w_icmpN_ge (tgt := 189) hx hb (by omega) (by omega) dX8_desKey_93 (by decide) (fun h8 => ?_) (fun h8 => ?_)
          · obtain rfl : tbV 5 r = t := Eq.symm (show t = tbV 5 r from by omega)
            have hP : va_P G.1 vwCl [(h, .inr (7, mO a rd mn tp os ty sz)), (a 3, .inl (G.2.1, 56, .inl (fun j_ => nI (tbV 3 j_)))), (a 4, .inl (G.2.1, 48, .inl (fun j_ => nI (tbV 4 j_)))), (a 12, .inl (G.2.1, 56, .inl (nF (cdR fb d (r + 1))))), (a 13, .inl (G.2.1, 768, .inl (fl (48 * r) (nF (skB fb d)) fq))), (b, .inl (G.2.2.1, bn, .inl fb))] H := hP
            have hD : va_D A [(h, .inr (7, mO a rd mn tp os ty sz)), (a 3, .inl (G.2.1, 56, .inl (fun j_ => nI (tbV 3 j_)))), (a 4, .inl (G.2.1, 48, .inl (fun j_ => nI (tbV 4 j_)))), (a 12, .inl (G.2.1, 56, .inl (nF (cdR fb d (r + 1))))), (a 13, .inl (G.2.1, 768, .inl (fl (48 * r) (nF (skB fb d)) fq))), (b, .inl (G.2.2.1, bn, .inl fb))] := hD
            refine lv_iconst (v := nI 0) hx hb dX8_desKey_189 (by decide) ?_
            refine lv_istore (lv' := [(5, .int (nI 0)), (4, .int (nI (tbV 5 r))), (3, .int (nI r)), (0, .ref h), (1, .ref b), (2, .int (nI d))]) hx hb dX8_desKey_190 hl (by decide) rfl (fun ls hl => ?_)
            refine w_loop (ι := Nat) (fun k => 48 - k) (fun k => k ≤ 48) (fun k => [(h, .inr (7, mO a rd mn tp os ty sz)), (a 3, .inl (G.2.1, 56, .inl (fun j_ => nI (tbV 3 j_)))), (a 4, .inl (G.2.1, 48, .inl (fun j_ => nI (tbV 4 j_)))), (a 12, .inl (G.2.1, 56, .inl (nF (cdR fb d (r + 1))))), (a 13, .inl (G.2.1, 768, .inl (fl (48 * r + k) (nF (skB fb d)) fq))), (b, .inl (G.2.2.1, bn, .inl fb))]) (fun k => [(5, .int (nI k)), (4, .int (nI (tbV 5 r))), (3, .int (nI r)), (0, .ref h), (1, .ref b), (2, .int (nI d))]) 0 (by omega) hP hD hS hl ?_
            intro k H locs ls hk hP hD hS hl ih
            have hk : k ≤ 48 := hk
            have hP : va_P G.1 vwCl [(h, .inr (7, mO a rd mn tp os ty sz)), (a 3, .inl (G.2.1, 56, .inl (fun j_ => nI (tbV 3 j_)))), (a 4, .inl (G.2.1, 48, .inl (fun j_ => nI (tbV 4 j_)))), (a 12, .inl (G.2.1, 56, .inl (nF (cdR fb d (r + 1))))), (a 13, .inl (G.2.1, 768, .inl (fl (48 * r + k) (nF (skB fb d)) fq))), (b, .inl (G.2.2.1, bn, .inl fb))] H := hP
            have hD : va_D A [(h, .inr (7, mO a rd mn tp os ty sz)), (a 3, .inl (G.2.1, 56, .inl (fun j_ => nI (tbV 3 j_)))), (a 4, .inl (G.2.1, 48, .inl (fun j_ => nI (tbV 4 j_)))), (a 12, .inl (G.2.1, 56, .inl (nF (cdR fb d (r + 1))))), (a 13, .inl (G.2.1, 768, .inl (fl (48 * r + k) (nF (skB fb d)) fq))), (b, .inl (G.2.2.1, bn, .inl fb))] := hD
            have hl : lv_has ls 9 [(5, .int (nI k)), (4, .int (nI (tbV 5 r))), (3, .int (nI r)), (0, .ref h), (1, .ref b), (2, .int (nI d))] := hl
            refine lv_iload hx hb dX8_desKey_192 (lv_at hl 0 rfl) ?_
            refine lv_bipush (v := nI 48) hx hb dX8_desKey_194 (by decide) ?_
            refine w_icmpN_ge (tgt := 231) hx hb (by omega) (by omega) dX8_desKey_196 (by decide) (fun h9 => ?_) (fun h9 => ?_)
            · obtain rfl : 48 = k := Eq.symm (show k = 48 from by omega)
              refine lv_iinc (v := nI (r + 1)) (lv' := [(3, .int (nI (r + 1))), (5, .int (nI 48)), (4, .int (nI (tbV 5 r))), (0, .ref h), (1, .ref b), (2, .int (nI d))]) hx hb dX8_desKey_231 hl (k := 2) rfl (nI_add r 1) (by decide) rfl (fun ls hl => ?_)
              refine lv_goto (tgt := 52) hx hb dX8_desKey_234 (by decide) ?_
              exact ihr (r + 1) H _ _ (by omega) (by omega) hP hD hS (lv_sub hl [0, 3, 4, 5] rfl)
            · have hp := tb4_in k h9
              refine lv_aload_n hx hb dX8_desKey_199 rfl (lv_at hl 3 rfl) ?_
              refine va_get (D := G.1) (ci := 7) (v := .ref (a 13)) (C := RX8) (T := TX8) (N := 35) hx hb hts hinX8 hown hK hP 0 rfl rfl 13 (by decide) (hts (.fieldLink RX8 10 "CipherBoxModel" "subkey" "[I") (by decide +kernel)) (fun _ h9 => h9) rfl dX8_desKey_200 ?_
              refine lv_bipush (v := nI 48) hx hb dX8_desKey_203 (by decide) ?_
              refine lv_iload_n hx hb dX8_desKey_205 rfl (lv_at hl 2 rfl) ?_
              refine w_imulN hx hb dX8_desKey_206 ?_
              refine lv_iload hx hb dX8_desKey_207 (lv_at hl 0 rfl) ?_
              refine w_iaddN hx hb dX8_desKey_209 ?_
              refine lv_aload_n hx hb dX8_desKey_210 rfl (lv_at hl 3 rfl) ?_
              refine va_get (D := G.1) (ci := 7) (v := .ref (a 12)) (C := RX8) (T := TX8) (N := 35) hx hb hts hinX8 hown hK hP 0 rfl rfl 12 (by decide) (hts (.fieldLink RX8 7 "CipherBoxModel" "cd" "[I") (by decide +kernel)) (fun _ h9 => h9) rfl dX8_desKey_211 ?_
              refine lv_aload_n hx hb dX8_desKey_214 rfl (lv_at hl 3 rfl) ?_
              refine va_get (D := G.1) (ci := 7) (v := .ref (a 4)) (C := RX8) (T := TX8) (N := 35) hx hb hts hinX8 hown hK hP 0 rfl rfl 4 (by decide) (hts (.fieldLink RX8 13 "CipherBoxModel" "second" "[I") (by decide +kernel)) (fun _ h9 => h9) rfl dX8_desKey_215 ?_
              refine lv_iload hx hb dX8_desKey_218 (lv_at hl 0 rfl) ?_
              refine w_iald hx hb hK hP 2 rfl (by omega) (by omega) dX8_desKey_220 ?_
              refine w_top (nI (tbV 4 k)) (rfl) ?_
              refine lv_iconst (v := nI 1) hx hb dX8_desKey_221 (by decide) ?_
              refine w_isubN hx hb (by omega) dX8_desKey_222 ?_
              refine w_iald hx hb hK hP 3 rfl (by omega) (by omega) dX8_desKey_223 ?_
              refine w_top (nI (cdR fb d (r + 1) (tbV 4 k - 1))) (rfl) ?_
              refine w_iast hx hb hK hP hD hS 4 rfl (by omega) (by omega) (fl (48 * r + (k + 1)) (nF (skB fb d)) fq) (fl_s (k := 48 * r + k) (by show _ = nI (skB fb d (48 * r + k)); rw [skB_i (by omega)])) dX8_desKey_224 (fun H locs hP hD hS => ?_)
              have hP : va_P G.1 vwCl [(h, .inr (7, mO a rd mn tp os ty sz)), (a 3, .inl (G.2.1, 56, .inl (fun j_ => nI (tbV 3 j_)))), (a 4, .inl (G.2.1, 48, .inl (fun j_ => nI (tbV 4 j_)))), (a 12, .inl (G.2.1, 56, .inl (nF (cdR fb d (r + 1))))), (a 13, .inl (G.2.1, 768, .inl (fl (48 * r + (k + 1)) (nF (skB fb d)) fq))), (b, .inl (G.2.2.1, bn, .inl fb))] H := hP
              have hD : va_D A [(h, .inr (7, mO a rd mn tp os ty sz)), (a 3, .inl (G.2.1, 56, .inl (fun j_ => nI (tbV 3 j_)))), (a 4, .inl (G.2.1, 48, .inl (fun j_ => nI (tbV 4 j_)))), (a 12, .inl (G.2.1, 56, .inl (nF (cdR fb d (r + 1))))), (a 13, .inl (G.2.1, 768, .inl (fl (48 * r + (k + 1)) (nF (skB fb d)) fq))), (b, .inl (G.2.2.1, bn, .inl fb))] := hD
              refine lv_iinc (v := nI (k + 1)) (lv' := [(5, .int (nI (k + 1))), (4, .int (nI (tbV 5 r))), (3, .int (nI r)), (0, .ref h), (1, .ref b), (2, .int (nI d))]) hx hb dX8_desKey_225 hl (k := 0) rfl (nI_add k 1) (by decide) rfl (fun ls hl => ?_)
              refine lv_goto (tgt := 192) hx hb dX8_desKey_228 (by decide) ?_
              exact ih (k + 1) H _ _ (by omega) (by omega) hP hD hS (lv_sub hl [0, 1, 2, 3, 4, 5] rfl)
          · refine lv_aload_n hx hb dX8_desKey_96 rfl (lv_at hl 3 rfl) ?_
            refine va_get (D := G.1) (ci := 7) (v := .ref (a 12)) (C := RX8) (T := TX8) (N := 35) hx hb hts hinX8 hown hK hP 0 rfl rfl 12 (by decide) (hts (.fieldLink RX8 7 "CipherBoxModel" "cd" "[I") (by decide +kernel)) (fun _ h9 => h9) rfl dX8_desKey_97 ?_
            refine lv_iconst (v := nI 0) hx hb dX8_desKey_100 (by decide) ?_
            refine w_iald hx hb hK hP 3 rfl (by omega) (by omega) dX8_desKey_101 ?_
            refine w_top (nI ((rotN (cdR fb d r) t) 0)) (rfl) ?_
            refine lv_istore (lv' := [(6, .int (nI ((rotN (cdR fb d r) t) 0))), (5, .int (nI t)), (4, .int (nI (tbV 5 r))), (3, .int (nI r)), (0, .ref h), (1, .ref b), (2, .int (nI d))]) hx hb dX8_desKey_102 hl (by decide) rfl (fun ls hl => ?_)
            refine lv_aload_n hx hb dX8_desKey_104 rfl (lv_at hl 4 rfl) ?_
            refine va_get (D := G.1) (ci := 7) (v := .ref (a 12)) (C := RX8) (T := TX8) (N := 35) hx hb hts hinX8 hown hK hP 0 rfl rfl 12 (by decide) (hts (.fieldLink RX8 7 "CipherBoxModel" "cd" "[I") (by decide +kernel)) (fun _ h9 => h9) rfl dX8_desKey_105 ?_
            refine lv_bipush (v := nI 28) hx hb dX8_desKey_108 (by decide) ?_
            refine w_iald hx hb hK hP 3 rfl (by omega) (by omega) dX8_desKey_110 ?_
            refine w_top (nI ((rotN (cdR fb d r) t) 28)) (rfl) ?_
            refine lv_istore (lv' := [(7, .int (nI ((rotN (cdR fb d r) t) 28))), (6, .int (nI ((rotN (cdR fb d r) t) 0))), (5, .int (nI t)), (4, .int (nI (tbV 5 r))), (3, .int (nI r)), (0, .ref h), (1, .ref b), (2, .int (nI d))]) hx hb dX8_desKey_111 hl (by decide) rfl (fun ls hl => ?_)
            refine lv_iconst (v := nI 0) hx hb dX8_desKey_113 (by decide) ?_
            refine lv_istore (lv' := [(8, .int (nI 0)), (7, .int (nI ((rotN (cdR fb d r) t) 28))), (6, .int (nI ((rotN (cdR fb d r) t) 0))), (5, .int (nI t)), (4, .int (nI (tbV 5 r))), (3, .int (nI r)), (0, .ref h), (1, .ref b), (2, .int (nI d))]) hx hb dX8_desKey_114 hl (by decide) rfl (fun ls hl => ?_)
            refine w_loop (ι := Nat) (fun k => 27 - k) (fun k => k ≤ 27) (fun k => [(h, .inr (7, mO a rd mn tp os ty sz)), (a 3, .inl (G.2.1, 56, .inl (fun j_ => nI (tbV 3 j_)))), (a 4, .inl (G.2.1, 48, .inl (fun j_ => nI (tbV 4 j_)))), (a 12, .inl (G.2.1, 56, .inl (nF (shD (rotN (cdR fb d r) t) k k)))), (a 13, .inl (G.2.1, 768, .inl (fl (48 * r) (nF (skB fb d)) fq))), (b, .inl (G.2.2.1, bn, .inl fb))]) (fun k => [(8, .int (nI k)), (7, .int (nI ((rotN (cdR fb d r) t) 28))), (6, .int (nI ((rotN (cdR fb d r) t) 0))), (5, .int (nI t)), (4, .int (nI (tbV 5 r))), (3, .int (nI r)), (0, .ref h), (1, .ref b), (2, .int (nI d))]) 0 (by omega) (by simp only [shD_0]; exact hP) (by simp only [shD_0]; exact hD) hS hl ?_
            intro k H locs ls hk hP hD hS hl ih
            have hk : k ≤ 27 := hk
            have hP : va_P G.1 vwCl [(h, .inr (7, mO a rd mn tp os ty sz)), (a 3, .inl (G.2.1, 56, .inl (fun j_ => nI (tbV 3 j_)))), (a 4, .inl (G.2.1, 48, .inl (fun j_ => nI (tbV 4 j_)))), (a 12, .inl (G.2.1, 56, .inl (nF (shD (rotN (cdR fb d r) t) k k)))), (a 13, .inl (G.2.1, 768, .inl (fl (48 * r) (nF (skB fb d)) fq))), (b, .inl (G.2.2.1, bn, .inl fb))] H := hP
            have hD : va_D A [(h, .inr (7, mO a rd mn tp os ty sz)), (a 3, .inl (G.2.1, 56, .inl (fun j_ => nI (tbV 3 j_)))), (a 4, .inl (G.2.1, 48, .inl (fun j_ => nI (tbV 4 j_)))), (a 12, .inl (G.2.1, 56, .inl (nF (shD (rotN (cdR fb d r) t) k k)))), (a 13, .inl (G.2.1, 768, .inl (fl (48 * r) (nF (skB fb d)) fq))), (b, .inl (G.2.2.1, bn, .inl fb))] := hD
            have hl : lv_has ls 9 [(8, .int (nI k)), (7, .int (nI ((rotN (cdR fb d r) t) 28))), (6, .int (nI ((rotN (cdR fb d r) t) 0))), (5, .int (nI t)), (4, .int (nI (tbV 5 r))), (3, .int (nI r)), (0, .ref h), (1, .ref b), (2, .int (nI d))] := hl
            refine lv_iload hx hb dX8_desKey_116 (lv_at hl 0 rfl) ?_
            refine lv_bipush (v := nI 27) hx hb dX8_desKey_118 (by decide) ?_
            refine w_icmpN_ge (tgt := 165) hx hb (by omega) (by omega) dX8_desKey_120 (by decide) (fun h10 => ?_) (fun h10 => ?_)
            · obtain rfl : 27 = k := Eq.symm (show k = 27 from by omega)
              refine lv_aload_n hx hb dX8_desKey_165 rfl (lv_at hl 6 rfl) ?_
              refine va_get (D := G.1) (ci := 7) (v := .ref (a 12)) (C := RX8) (T := TX8) (N := 35) hx hb hts hinX8 hown hK hP 0 rfl rfl 12 (by decide) (hts (.fieldLink RX8 7 "CipherBoxModel" "cd" "[I") (by decide +kernel)) (fun _ h9 => h9) rfl dX8_desKey_166 ?_
              refine lv_bipush (v := nI 27) hx hb dX8_desKey_169 (by decide) ?_
              refine lv_iload hx hb dX8_desKey_171 (lv_at hl 2 rfl) ?_
              refine w_iast hx hb hK hP hD hS 3 rfl (by omega) (by omega) (upd (nF (shD (rotN (cdR fb d r) t) 27 27)) 27 (nI ((rotN (cdR fb d r) t) 0))) (rfl) dX8_desKey_173 (fun H locs hP hD hS => ?_)
              have hP : va_P G.1 vwCl [(h, .inr (7, mO a rd mn tp os ty sz)), (a 3, .inl (G.2.1, 56, .inl (fun j_ => nI (tbV 3 j_)))), (a 4, .inl (G.2.1, 48, .inl (fun j_ => nI (tbV 4 j_)))), (a 12, .inl (G.2.1, 56, .inl (upd (nF (shD (rotN (cdR fb d r) t) 27 27)) 27 (nI ((rotN (cdR fb d r) t) 0))))), (a 13, .inl (G.2.1, 768, .inl (fl (48 * r) (nF (skB fb d)) fq))), (b, .inl (G.2.2.1, bn, .inl fb))] H := hP
              have hD : va_D A [(h, .inr (7, mO a rd mn tp os ty sz)), (a 3, .inl (G.2.1, 56, .inl (fun j_ => nI (tbV 3 j_)))), (a 4, .inl (G.2.1, 48, .inl (fun j_ => nI (tbV 4 j_)))), (a 12, .inl (G.2.1, 56, .inl (upd (nF (shD (rotN (cdR fb d r) t) 27 27)) 27 (nI ((rotN (cdR fb d r) t) 0))))), (a 13, .inl (G.2.1, 768, .inl (fl (48 * r) (nF (skB fb d)) fq))), (b, .inl (G.2.2.1, bn, .inl fb))] := hD
              refine lv_aload_n hx hb dX8_desKey_174 rfl (lv_at hl 6 rfl) ?_
              refine va_get (D := G.1) (ci := 7) (v := .ref (a 12)) (C := RX8) (T := TX8) (N := 35) hx hb hts hinX8 hown hK hP 0 rfl rfl 12 (by decide) (hts (.fieldLink RX8 7 "CipherBoxModel" "cd" "[I") (by decide +kernel)) (fun _ h9 => h9) rfl dX8_desKey_175 ?_
              refine lv_bipush (v := nI 55) hx hb dX8_desKey_178 (by decide) ?_
              refine lv_iload hx hb dX8_desKey_180 (lv_at hl 1 rfl) ?_
              refine w_iast hx hb hK hP hD hS 3 rfl (by omega) (by omega) (upd (upd (nF (shD (rotN (cdR fb d r) t) 27 27)) 27 (nI ((rotN (cdR fb d r) t) 0))) 55 (nI ((rotN (cdR fb d r) t) 28))) (rfl) dX8_desKey_182 (fun H locs hP hD hS => ?_)
              have hP : va_P G.1 vwCl [(h, .inr (7, mO a rd mn tp os ty sz)), (a 3, .inl (G.2.1, 56, .inl (fun j_ => nI (tbV 3 j_)))), (a 4, .inl (G.2.1, 48, .inl (fun j_ => nI (tbV 4 j_)))), (a 12, .inl (G.2.1, 56, .inl (upd (upd (nF (shD (rotN (cdR fb d r) t) 27 27)) 27 (nI ((rotN (cdR fb d r) t) 0))) 55 (nI ((rotN (cdR fb d r) t) 28))))), (a 13, .inl (G.2.1, 768, .inl (fl (48 * r) (nF (skB fb d)) fq))), (b, .inl (G.2.2.1, bn, .inl fb))] H := hP
              have hD : va_D A [(h, .inr (7, mO a rd mn tp os ty sz)), (a 3, .inl (G.2.1, 56, .inl (fun j_ => nI (tbV 3 j_)))), (a 4, .inl (G.2.1, 48, .inl (fun j_ => nI (tbV 4 j_)))), (a 12, .inl (G.2.1, 56, .inl (upd (upd (nF (shD (rotN (cdR fb d r) t) 27 27)) 27 (nI ((rotN (cdR fb d r) t) 0))) 55 (nI ((rotN (cdR fb d r) t) 28))))), (a 13, .inl (G.2.1, 768, .inl (fl (48 * r) (nF (skB fb d)) fq))), (b, .inl (G.2.2.1, bn, .inl fb))] := hD
              have hP := w_ext (upd (upd (nF (shD (rotN (cdR fb d r) t) 27 27)) 27 (nI ((rotN (cdR fb d r) t) 0))) 55 (nI ((rotN (cdR fb d r) t) 28))) (nF (rotN (cdR fb d r) (t + 1))) 3 hP rfl (fun j hj => rot_e hj)
              have hD := hD.set (p := 3) (e := .inl (G.2.1, 56, .inl (nF (rotN (cdR fb d r) (t + 1))))) rfl
              have hP : va_P G.1 vwCl [(h, .inr (7, mO a rd mn tp os ty sz)), (a 3, .inl (G.2.1, 56, .inl (fun j_ => nI (tbV 3 j_)))), (a 4, .inl (G.2.1, 48, .inl (fun j_ => nI (tbV 4 j_)))), (a 12, .inl (G.2.1, 56, .inl (nF (rotN (cdR fb d r) (t + 1))))), (a 13, .inl (G.2.1, 768, .inl (fl (48 * r) (nF (skB fb d)) fq))), (b, .inl (G.2.2.1, bn, .inl fb))] H := hP
              have hD : va_D A [(h, .inr (7, mO a rd mn tp os ty sz)), (a 3, .inl (G.2.1, 56, .inl (fun j_ => nI (tbV 3 j_)))), (a 4, .inl (G.2.1, 48, .inl (fun j_ => nI (tbV 4 j_)))), (a 12, .inl (G.2.1, 56, .inl (nF (rotN (cdR fb d r) (t + 1))))), (a 13, .inl (G.2.1, 768, .inl (fl (48 * r) (nF (skB fb d)) fq))), (b, .inl (G.2.2.1, bn, .inl fb))] := hD
              refine lv_iinc (v := nI (t + 1)) (lv' := [(5, .int (nI (t + 1))), (8, .int (nI 27)), (7, .int (nI ((rotN (cdR fb d r) t) 28))), (6, .int (nI ((rotN (cdR fb d r) t) 0))), (4, .int (nI (tbV 5 r))), (3, .int (nI r)), (0, .ref h), (1, .ref b), (2, .int (nI d))]) hx hb dX8_desKey_183 hl (k := 3) rfl (nI_add t 1) (by decide) rfl (fun ls hl => ?_)
              refine lv_goto (tgt := 89) hx hb dX8_desKey_186 (by decide) ?_
              exact iht (t + 1) H _ _ (by omega) (by omega) hP hD hS (lv_sub hl [0, 4, 5, 6, 7, 8] rfl)
            · refine lv_aload_n hx hb dX8_desKey_123 rfl (lv_at hl 6 rfl) ?_
              refine va_get (D := G.1) (ci := 7) (v := .ref (a 12)) (C := RX8) (T := TX8) (N := 35) hx hb hts hinX8 hown hK hP 0 rfl rfl 12 (by decide) (hts (.fieldLink RX8 7 "CipherBoxModel" "cd" "[I") (by decide +kernel)) (fun _ h9 => h9) rfl dX8_desKey_124 ?_
              refine lv_iload hx hb dX8_desKey_127 (lv_at hl 0 rfl) ?_
              refine lv_aload_n hx hb dX8_desKey_129 rfl (lv_at hl 6 rfl) ?_
              refine va_get (D := G.1) (ci := 7) (v := .ref (a 12)) (C := RX8) (T := TX8) (N := 35) hx hb hts hinX8 hown hK hP 0 rfl rfl 12 (by decide) (hts (.fieldLink RX8 7 "CipherBoxModel" "cd" "[I") (by decide +kernel)) (fun _ h9 => h9) rfl dX8_desKey_130 ?_
              refine lv_iload hx hb dX8_desKey_133 (lv_at hl 0 rfl) ?_
              refine lv_iconst (v := nI 1) hx hb dX8_desKey_135 (by decide) ?_
              refine w_iaddN hx hb dX8_desKey_136 ?_
              refine w_iald hx hb hK hP 3 rfl (by omega) (by omega) dX8_desKey_137 ?_
              refine w_top (nI ((rotN (cdR fb d r) t) (k + 1))) (shD_r (by omega) (Or.inl (by omega))) ?_
              refine w_iast hx hb hK hP hD hS 3 rfl (by omega) (by omega) (nF (shD (rotN (cdR fb d r) t) (k + 1) k)) (shD_a (by omega)) dX8_desKey_138 (fun H locs hP hD hS => ?_)
              have hP : va_P G.1 vwCl [(h, .inr (7, mO a rd mn tp os ty sz)), (a 3, .inl (G.2.1, 56, .inl (fun j_ => nI (tbV 3 j_)))), (a 4, .inl (G.2.1, 48, .inl (fun j_ => nI (tbV 4 j_)))), (a 12, .inl (G.2.1, 56, .inl (nF (shD (rotN (cdR fb d r) t) (k + 1) k)))), (a 13, .inl (G.2.1, 768, .inl (fl (48 * r) (nF (skB fb d)) fq))), (b, .inl (G.2.2.1, bn, .inl fb))] H := hP
              have hD : va_D A [(h, .inr (7, mO a rd mn tp os ty sz)), (a 3, .inl (G.2.1, 56, .inl (fun j_ => nI (tbV 3 j_)))), (a 4, .inl (G.2.1, 48, .inl (fun j_ => nI (tbV 4 j_)))), (a 12, .inl (G.2.1, 56, .inl (nF (shD (rotN (cdR fb d r) t) (k + 1) k)))), (a 13, .inl (G.2.1, 768, .inl (fl (48 * r) (nF (skB fb d)) fq))), (b, .inl (G.2.2.1, bn, .inl fb))] := hD
              refine lv_aload_n hx hb dX8_desKey_139 rfl (lv_at hl 6 rfl) ?_
              refine va_get (D := G.1) (ci := 7) (v := .ref (a 12)) (C := RX8) (T := TX8) (N := 35) hx hb hts hinX8 hown hK hP 0 rfl rfl 12 (by decide) (hts (.fieldLink RX8 7 "CipherBoxModel" "cd" "[I") (by decide +kernel)) (fun _ h9 => h9) rfl dX8_desKey_140 ?_
              refine lv_bipush (v := nI 28) hx hb dX8_desKey_143 (by decide) ?_
              refine lv_iload hx hb dX8_desKey_145 (lv_at hl 0 rfl) ?_
              refine w_iaddN hx hb dX8_desKey_147 ?_
              refine lv_aload_n hx hb dX8_desKey_148 rfl (lv_at hl 6 rfl) ?_
              refine va_get (D := G.1) (ci := 7) (v := .ref (a 12)) (C := RX8) (T := TX8) (N := 35) hx hb hts hinX8 hown hK hP 0 rfl rfl 12 (by decide) (hts (.fieldLink RX8 7 "CipherBoxModel" "cd" "[I") (by decide +kernel)) (fun _ h9 => h9) rfl dX8_desKey_149 ?_
              refine lv_bipush (v := nI 29) hx hb dX8_desKey_152 (by decide) ?_
              refine lv_iload hx hb dX8_desKey_154 (lv_at hl 0 rfl) ?_
              refine w_iaddN hx hb dX8_desKey_156 ?_
              refine w_iald hx hb hK hP 3 rfl (by omega) (by omega) dX8_desKey_157 ?_
              refine w_top (nI ((rotN (cdR fb d r) t) (29 + k))) (shD_r (by omega) (Or.inr (by omega))) ?_
              refine w_iast hx hb hK hP hD hS 3 rfl (by omega) (by omega) (nF (shD (rotN (cdR fb d r) t) (k + 1) (k + 1))) (shD_b (by omega)) dX8_desKey_158 (fun H locs hP hD hS => ?_)
              have hP : va_P G.1 vwCl [(h, .inr (7, mO a rd mn tp os ty sz)), (a 3, .inl (G.2.1, 56, .inl (fun j_ => nI (tbV 3 j_)))), (a 4, .inl (G.2.1, 48, .inl (fun j_ => nI (tbV 4 j_)))), (a 12, .inl (G.2.1, 56, .inl (nF (shD (rotN (cdR fb d r) t) (k + 1) (k + 1))))), (a 13, .inl (G.2.1, 768, .inl (fl (48 * r) (nF (skB fb d)) fq))), (b, .inl (G.2.2.1, bn, .inl fb))] H := hP
              have hD : va_D A [(h, .inr (7, mO a rd mn tp os ty sz)), (a 3, .inl (G.2.1, 56, .inl (fun j_ => nI (tbV 3 j_)))), (a 4, .inl (G.2.1, 48, .inl (fun j_ => nI (tbV 4 j_)))), (a 12, .inl (G.2.1, 56, .inl (nF (shD (rotN (cdR fb d r) t) (k + 1) (k + 1))))), (a 13, .inl (G.2.1, 768, .inl (fl (48 * r) (nF (skB fb d)) fq))), (b, .inl (G.2.2.1, bn, .inl fb))] := hD
              refine lv_iinc (v := nI (k + 1)) (lv' := [(8, .int (nI (k + 1))), (7, .int (nI ((rotN (cdR fb d r) t) 28))), (6, .int (nI ((rotN (cdR fb d r) t) 0))), (5, .int (nI t)), (4, .int (nI (tbV 5 r))), (3, .int (nI r)), (0, .ref h), (1, .ref b), (2, .int (nI d))]) hx hb dX8_desKey_159 hl (k := 0) rfl (nI_add k 1) (by decide) rfl (fun ls hl => ?_)
              refine lv_goto (tgt := 116) hx hb dX8_desKey_162 (by decide) ?_
              exact ih (k + 1) H _ _ (by omega) (by omega) hP hD hS (lv_sub hl [0, 1, 2, 3, 4, 5, 6, 7, 8] rfl)
        · refine lv_iload_n hx hb dX8_desKey_67 rfl (lv_at hl 0 rfl) ?_
          refine lv_bipush (v := nI 8) hx hb dX8_desKey_68 (by decide) ?_
          refine w_icmpN_eq (tgt := 79) hx hb (by omega) (by omega) dX8_desKey_70 (by decide) (fun h11 => ?_) (fun h11 => ?_)
          · refine lv_iconst (v := nI 1) hx hb dX8_desKey_79 (by decide) ?_
            refine lv_goto (tgt := 84) hx hb dX8_desKey_80 (by decide) ?_
            refine lv_istore (lv' := [(4, .int (nI 1)), (3, .int (nI r)), (0, .ref h), (1, .ref b), (2, .int (nI d))]) hx hb dX8_desKey_84 hl (by decide) rfl (fun ls hl => ?_)
            have hl : lv_has ls 9 [(4, .int (nI (tbV 5 r))), (3, .int (nI r)), (0, .ref h), (1, .ref b), (2, .int (nI d))] := by have h9 := hl; rw [show nI 1 = nI (tbV 5 r) by rw [sh5 r (by omega), if_pos (by omega)]] at h9; exact h9
            refine lv_iconst (v := nI 0) hx hb dX8_desKey_86 (by decide) ?_
            refine lv_istore (lv' := [(5, .int (nI 0)), (4, .int (nI (tbV 5 r))), (3, .int (nI r)), (0, .ref h), (1, .ref b), (2, .int (nI d))]) hx hb dX8_desKey_87 hl (by decide) rfl (fun ls hl => ?_)
            refine w_loop (ι := Nat) (fun t => tbV 5 r - t) (fun t => t ≤ tbV 5 r) (fun t => [(h, .inr (7, mO a rd mn tp os ty sz)), (a 3, .inl (G.2.1, 56, .inl (fun j_ => nI (tbV 3 j_)))), (a 4, .inl (G.2.1, 48, .inl (fun j_ => nI (tbV 4 j_)))), (a 12, .inl (G.2.1, 56, .inl (nF (rotN (cdR fb d r) t)))), (a 13, .inl (G.2.1, 768, .inl (fl (48 * r) (nF (skB fb d)) fq))), (b, .inl (G.2.2.1, bn, .inl fb))]) (fun t => [(5, .int (nI t)), (4, .int (nI (tbV 5 r))), (3, .int (nI r)), (0, .ref h), (1, .ref b), (2, .int (nI d))]) 0 (Nat.zero_le _) hP hD hS hl ?_
            intro t H locs ls ht hP hD hS hl iht
            have ht : t ≤ tbV 5 r := ht
            have hP : va_P G.1 vwCl [(h, .inr (7, mO a rd mn tp os ty sz)), (a 3, .inl (G.2.1, 56, .inl (fun j_ => nI (tbV 3 j_)))), (a 4, .inl (G.2.1, 48, .inl (fun j_ => nI (tbV 4 j_)))), (a 12, .inl (G.2.1, 56, .inl (nF (rotN (cdR fb d r) t)))), (a 13, .inl (G.2.1, 768, .inl (fl (48 * r) (nF (skB fb d)) fq))), (b, .inl (G.2.2.1, bn, .inl fb))] H := hP
            have hD : va_D A [(h, .inr (7, mO a rd mn tp os ty sz)), (a 3, .inl (G.2.1, 56, .inl (fun j_ => nI (tbV 3 j_)))), (a 4, .inl (G.2.1, 48, .inl (fun j_ => nI (tbV 4 j_)))), (a 12, .inl (G.2.1, 56, .inl (nF (rotN (cdR fb d r) t)))), (a 13, .inl (G.2.1, 768, .inl (fl (48 * r) (nF (skB fb d)) fq))), (b, .inl (G.2.2.1, bn, .inl fb))] := hD
            have hl : lv_has ls 9 [(5, .int (nI t)), (4, .int (nI (tbV 5 r))), (3, .int (nI r)), (0, .ref h), (1, .ref b), (2, .int (nI d))] := hl
            refine lv_iload hx hb dX8_desKey_89 (lv_at hl 0 rfl) ?_
            refine lv_iload hx hb dX8_desKey_91 (lv_at hl 1 rfl) ?_
            refine w_icmpN_ge (tgt := 189) hx hb (by omega) (by omega) dX8_desKey_93 (by decide) (fun h12 => ?_) (fun h12 => ?_)
            · obtain rfl : tbV 5 r = t := Eq.symm (show t = tbV 5 r from by omega)
              have hP : va_P G.1 vwCl [(h, .inr (7, mO a rd mn tp os ty sz)), (a 3, .inl (G.2.1, 56, .inl (fun j_ => nI (tbV 3 j_)))), (a 4, .inl (G.2.1, 48, .inl (fun j_ => nI (tbV 4 j_)))), (a 12, .inl (G.2.1, 56, .inl (nF (cdR fb d (r + 1))))), (a 13, .inl (G.2.1, 768, .inl (fl (48 * r) (nF (skB fb d)) fq))), (b, .inl (G.2.2.1, bn, .inl fb))] H := hP
              have hD : va_D A [(h, .inr (7, mO a rd mn tp os ty sz)), (a 3, .inl (G.2.1, 56, .inl (fun j_ => nI (tbV 3 j_)))), (a 4, .inl (G.2.1, 48, .inl (fun j_ => nI (tbV 4 j_)))), (a 12, .inl (G.2.1, 56, .inl (nF (cdR fb d (r + 1))))), (a 13, .inl (G.2.1, 768, .inl (fl (48 * r) (nF (skB fb d)) fq))), (b, .inl (G.2.2.1, bn, .inl fb))] := hD
              refine lv_iconst (v := nI 0) hx hb dX8_desKey_189 (by decide) ?_
              refine lv_istore (lv' := [(5, .int (nI 0)), (4, .int (nI (tbV 5 r))), (3, .int (nI r)), (0, .ref h), (1, .ref b), (2, .int (nI d))]) hx hb dX8_desKey_190 hl (by decide) rfl (fun ls hl => ?_)
              refine w_loop (ι := Nat) (fun k => 48 - k) (fun k => k ≤ 48) (fun k => [(h, .inr (7, mO a rd mn tp os ty sz)), (a 3, .inl (G.2.1, 56, .inl (fun j_ => nI (tbV 3 j_)))), (a 4, .inl (G.2.1, 48, .inl (fun j_ => nI (tbV 4 j_)))), (a 12, .inl (G.2.1, 56, .inl (nF (cdR fb d (r + 1))))), (a 13, .inl (G.2.1, 768, .inl (fl (48 * r + k) (nF (skB fb d)) fq))), (b, .inl (G.2.2.1, bn, .inl fb))]) (fun k => [(5, .int (nI k)), (4, .int (nI (tbV 5 r))), (3, .int (nI r)), (0, .ref h), (1, .ref b), (2, .int (nI d))]) 0 (by omega) hP hD hS hl ?_
              intro k H locs ls hk hP hD hS hl ih
              have hk : k ≤ 48 := hk
              have hP : va_P G.1 vwCl [(h, .inr (7, mO a rd mn tp os ty sz)), (a 3, .inl (G.2.1, 56, .inl (fun j_ => nI (tbV 3 j_)))), (a 4, .inl (G.2.1, 48, .inl (fun j_ => nI (tbV 4 j_)))), (a 12, .inl (G.2.1, 56, .inl (nF (cdR fb d (r + 1))))), (a 13, .inl (G.2.1, 768, .inl (fl (48 * r + k) (nF (skB fb d)) fq))), (b, .inl (G.2.2.1, bn, .inl fb))] H := hP
              have hD : va_D A [(h, .inr (7, mO a rd mn tp os ty sz)), (a 3, .inl (G.2.1, 56, .inl (fun j_ => nI (tbV 3 j_)))), (a 4, .inl (G.2.1, 48, .inl (fun j_ => nI (tbV 4 j_)))), (a 12, .inl (G.2.1, 56, .inl (nF (cdR fb d (r + 1))))), (a 13, .inl (G.2.1, 768, .inl (fl (48 * r + k) (nF (skB fb d)) fq))), (b, .inl (G.2.2.1, bn, .inl fb))] := hD
              have hl : lv_has ls 9 [(5, .int (nI k)), (4, .int (nI (tbV 5 r))), (3, .int (nI r)), (0, .ref h), (1, .ref b), (2, .int (nI d))] := hl
              refine lv_iload hx hb dX8_desKey_192 (lv_at hl 0 rfl) ?_
              refine lv_bipush (v := nI 48) hx hb dX8_desKey_194 (by decide) ?_
              refine w_icmpN_ge (tgt := 231) hx hb (by omega) (by omega) dX8_desKey_196 (by decide) (fun h13 => ?_) (fun h13 => ?_)
              · obtain rfl : 48 = k := Eq.symm (show k = 48 from by omega)
                refine lv_iinc (v := nI (r + 1)) (lv' := [(3, .int (nI (r + 1))), (5, .int (nI 48)), (4, .int (nI (tbV 5 r))), (0, .ref h), (1, .ref b), (2, .int (nI d))]) hx hb dX8_desKey_231 hl (k := 2) rfl (nI_add r 1) (by decide) rfl (fun ls hl => ?_)
                refine lv_goto (tgt := 52) hx hb dX8_desKey_234 (by decide) ?_
                exact ihr (r + 1) H _ _ (by omega) (by omega) hP hD hS (lv_sub hl [0, 3, 4, 5] rfl)
              · have hp := tb4_in k h13
                refine lv_aload_n hx hb dX8_desKey_199 rfl (lv_at hl 3 rfl) ?_
                refine va_get (D := G.1) (ci := 7) (v := .ref (a 13)) (C := RX8) (T := TX8) (N := 35) hx hb hts hinX8 hown hK hP 0 rfl rfl 13 (by decide) (hts (.fieldLink RX8 10 "CipherBoxModel" "subkey" "[I") (by decide +kernel)) (fun _ h9 => h9) rfl dX8_desKey_200 ?_
                refine lv_bipush (v := nI 48) hx hb dX8_desKey_203 (by decide) ?_
                refine lv_iload_n hx hb dX8_desKey_205 rfl (lv_at hl 2 rfl) ?_
                refine w_imulN hx hb dX8_desKey_206 ?_
                refine lv_iload hx hb dX8_desKey_207 (lv_at hl 0 rfl) ?_
                refine w_iaddN hx hb dX8_desKey_209 ?_
                refine lv_aload_n hx hb dX8_desKey_210 rfl (lv_at hl 3 rfl) ?_
                refine va_get (D := G.1) (ci := 7) (v := .ref (a 12)) (C := RX8) (T := TX8) (N := 35) hx hb hts hinX8 hown hK hP 0 rfl rfl 12 (by decide) (hts (.fieldLink RX8 7 "CipherBoxModel" "cd" "[I") (by decide +kernel)) (fun _ h9 => h9) rfl dX8_desKey_211 ?_
                refine lv_aload_n hx hb dX8_desKey_214 rfl (lv_at hl 3 rfl) ?_
                refine va_get (D := G.1) (ci := 7) (v := .ref (a 4)) (C := RX8) (T := TX8) (N := 35) hx hb hts hinX8 hown hK hP 0 rfl rfl 4 (by decide) (hts (.fieldLink RX8 13 "CipherBoxModel" "second" "[I") (by decide +kernel)) (fun _ h9 => h9) rfl dX8_desKey_215 ?_
                refine lv_iload hx hb dX8_desKey_218 (lv_at hl 0 rfl) ?_
                refine w_iald hx hb hK hP 2 rfl (by omega) (by omega) dX8_desKey_220 ?_
                refine w_top (nI (tbV 4 k)) (rfl) ?_
                refine lv_iconst (v := nI 1) hx hb dX8_desKey_221 (by decide) ?_
                refine w_isubN hx hb (by omega) dX8_desKey_222 ?_
                refine w_iald hx hb hK hP 3 rfl (by omega) (by omega) dX8_desKey_223 ?_
                refine w_top (nI (cdR fb d (r + 1) (tbV 4 k - 1))) (rfl) ?_
                refine w_iast hx hb hK hP hD hS 4 rfl (by omega) (by omega) (fl (48 * r + (k + 1)) (nF (skB fb d)) fq) (fl_s (k := 48 * r + k) (by show _ = nI (skB fb d (48 * r + k)); rw [skB_i (by omega)])) dX8_desKey_224 (fun H locs hP hD hS => ?_)
                have hP : va_P G.1 vwCl [(h, .inr (7, mO a rd mn tp os ty sz)), (a 3, .inl (G.2.1, 56, .inl (fun j_ => nI (tbV 3 j_)))), (a 4, .inl (G.2.1, 48, .inl (fun j_ => nI (tbV 4 j_)))), (a 12, .inl (G.2.1, 56, .inl (nF (cdR fb d (r + 1))))), (a 13, .inl (G.2.1, 768, .inl (fl (48 * r + (k + 1)) (nF (skB fb d)) fq))), (b, .inl (G.2.2.1, bn, .inl fb))] H := hP
                have hD : va_D A [(h, .inr (7, mO a rd mn tp os ty sz)), (a 3, .inl (G.2.1, 56, .inl (fun j_ => nI (tbV 3 j_)))), (a 4, .inl (G.2.1, 48, .inl (fun j_ => nI (tbV 4 j_)))), (a 12, .inl (G.2.1, 56, .inl (nF (cdR fb d (r + 1))))), (a 13, .inl (G.2.1, 768, .inl (fl (48 * r + (k + 1)) (nF (skB fb d)) fq))), (b, .inl (G.2.2.1, bn, .inl fb))] := hD
                refine lv_iinc (v := nI (k + 1)) (lv' := [(5, .int (nI (k + 1))), (4, .int (nI (tbV 5 r))), (3, .int (nI r)), (0, .ref h), (1, .ref b), (2, .int (nI d))]) hx hb dX8_desKey_225 hl (k := 0) rfl (nI_add k 1) (by decide) rfl (fun ls hl => ?_)
                refine lv_goto (tgt := 192) hx hb dX8_desKey_228 (by decide) ?_
                exact ih (k + 1) H _ _ (by omega) (by omega) hP hD hS (lv_sub hl [0, 1, 2, 3, 4, 5] rfl)
            · refine lv_aload_n hx hb dX8_desKey_96 rfl (lv_at hl 3 rfl) ?_
              refine va_get (D := G.1) (ci := 7) (v := .ref (a 12)) (C := RX8) (T := TX8) (N := 35) hx hb hts hinX8 hown hK hP 0 rfl rfl 12 (by decide) (hts (.fieldLink RX8 7 "CipherBoxModel" "cd" "[I") (by decide +kernel)) (fun _ h9 => h9) rfl dX8_desKey_97 ?_
              refine lv_iconst (v := nI 0) hx hb dX8_desKey_100 (by decide) ?_
              refine w_iald hx hb hK hP 3 rfl (by omega) (by omega) dX8_desKey_101 ?_
              refine w_top (nI ((rotN (cdR fb d r) t) 0)) (rfl) ?_
              refine lv_istore (lv' := [(6, .int (nI ((rotN (cdR fb d r) t) 0))), (5, .int (nI t)), (4, .int (nI (tbV 5 r))), (3, .int (nI r)), (0, .ref h), (1, .ref b), (2, .int (nI d))]) hx hb dX8_desKey_102 hl (by decide) rfl (fun ls hl => ?_)
              refine lv_aload_n hx hb dX8_desKey_104 rfl (lv_at hl 4 rfl) ?_
              refine va_get (D := G.1) (ci := 7) (v := .ref (a 12)) (C := RX8) (T := TX8) (N := 35) hx hb hts hinX8 hown hK hP 0 rfl rfl 12 (by decide) (hts (.fieldLink RX8 7 "CipherBoxModel" "cd" "[I") (by decide +kernel)) (fun _ h9 => h9) rfl dX8_desKey_105 ?_
              refine lv_bipush (v := nI 28) hx hb dX8_desKey_108 (by decide) ?_
              refine w_iald hx hb hK hP 3 rfl (by omega) (by omega) dX8_desKey_110 ?_
              refine w_top (nI ((rotN (cdR fb d r) t) 28)) (rfl) ?_
              refine lv_istore (lv' := [(7, .int (nI ((rotN (cdR fb d r) t) 28))), (6, .int (nI ((rotN (cdR fb d r) t) 0))), (5, .int (nI t)), (4, .int (nI (tbV 5 r))), (3, .int (nI r)), (0, .ref h), (1, .ref b), (2, .int (nI d))]) hx hb dX8_desKey_111 hl (by decide) rfl (fun ls hl => ?_)
              refine lv_iconst (v := nI 0) hx hb dX8_desKey_113 (by decide) ?_
              refine lv_istore (lv' := [(8, .int (nI 0)), (7, .int (nI ((rotN (cdR fb d r) t) 28))), (6, .int (nI ((rotN (cdR fb d r) t) 0))), (5, .int (nI t)), (4, .int (nI (tbV 5 r))), (3, .int (nI r)), (0, .ref h), (1, .ref b), (2, .int (nI d))]) hx hb dX8_desKey_114 hl (by decide) rfl (fun ls hl => ?_)
              refine w_loop (ι := Nat) (fun k => 27 - k) (fun k => k ≤ 27) (fun k => [(h, .inr (7, mO a rd mn tp os ty sz)), (a 3, .inl (G.2.1, 56, .inl (fun j_ => nI (tbV 3 j_)))), (a 4, .inl (G.2.1, 48, .inl (fun j_ => nI (tbV 4 j_)))), (a 12, .inl (G.2.1, 56, .inl (nF (shD (rotN (cdR fb d r) t) k k)))), (a 13, .inl (G.2.1, 768, .inl (fl (48 * r) (nF (skB fb d)) fq))), (b, .inl (G.2.2.1, bn, .inl fb))]) (fun k => [(8, .int (nI k)), (7, .int (nI ((rotN (cdR fb d r) t) 28))), (6, .int (nI ((rotN (cdR fb d r) t) 0))), (5, .int (nI t)), (4, .int (nI (tbV 5 r))), (3, .int (nI r)), (0, .ref h), (1, .ref b), (2, .int (nI d))]) 0 (by omega) (by simp only [shD_0]; exact hP) (by simp only [shD_0]; exact hD) hS hl ?_
              intro k H locs ls hk hP hD hS hl ih
              have hk : k ≤ 27 := hk
              have hP : va_P G.1 vwCl [(h, .inr (7, mO a rd mn tp os ty sz)), (a 3, .inl (G.2.1, 56, .inl (fun j_ => nI (tbV 3 j_)))), (a 4, .inl (G.2.1, 48, .inl (fun j_ => nI (tbV 4 j_)))), (a 12, .inl (G.2.1, 56, .inl (nF (shD (rotN (cdR fb d r) t) k k)))), (a 13, .inl (G.2.1, 768, .inl (fl (48 * r) (nF (skB fb d)) fq))), (b, .inl (G.2.2.1, bn, .inl fb))] H := hP
              have hD : va_D A [(h, .inr (7, mO a rd mn tp os ty sz)), (a 3, .inl (G.2.1, 56, .inl (fun j_ => nI (tbV 3 j_)))), (a 4, .inl (G.2.1, 48, .inl (fun j_ => nI (tbV 4 j_)))), (a 12, .inl (G.2.1, 56, .inl (nF (shD (rotN (cdR fb d r) t) k k)))), (a 13, .inl (G.2.1, 768, .inl (fl (48 * r) (nF (skB fb d)) fq))), (b, .inl (G.2.2.1, bn, .inl fb))] := hD
              have hl : lv_has ls 9 [(8, .int (nI k)), (7, .int (nI ((rotN (cdR fb d r) t) 28))), (6, .int (nI ((rotN (cdR fb d r) t) 0))), (5, .int (nI t)), (4, .int (nI (tbV 5 r))), (3, .int (nI r)), (0, .ref h), (1, .ref b), (2, .int (nI d))] := hl
              refine lv_iload hx hb dX8_desKey_116 (lv_at hl 0 rfl) ?_
              refine lv_bipush (v := nI 27) hx hb dX8_desKey_118 (by decide) ?_
              refine w_icmpN_ge (tgt := 165) hx hb (by omega) (by omega) dX8_desKey_120 (by decide) (fun h14 => ?_) (fun h14 => ?_)
              · obtain rfl : 27 = k := Eq.symm (show k = 27 from by omega)
                refine lv_aload_n hx hb dX8_desKey_165 rfl (lv_at hl 6 rfl) ?_
                refine va_get (D := G.1) (ci := 7) (v := .ref (a 12)) (C := RX8) (T := TX8) (N := 35) hx hb hts hinX8 hown hK hP 0 rfl rfl 12 (by decide) (hts (.fieldLink RX8 7 "CipherBoxModel" "cd" "[I") (by decide +kernel)) (fun _ h9 => h9) rfl dX8_desKey_166 ?_
                refine lv_bipush (v := nI 27) hx hb dX8_desKey_169 (by decide) ?_
                refine lv_iload hx hb dX8_desKey_171 (lv_at hl 2 rfl) ?_
                refine w_iast hx hb hK hP hD hS 3 rfl (by omega) (by omega) (upd (nF (shD (rotN (cdR fb d r) t) 27 27)) 27 (nI ((rotN (cdR fb d r) t) 0))) (rfl) dX8_desKey_173 (fun H locs hP hD hS => ?_)
                have hP : va_P G.1 vwCl [(h, .inr (7, mO a rd mn tp os ty sz)), (a 3, .inl (G.2.1, 56, .inl (fun j_ => nI (tbV 3 j_)))), (a 4, .inl (G.2.1, 48, .inl (fun j_ => nI (tbV 4 j_)))), (a 12, .inl (G.2.1, 56, .inl (upd (nF (shD (rotN (cdR fb d r) t) 27 27)) 27 (nI ((rotN (cdR fb d r) t) 0))))), (a 13, .inl (G.2.1, 768, .inl (fl (48 * r) (nF (skB fb d)) fq))), (b, .inl (G.2.2.1, bn, .inl fb))] H := hP
                have hD : va_D A [(h, .inr (7, mO a rd mn tp os ty sz)), (a 3, .inl (G.2.1, 56, .inl (fun j_ => nI (tbV 3 j_)))), (a 4, .inl (G.2.1, 48, .inl (fun j_ => nI (tbV 4 j_)))), (a 12, .inl (G.2.1, 56, .inl (upd (nF (shD (rotN (cdR fb d r) t) 27 27)) 27 (nI ((rotN (cdR fb d r) t) 0))))), (a 13, .inl (G.2.1, 768, .inl (fl (48 * r) (nF (skB fb d)) fq))), (b, .inl (G.2.2.1, bn, .inl fb))] := hD
                refine lv_aload_n hx hb dX8_desKey_174 rfl (lv_at hl 6 rfl) ?_
                refine va_get (D := G.1) (ci := 7) (v := .ref (a 12)) (C := RX8) (T := TX8) (N := 35) hx hb hts hinX8 hown hK hP 0 rfl rfl 12 (by decide) (hts (.fieldLink RX8 7 "CipherBoxModel" "cd" "[I") (by decide +kernel)) (fun _ h9 => h9) rfl dX8_desKey_175 ?_
                refine lv_bipush (v := nI 55) hx hb dX8_desKey_178 (by decide) ?_
                refine lv_iload hx hb dX8_desKey_180 (lv_at hl 1 rfl) ?_
                refine w_iast hx hb hK hP hD hS 3 rfl (by omega) (by omega) (upd (upd (nF (shD (rotN (cdR fb d r) t) 27 27)) 27 (nI ((rotN (cdR fb d r) t) 0))) 55 (nI ((rotN (cdR fb d r) t) 28))) (rfl) dX8_desKey_182 (fun H locs hP hD hS => ?_)
                have hP : va_P G.1 vwCl [(h, .inr (7, mO a rd mn tp os ty sz)), (a 3, .inl (G.2.1, 56, .inl (fun j_ => nI (tbV 3 j_)))), (a 4, .inl (G.2.1, 48, .inl (fun j_ => nI (tbV 4 j_)))), (a 12, .inl (G.2.1, 56, .inl (upd (upd (nF (shD (rotN (cdR fb d r) t) 27 27)) 27 (nI ((rotN (cdR fb d r) t) 0))) 55 (nI ((rotN (cdR fb d r) t) 28))))), (a 13, .inl (G.2.1, 768, .inl (fl (48 * r) (nF (skB fb d)) fq))), (b, .inl (G.2.2.1, bn, .inl fb))] H := hP
                have hD : va_D A [(h, .inr (7, mO a rd mn tp os ty sz)), (a 3, .inl (G.2.1, 56, .inl (fun j_ => nI (tbV 3 j_)))), (a 4, .inl (G.2.1, 48, .inl (fun j_ => nI (tbV 4 j_)))), (a 12, .inl (G.2.1, 56, .inl (upd (upd (nF (shD (rotN (cdR fb d r) t) 27 27)) 27 (nI ((rotN (cdR fb d r) t) 0))) 55 (nI ((rotN (cdR fb d r) t) 28))))), (a 13, .inl (G.2.1, 768, .inl (fl (48 * r) (nF (skB fb d)) fq))), (b, .inl (G.2.2.1, bn, .inl fb))] := hD
                have hP := w_ext (upd (upd (nF (shD (rotN (cdR fb d r) t) 27 27)) 27 (nI ((rotN (cdR fb d r) t) 0))) 55 (nI ((rotN (cdR fb d r) t) 28))) (nF (rotN (cdR fb d r) (t + 1))) 3 hP rfl (fun j hj => rot_e hj)
                have hD := hD.set (p := 3) (e := .inl (G.2.1, 56, .inl (nF (rotN (cdR fb d r) (t + 1))))) rfl
                have hP : va_P G.1 vwCl [(h, .inr (7, mO a rd mn tp os ty sz)), (a 3, .inl (G.2.1, 56, .inl (fun j_ => nI (tbV 3 j_)))), (a 4, .inl (G.2.1, 48, .inl (fun j_ => nI (tbV 4 j_)))), (a 12, .inl (G.2.1, 56, .inl (nF (rotN (cdR fb d r) (t + 1))))), (a 13, .inl (G.2.1, 768, .inl (fl (48 * r) (nF (skB fb d)) fq))), (b, .inl (G.2.2.1, bn, .inl fb))] H := hP
                have hD : va_D A [(h, .inr (7, mO a rd mn tp os ty sz)), (a 3, .inl (G.2.1, 56, .inl (fun j_ => nI (tbV 3 j_)))), (a 4, .inl (G.2.1, 48, .inl (fun j_ => nI (tbV 4 j_)))), (a 12, .inl (G.2.1, 56, .inl (nF (rotN (cdR fb d r) (t + 1))))), (a 13, .inl (G.2.1, 768, .inl (fl (48 * r) (nF (skB fb d)) fq))), (b, .inl (G.2.2.1, bn, .inl fb))] := hD
                refine lv_iinc (v := nI (t + 1)) (lv' := [(5, .int (nI (t + 1))), (8, .int (nI 27)), (7, .int (nI ((rotN (cdR fb d r) t) 28))), (6, .int (nI ((rotN (cdR fb d r) t) 0))), (4, .int (nI (tbV 5 r))), (3, .int (nI r)), (0, .ref h), (1, .ref b), (2, .int (nI d))]) hx hb dX8_desKey_183 hl (k := 3) rfl (nI_add t 1) (by decide) rfl (fun ls hl => ?_)
                refine lv_goto (tgt := 89) hx hb dX8_desKey_186 (by decide) ?_
                exact iht (t + 1) H _ _ (by omega) (by omega) hP hD hS (lv_sub hl [0, 4, 5, 6, 7, 8] rfl)
              · refine lv_aload_n hx hb dX8_desKey_123 rfl (lv_at hl 6 rfl) ?_
                refine va_get (D := G.1) (ci := 7) (v := .ref (a 12)) (C := RX8) (T := TX8) (N := 35) hx hb hts hinX8 hown hK hP 0 rfl rfl 12 (by decide) (hts (.fieldLink RX8 7 "CipherBoxModel" "cd" "[I") (by decide +kernel)) (fun _ h9 => h9) rfl dX8_desKey_124 ?_
                refine lv_iload hx hb dX8_desKey_127 (lv_at hl 0 rfl) ?_
                refine lv_aload_n hx hb dX8_desKey_129 rfl (lv_at hl 6 rfl) ?_
                refine va_get (D := G.1) (ci := 7) (v := .ref (a 12)) (C := RX8) (T := TX8) (N := 35) hx hb hts hinX8 hown hK hP 0 rfl rfl 12 (by decide) (hts (.fieldLink RX8 7 "CipherBoxModel" "cd" "[I") (by decide +kernel)) (fun _ h9 => h9) rfl dX8_desKey_130 ?_
                refine lv_iload hx hb dX8_desKey_133 (lv_at hl 0 rfl) ?_
                refine lv_iconst (v := nI 1) hx hb dX8_desKey_135 (by decide) ?_
                refine w_iaddN hx hb dX8_desKey_136 ?_
                refine w_iald hx hb hK hP 3 rfl (by omega) (by omega) dX8_desKey_137 ?_
                refine w_top (nI ((rotN (cdR fb d r) t) (k + 1))) (shD_r (by omega) (Or.inl (by omega))) ?_
                refine w_iast hx hb hK hP hD hS 3 rfl (by omega) (by omega) (nF (shD (rotN (cdR fb d r) t) (k + 1) k)) (shD_a (by omega)) dX8_desKey_138 (fun H locs hP hD hS => ?_)
                have hP : va_P G.1 vwCl [(h, .inr (7, mO a rd mn tp os ty sz)), (a 3, .inl (G.2.1, 56, .inl (fun j_ => nI (tbV 3 j_)))), (a 4, .inl (G.2.1, 48, .inl (fun j_ => nI (tbV 4 j_)))), (a 12, .inl (G.2.1, 56, .inl (nF (shD (rotN (cdR fb d r) t) (k + 1) k)))), (a 13, .inl (G.2.1, 768, .inl (fl (48 * r) (nF (skB fb d)) fq))), (b, .inl (G.2.2.1, bn, .inl fb))] H := hP
                have hD : va_D A [(h, .inr (7, mO a rd mn tp os ty sz)), (a 3, .inl (G.2.1, 56, .inl (fun j_ => nI (tbV 3 j_)))), (a 4, .inl (G.2.1, 48, .inl (fun j_ => nI (tbV 4 j_)))), (a 12, .inl (G.2.1, 56, .inl (nF (shD (rotN (cdR fb d r) t) (k + 1) k)))), (a 13, .inl (G.2.1, 768, .inl (fl (48 * r) (nF (skB fb d)) fq))), (b, .inl (G.2.2.1, bn, .inl fb))] := hD
                refine lv_aload_n hx hb dX8_desKey_139 rfl (lv_at hl 6 rfl) ?_
                refine va_get (D := G.1) (ci := 7) (v := .ref (a 12)) (C := RX8) (T := TX8) (N := 35) hx hb hts hinX8 hown hK hP 0 rfl rfl 12 (by decide) (hts (.fieldLink RX8 7 "CipherBoxModel" "cd" "[I") (by decide +kernel)) (fun _ h9 => h9) rfl dX8_desKey_140 ?_
                refine lv_bipush (v := nI 28) hx hb dX8_desKey_143 (by decide) ?_
                refine lv_iload hx hb dX8_desKey_145 (lv_at hl 0 rfl) ?_
                refine w_iaddN hx hb dX8_desKey_147 ?_
                refine lv_aload_n hx hb dX8_desKey_148 rfl (lv_at hl 6 rfl) ?_
                refine va_get (D := G.1) (ci := 7) (v := .ref (a 12)) (C := RX8) (T := TX8) (N := 35) hx hb hts hinX8 hown hK hP 0 rfl rfl 12 (by decide) (hts (.fieldLink RX8 7 "CipherBoxModel" "cd" "[I") (by decide +kernel)) (fun _ h9 => h9) rfl dX8_desKey_149 ?_
                refine lv_bipush (v := nI 29) hx hb dX8_desKey_152 (by decide) ?_
                refine lv_iload hx hb dX8_desKey_154 (lv_at hl 0 rfl) ?_
                refine w_iaddN hx hb dX8_desKey_156 ?_
                refine w_iald hx hb hK hP 3 rfl (by omega) (by omega) dX8_desKey_157 ?_
                refine w_top (nI ((rotN (cdR fb d r) t) (29 + k))) (shD_r (by omega) (Or.inr (by omega))) ?_
                refine w_iast hx hb hK hP hD hS 3 rfl (by omega) (by omega) (nF (shD (rotN (cdR fb d r) t) (k + 1) (k + 1))) (shD_b (by omega)) dX8_desKey_158 (fun H locs hP hD hS => ?_)
                have hP : va_P G.1 vwCl [(h, .inr (7, mO a rd mn tp os ty sz)), (a 3, .inl (G.2.1, 56, .inl (fun j_ => nI (tbV 3 j_)))), (a 4, .inl (G.2.1, 48, .inl (fun j_ => nI (tbV 4 j_)))), (a 12, .inl (G.2.1, 56, .inl (nF (shD (rotN (cdR fb d r) t) (k + 1) (k + 1))))), (a 13, .inl (G.2.1, 768, .inl (fl (48 * r) (nF (skB fb d)) fq))), (b, .inl (G.2.2.1, bn, .inl fb))] H := hP
                have hD : va_D A [(h, .inr (7, mO a rd mn tp os ty sz)), (a 3, .inl (G.2.1, 56, .inl (fun j_ => nI (tbV 3 j_)))), (a 4, .inl (G.2.1, 48, .inl (fun j_ => nI (tbV 4 j_)))), (a 12, .inl (G.2.1, 56, .inl (nF (shD (rotN (cdR fb d r) t) (k + 1) (k + 1))))), (a 13, .inl (G.2.1, 768, .inl (fl (48 * r) (nF (skB fb d)) fq))), (b, .inl (G.2.2.1, bn, .inl fb))] := hD
                refine lv_iinc (v := nI (k + 1)) (lv' := [(8, .int (nI (k + 1))), (7, .int (nI ((rotN (cdR fb d r) t) 28))), (6, .int (nI ((rotN (cdR fb d r) t) 0))), (5, .int (nI t)), (4, .int (nI (tbV 5 r))), (3, .int (nI r)), (0, .ref h), (1, .ref b), (2, .int (nI d))]) hx hb dX8_desKey_159 hl (k := 0) rfl (nI_add k 1) (by decide) rfl (fun ls hl => ?_)
                refine lv_goto (tgt := 116) hx hb dX8_desKey_162 (by decide) ?_
                exact ih (k + 1) H _ _ (by omega) (by omega) hP hD hS (lv_sub hl [0, 1, 2, 3, 4, 5, 6, 7, 8] rfl)
          · refine lv_iload_n hx hb dX8_desKey_73 rfl (lv_at hl 0 rfl) ?_
            refine lv_bipush (v := nI 15) hx hb dX8_desKey_74 (by decide) ?_
            refine w_icmpN_ne (tgt := 83) hx hb (by omega) (by omega) dX8_desKey_76 (by decide) (fun h15 => ?_) (fun h15 => ?_)
            · refine lv_iconst (v := nI 2) hx hb dX8_desKey_83 (by decide) ?_
              refine lv_istore (lv' := [(4, .int (nI 2)), (3, .int (nI r)), (0, .ref h), (1, .ref b), (2, .int (nI d))]) hx hb dX8_desKey_84 hl (by decide) rfl (fun ls hl => ?_)
              have hl : lv_has ls 9 [(4, .int (nI (tbV 5 r))), (3, .int (nI r)), (0, .ref h), (1, .ref b), (2, .int (nI d))] := by have h9 := hl; rw [show nI 2 = nI (tbV 5 r) by rw [sh5 r (by omega), if_neg (by omega)]] at h9; exact h9
              refine lv_iconst (v := nI 0) hx hb dX8_desKey_86 (by decide) ?_
              refine lv_istore (lv' := [(5, .int (nI 0)), (4, .int (nI (tbV 5 r))), (3, .int (nI r)), (0, .ref h), (1, .ref b), (2, .int (nI d))]) hx hb dX8_desKey_87 hl (by decide) rfl (fun ls hl => ?_)
              refine w_loop (ι := Nat) (fun t => tbV 5 r - t) (fun t => t ≤ tbV 5 r) (fun t => [(h, .inr (7, mO a rd mn tp os ty sz)), (a 3, .inl (G.2.1, 56, .inl (fun j_ => nI (tbV 3 j_)))), (a 4, .inl (G.2.1, 48, .inl (fun j_ => nI (tbV 4 j_)))), (a 12, .inl (G.2.1, 56, .inl (nF (rotN (cdR fb d r) t)))), (a 13, .inl (G.2.1, 768, .inl (fl (48 * r) (nF (skB fb d)) fq))), (b, .inl (G.2.2.1, bn, .inl fb))]) (fun t => [(5, .int (nI t)), (4, .int (nI (tbV 5 r))), (3, .int (nI r)), (0, .ref h), (1, .ref b), (2, .int (nI d))]) 0 (Nat.zero_le _) hP hD hS hl ?_
              intro t H locs ls ht hP hD hS hl iht
              have ht : t ≤ tbV 5 r := ht
              have hP : va_P G.1 vwCl [(h, .inr (7, mO a rd mn tp os ty sz)), (a 3, .inl (G.2.1, 56, .inl (fun j_ => nI (tbV 3 j_)))), (a 4, .inl (G.2.1, 48, .inl (fun j_ => nI (tbV 4 j_)))), (a 12, .inl (G.2.1, 56, .inl (nF (rotN (cdR fb d r) t)))), (a 13, .inl (G.2.1, 768, .inl (fl (48 * r) (nF (skB fb d)) fq))), (b, .inl (G.2.2.1, bn, .inl fb))] H := hP
              have hD : va_D A [(h, .inr (7, mO a rd mn tp os ty sz)), (a 3, .inl (G.2.1, 56, .inl (fun j_ => nI (tbV 3 j_)))), (a 4, .inl (G.2.1, 48, .inl (fun j_ => nI (tbV 4 j_)))), (a 12, .inl (G.2.1, 56, .inl (nF (rotN (cdR fb d r) t)))), (a 13, .inl (G.2.1, 768, .inl (fl (48 * r) (nF (skB fb d)) fq))), (b, .inl (G.2.2.1, bn, .inl fb))] := hD
              have hl : lv_has ls 9 [(5, .int (nI t)), (4, .int (nI (tbV 5 r))), (3, .int (nI r)), (0, .ref h), (1, .ref b), (2, .int (nI d))] := hl
              refine lv_iload hx hb dX8_desKey_89 (lv_at hl 0 rfl) ?_
              refine lv_iload hx hb dX8_desKey_91 (lv_at hl 1 rfl) ?_
              refine w_icmpN_ge (tgt := 189) hx hb (by omega) (by omega) dX8_desKey_93 (by decide) (fun h16 => ?_) (fun h16 => ?_)
              · obtain rfl : tbV 5 r = t := Eq.symm (show t = tbV 5 r from by omega)
                have hP : va_P G.1 vwCl [(h, .inr (7, mO a rd mn tp os ty sz)), (a 3, .inl (G.2.1, 56, .inl (fun j_ => nI (tbV 3 j_)))), (a 4, .inl (G.2.1, 48, .inl (fun j_ => nI (tbV 4 j_)))), (a 12, .inl (G.2.1, 56, .inl (nF (cdR fb d (r + 1))))), (a 13, .inl (G.2.1, 768, .inl (fl (48 * r) (nF (skB fb d)) fq))), (b, .inl (G.2.2.1, bn, .inl fb))] H := hP
                have hD : va_D A [(h, .inr (7, mO a rd mn tp os ty sz)), (a 3, .inl (G.2.1, 56, .inl (fun j_ => nI (tbV 3 j_)))), (a 4, .inl (G.2.1, 48, .inl (fun j_ => nI (tbV 4 j_)))), (a 12, .inl (G.2.1, 56, .inl (nF (cdR fb d (r + 1))))), (a 13, .inl (G.2.1, 768, .inl (fl (48 * r) (nF (skB fb d)) fq))), (b, .inl (G.2.2.1, bn, .inl fb))] := hD
                refine lv_iconst (v := nI 0) hx hb dX8_desKey_189 (by decide) ?_
                refine lv_istore (lv' := [(5, .int (nI 0)), (4, .int (nI (tbV 5 r))), (3, .int (nI r)), (0, .ref h), (1, .ref b), (2, .int (nI d))]) hx hb dX8_desKey_190 hl (by decide) rfl (fun ls hl => ?_)
                refine w_loop (ι := Nat) (fun k => 48 - k) (fun k => k ≤ 48) (fun k => [(h, .inr (7, mO a rd mn tp os ty sz)), (a 3, .inl (G.2.1, 56, .inl (fun j_ => nI (tbV 3 j_)))), (a 4, .inl (G.2.1, 48, .inl (fun j_ => nI (tbV 4 j_)))), (a 12, .inl (G.2.1, 56, .inl (nF (cdR fb d (r + 1))))), (a 13, .inl (G.2.1, 768, .inl (fl (48 * r + k) (nF (skB fb d)) fq))), (b, .inl (G.2.2.1, bn, .inl fb))]) (fun k => [(5, .int (nI k)), (4, .int (nI (tbV 5 r))), (3, .int (nI r)), (0, .ref h), (1, .ref b), (2, .int (nI d))]) 0 (by omega) hP hD hS hl ?_
                intro k H locs ls hk hP hD hS hl ih
                have hk : k ≤ 48 := hk
                have hP : va_P G.1 vwCl [(h, .inr (7, mO a rd mn tp os ty sz)), (a 3, .inl (G.2.1, 56, .inl (fun j_ => nI (tbV 3 j_)))), (a 4, .inl (G.2.1, 48, .inl (fun j_ => nI (tbV 4 j_)))), (a 12, .inl (G.2.1, 56, .inl (nF (cdR fb d (r + 1))))), (a 13, .inl (G.2.1, 768, .inl (fl (48 * r + k) (nF (skB fb d)) fq))), (b, .inl (G.2.2.1, bn, .inl fb))] H := hP
                have hD : va_D A [(h, .inr (7, mO a rd mn tp os ty sz)), (a 3, .inl (G.2.1, 56, .inl (fun j_ => nI (tbV 3 j_)))), (a 4, .inl (G.2.1, 48, .inl (fun j_ => nI (tbV 4 j_)))), (a 12, .inl (G.2.1, 56, .inl (nF (cdR fb d (r + 1))))), (a 13, .inl (G.2.1, 768, .inl (fl (48 * r + k) (nF (skB fb d)) fq))), (b, .inl (G.2.2.1, bn, .inl fb))] := hD
                have hl : lv_has ls 9 [(5, .int (nI k)), (4, .int (nI (tbV 5 r))), (3, .int (nI r)), (0, .ref h), (1, .ref b), (2, .int (nI d))] := hl
                refine lv_iload hx hb dX8_desKey_192 (lv_at hl 0 rfl) ?_
                refine lv_bipush (v := nI 48) hx hb dX8_desKey_194 (by decide) ?_
                refine w_icmpN_ge (tgt := 231) hx hb (by omega) (by omega) dX8_desKey_196 (by decide) (fun h17 => ?_) (fun h17 => ?_)
                · obtain rfl : 48 = k := Eq.symm (show k = 48 from by omega)
                  refine lv_iinc (v := nI (r + 1)) (lv' := [(3, .int (nI (r + 1))), (5, .int (nI 48)), (4, .int (nI (tbV 5 r))), (0, .ref h), (1, .ref b), (2, .int (nI d))]) hx hb dX8_desKey_231 hl (k := 2) rfl (nI_add r 1) (by decide) rfl (fun ls hl => ?_)
                  refine lv_goto (tgt := 52) hx hb dX8_desKey_234 (by decide) ?_
                  exact ihr (r + 1) H _ _ (by omega) (by omega) hP hD hS (lv_sub hl [0, 3, 4, 5] rfl)
                · have hp := tb4_in k h17
                  refine lv_aload_n hx hb dX8_desKey_199 rfl (lv_at hl 3 rfl) ?_
                  refine va_get (D := G.1) (ci := 7) (v := .ref (a 13)) (C := RX8) (T := TX8) (N := 35) hx hb hts hinX8 hown hK hP 0 rfl rfl 13 (by decide) (hts (.fieldLink RX8 10 "CipherBoxModel" "subkey" "[I") (by decide +kernel)) (fun _ h9 => h9) rfl dX8_desKey_200 ?_
                  refine lv_bipush (v := nI 48) hx hb dX8_desKey_203 (by decide) ?_
                  refine lv_iload_n hx hb dX8_desKey_205 rfl (lv_at hl 2 rfl) ?_
                  refine w_imulN hx hb dX8_desKey_206 ?_
                  refine lv_iload hx hb dX8_desKey_207 (lv_at hl 0 rfl) ?_
                  refine w_iaddN hx hb dX8_desKey_209 ?_
                  refine lv_aload_n hx hb dX8_desKey_210 rfl (lv_at hl 3 rfl) ?_
                  refine va_get (D := G.1) (ci := 7) (v := .ref (a 12)) (C := RX8) (T := TX8) (N := 35) hx hb hts hinX8 hown hK hP 0 rfl rfl 12 (by decide) (hts (.fieldLink RX8 7 "CipherBoxModel" "cd" "[I") (by decide +kernel)) (fun _ h9 => h9) rfl dX8_desKey_211 ?_
                  refine lv_aload_n hx hb dX8_desKey_214 rfl (lv_at hl 3 rfl) ?_
                  refine va_get (D := G.1) (ci := 7) (v := .ref (a 4)) (C := RX8) (T := TX8) (N := 35) hx hb hts hinX8 hown hK hP 0 rfl rfl 4 (by decide) (hts (.fieldLink RX8 13 "CipherBoxModel" "second" "[I") (by decide +kernel)) (fun _ h9 => h9) rfl dX8_desKey_215 ?_
                  refine lv_iload hx hb dX8_desKey_218 (lv_at hl 0 rfl) ?_
                  refine w_iald hx hb hK hP 2 rfl (by omega) (by omega) dX8_desKey_220 ?_
                  refine w_top (nI (tbV 4 k)) (rfl) ?_
                  refine lv_iconst (v := nI 1) hx hb dX8_desKey_221 (by decide) ?_
                  refine w_isubN hx hb (by omega) dX8_desKey_222 ?_
                  refine w_iald hx hb hK hP 3 rfl (by omega) (by omega) dX8_desKey_223 ?_
                  refine w_top (nI (cdR fb d (r + 1) (tbV 4 k - 1))) (rfl) ?_
                  refine w_iast hx hb hK hP hD hS 4 rfl (by omega) (by omega) (fl (48 * r + (k + 1)) (nF (skB fb d)) fq) (fl_s (k := 48 * r + k) (by show _ = nI (skB fb d (48 * r + k)); rw [skB_i (by omega)])) dX8_desKey_224 (fun H locs hP hD hS => ?_)
                  have hP : va_P G.1 vwCl [(h, .inr (7, mO a rd mn tp os ty sz)), (a 3, .inl (G.2.1, 56, .inl (fun j_ => nI (tbV 3 j_)))), (a 4, .inl (G.2.1, 48, .inl (fun j_ => nI (tbV 4 j_)))), (a 12, .inl (G.2.1, 56, .inl (nF (cdR fb d (r + 1))))), (a 13, .inl (G.2.1, 768, .inl (fl (48 * r + (k + 1)) (nF (skB fb d)) fq))), (b, .inl (G.2.2.1, bn, .inl fb))] H := hP
                  have hD : va_D A [(h, .inr (7, mO a rd mn tp os ty sz)), (a 3, .inl (G.2.1, 56, .inl (fun j_ => nI (tbV 3 j_)))), (a 4, .inl (G.2.1, 48, .inl (fun j_ => nI (tbV 4 j_)))), (a 12, .inl (G.2.1, 56, .inl (nF (cdR fb d (r + 1))))), (a 13, .inl (G.2.1, 768, .inl (fl (48 * r + (k + 1)) (nF (skB fb d)) fq))), (b, .inl (G.2.2.1, bn, .inl fb))] := hD
                  refine lv_iinc (v := nI (k + 1)) (lv' := [(5, .int (nI (k + 1))), (4, .int (nI (tbV 5 r))), (3, .int (nI r)), (0, .ref h), (1, .ref b), (2, .int (nI d))]) hx hb dX8_desKey_225 hl (k := 0) rfl (nI_add k 1) (by decide) rfl (fun ls hl => ?_)
                  refine lv_goto (tgt := 192) hx hb dX8_desKey_228 (by decide) ?_
                  exact ih (k + 1) H _ _ (by omega) (by omega) hP hD hS (lv_sub hl [0, 1, 2, 3, 4, 5] rfl)
              · refine lv_aload_n hx hb dX8_desKey_96 rfl (lv_at hl 3 rfl) ?_
                refine va_get (D := G.1) (ci := 7) (v := .ref (a 12)) (C := RX8) (T := TX8) (N := 35) hx hb hts hinX8 hown hK hP 0 rfl rfl 12 (by decide) (hts (.fieldLink RX8 7 "CipherBoxModel" "cd" "[I") (by decide +kernel)) (fun _ h9 => h9) rfl dX8_desKey_97 ?_
                refine lv_iconst (v := nI 0) hx hb dX8_desKey_100 (by decide) ?_
                refine w_iald hx hb hK hP 3 rfl (by omega) (by omega) dX8_desKey_101 ?_
                refine w_top (nI ((rotN (cdR fb d r) t) 0)) (rfl) ?_
                refine lv_istore (lv' := [(6, .int (nI ((rotN (cdR fb d r) t) 0))), (5, .int (nI t)), (4, .int (nI (tbV 5 r))), (3, .int (nI r)), (0, .ref h), (1, .ref b), (2, .int (nI d))]) hx hb dX8_desKey_102 hl (by decide) rfl (fun ls hl => ?_)
                refine lv_aload_n hx hb dX8_desKey_104 rfl (lv_at hl 4 rfl) ?_
                refine va_get (D := G.1) (ci := 7) (v := .ref (a 12)) (C := RX8) (T := TX8) (N := 35) hx hb hts hinX8 hown hK hP 0 rfl rfl 12 (by decide) (hts (.fieldLink RX8 7 "CipherBoxModel" "cd" "[I") (by decide +kernel)) (fun _ h9 => h9) rfl dX8_desKey_105 ?_
                refine lv_bipush (v := nI 28) hx hb dX8_desKey_108 (by decide) ?_
                refine w_iald hx hb hK hP 3 rfl (by omega) (by omega) dX8_desKey_110 ?_
                refine w_top (nI ((rotN (cdR fb d r) t) 28)) (rfl) ?_
                refine lv_istore (lv' := [(7, .int (nI ((rotN (cdR fb d r) t) 28))), (6, .int (nI ((rotN (cdR fb d r) t) 0))), (5, .int (nI t)), (4, .int (nI (tbV 5 r))), (3, .int (nI r)), (0, .ref h), (1, .ref b), (2, .int (nI d))]) hx hb dX8_desKey_111 hl (by decide) rfl (fun ls hl => ?_)
                refine lv_iconst (v := nI 0) hx hb dX8_desKey_113 (by decide) ?_
                refine lv_istore (lv' := [(8, .int (nI 0)), (7, .int (nI ((rotN (cdR fb d r) t) 28))), (6, .int (nI ((rotN (cdR fb d r) t) 0))), (5, .int (nI t)), (4, .int (nI (tbV 5 r))), (3, .int (nI r)), (0, .ref h), (1, .ref b), (2, .int (nI d))]) hx hb dX8_desKey_114 hl (by decide) rfl (fun ls hl => ?_)
                refine w_loop (ι := Nat) (fun k => 27 - k) (fun k => k ≤ 27) (fun k => [(h, .inr (7, mO a rd mn tp os ty sz)), (a 3, .inl (G.2.1, 56, .inl (fun j_ => nI (tbV 3 j_)))), (a 4, .inl (G.2.1, 48, .inl (fun j_ => nI (tbV 4 j_)))), (a 12, .inl (G.2.1, 56, .inl (nF (shD (rotN (cdR fb d r) t) k k)))), (a 13, .inl (G.2.1, 768, .inl (fl (48 * r) (nF (skB fb d)) fq))), (b, .inl (G.2.2.1, bn, .inl fb))]) (fun k => [(8, .int (nI k)), (7, .int (nI ((rotN (cdR fb d r) t) 28))), (6, .int (nI ((rotN (cdR fb d r) t) 0))), (5, .int (nI t)), (4, .int (nI (tbV 5 r))), (3, .int (nI r)), (0, .ref h), (1, .ref b), (2, .int (nI d))]) 0 (by omega) (by simp only [shD_0]; exact hP) (by simp only [shD_0]; exact hD) hS hl ?_
                intro k H locs ls hk hP hD hS hl ih
                have hk : k ≤ 27 := hk
                have hP : va_P G.1 vwCl [(h, .inr (7, mO a rd mn tp os ty sz)), (a 3, .inl (G.2.1, 56, .inl (fun j_ => nI (tbV 3 j_)))), (a 4, .inl (G.2.1, 48, .inl (fun j_ => nI (tbV 4 j_)))), (a 12, .inl (G.2.1, 56, .inl (nF (shD (rotN (cdR fb d r) t) k k)))), (a 13, .inl (G.2.1, 768, .inl (fl (48 * r) (nF (skB fb d)) fq))), (b, .inl (G.2.2.1, bn, .inl fb))] H := hP
                have hD : va_D A [(h, .inr (7, mO a rd mn tp os ty sz)), (a 3, .inl (G.2.1, 56, .inl (fun j_ => nI (tbV 3 j_)))), (a 4, .inl (G.2.1, 48, .inl (fun j_ => nI (tbV 4 j_)))), (a 12, .inl (G.2.1, 56, .inl (nF (shD (rotN (cdR fb d r) t) k k)))), (a 13, .inl (G.2.1, 768, .inl (fl (48 * r) (nF (skB fb d)) fq))), (b, .inl (G.2.2.1, bn, .inl fb))] := hD
                have hl : lv_has ls 9 [(8, .int (nI k)), (7, .int (nI ((rotN (cdR fb d r) t) 28))), (6, .int (nI ((rotN (cdR fb d r) t) 0))), (5, .int (nI t)), (4, .int (nI (tbV 5 r))), (3, .int (nI r)), (0, .ref h), (1, .ref b), (2, .int (nI d))] := hl
                refine lv_iload hx hb dX8_desKey_116 (lv_at hl 0 rfl) ?_
                refine lv_bipush (v := nI 27) hx hb dX8_desKey_118 (by decide) ?_
                refine w_icmpN_ge (tgt := 165) hx hb (by omega) (by omega) dX8_desKey_120 (by decide) (fun h18 => ?_) (fun h18 => ?_)
                · obtain rfl : 27 = k := Eq.symm (show k = 27 from by omega)
                  refine lv_aload_n hx hb dX8_desKey_165 rfl (lv_at hl 6 rfl) ?_
                  refine va_get (D := G.1) (ci := 7) (v := .ref (a 12)) (C := RX8) (T := TX8) (N := 35) hx hb hts hinX8 hown hK hP 0 rfl rfl 12 (by decide) (hts (.fieldLink RX8 7 "CipherBoxModel" "cd" "[I") (by decide +kernel)) (fun _ h9 => h9) rfl dX8_desKey_166 ?_
                  refine lv_bipush (v := nI 27) hx hb dX8_desKey_169 (by decide) ?_
                  refine lv_iload hx hb dX8_desKey_171 (lv_at hl 2 rfl) ?_
                  refine w_iast hx hb hK hP hD hS 3 rfl (by omega) (by omega) (upd (nF (shD (rotN (cdR fb d r) t) 27 27)) 27 (nI ((rotN (cdR fb d r) t) 0))) (rfl) dX8_desKey_173 (fun H locs hP hD hS => ?_)
                  have hP : va_P G.1 vwCl [(h, .inr (7, mO a rd mn tp os ty sz)), (a 3, .inl (G.2.1, 56, .inl (fun j_ => nI (tbV 3 j_)))), (a 4, .inl (G.2.1, 48, .inl (fun j_ => nI (tbV 4 j_)))), (a 12, .inl (G.2.1, 56, .inl (upd (nF (shD (rotN (cdR fb d r) t) 27 27)) 27 (nI ((rotN (cdR fb d r) t) 0))))), (a 13, .inl (G.2.1, 768, .inl (fl (48 * r) (nF (skB fb d)) fq))), (b, .inl (G.2.2.1, bn, .inl fb))] H := hP
                  have hD : va_D A [(h, .inr (7, mO a rd mn tp os ty sz)), (a 3, .inl (G.2.1, 56, .inl (fun j_ => nI (tbV 3 j_)))), (a 4, .inl (G.2.1, 48, .inl (fun j_ => nI (tbV 4 j_)))), (a 12, .inl (G.2.1, 56, .inl (upd (nF (shD (rotN (cdR fb d r) t) 27 27)) 27 (nI ((rotN (cdR fb d r) t) 0))))), (a 13, .inl (G.2.1, 768, .inl (fl (48 * r) (nF (skB fb d)) fq))), (b, .inl (G.2.2.1, bn, .inl fb))] := hD
                  refine lv_aload_n hx hb dX8_desKey_174 rfl (lv_at hl 6 rfl) ?_
                  refine va_get (D := G.1) (ci := 7) (v := .ref (a 12)) (C := RX8) (T := TX8) (N := 35) hx hb hts hinX8 hown hK hP 0 rfl rfl 12 (by decide) (hts (.fieldLink RX8 7 "CipherBoxModel" "cd" "[I") (by decide +kernel)) (fun _ h9 => h9) rfl dX8_desKey_175 ?_
                  refine lv_bipush (v := nI 55) hx hb dX8_desKey_178 (by decide) ?_
                  refine lv_iload hx hb dX8_desKey_180 (lv_at hl 1 rfl) ?_
                  refine w_iast hx hb hK hP hD hS 3 rfl (by omega) (by omega) (upd (upd (nF (shD (rotN (cdR fb d r) t) 27 27)) 27 (nI ((rotN (cdR fb d r) t) 0))) 55 (nI ((rotN (cdR fb d r) t) 28))) (rfl) dX8_desKey_182 (fun H locs hP hD hS => ?_)
                  have hP : va_P G.1 vwCl [(h, .inr (7, mO a rd mn tp os ty sz)), (a 3, .inl (G.2.1, 56, .inl (fun j_ => nI (tbV 3 j_)))), (a 4, .inl (G.2.1, 48, .inl (fun j_ => nI (tbV 4 j_)))), (a 12, .inl (G.2.1, 56, .inl (upd (upd (nF (shD (rotN (cdR fb d r) t) 27 27)) 27 (nI ((rotN (cdR fb d r) t) 0))) 55 (nI ((rotN (cdR fb d r) t) 28))))), (a 13, .inl (G.2.1, 768, .inl (fl (48 * r) (nF (skB fb d)) fq))), (b, .inl (G.2.2.1, bn, .inl fb))] H := hP
                  have hD : va_D A [(h, .inr (7, mO a rd mn tp os ty sz)), (a 3, .inl (G.2.1, 56, .inl (fun j_ => nI (tbV 3 j_)))), (a 4, .inl (G.2.1, 48, .inl (fun j_ => nI (tbV 4 j_)))), (a 12, .inl (G.2.1, 56, .inl (upd (upd (nF (shD (rotN (cdR fb d r) t) 27 27)) 27 (nI ((rotN (cdR fb d r) t) 0))) 55 (nI ((rotN (cdR fb d r) t) 28))))), (a 13, .inl (G.2.1, 768, .inl (fl (48 * r) (nF (skB fb d)) fq))), (b, .inl (G.2.2.1, bn, .inl fb))] := hD
                  have hP := w_ext (upd (upd (nF (shD (rotN (cdR fb d r) t) 27 27)) 27 (nI ((rotN (cdR fb d r) t) 0))) 55 (nI ((rotN (cdR fb d r) t) 28))) (nF (rotN (cdR fb d r) (t + 1))) 3 hP rfl (fun j hj => rot_e hj)
                  have hD := hD.set (p := 3) (e := .inl (G.2.1, 56, .inl (nF (rotN (cdR fb d r) (t + 1))))) rfl
                  have hP : va_P G.1 vwCl [(h, .inr (7, mO a rd mn tp os ty sz)), (a 3, .inl (G.2.1, 56, .inl (fun j_ => nI (tbV 3 j_)))), (a 4, .inl (G.2.1, 48, .inl (fun j_ => nI (tbV 4 j_)))), (a 12, .inl (G.2.1, 56, .inl (nF (rotN (cdR fb d r) (t + 1))))), (a 13, .inl (G.2.1, 768, .inl (fl (48 * r) (nF (skB fb d)) fq))), (b, .inl (G.2.2.1, bn, .inl fb))] H := hP
                  have hD : va_D A [(h, .inr (7, mO a rd mn tp os ty sz)), (a 3, .inl (G.2.1, 56, .inl (fun j_ => nI (tbV 3 j_)))), (a 4, .inl (G.2.1, 48, .inl (fun j_ => nI (tbV 4 j_)))), (a 12, .inl (G.2.1, 56, .inl (nF (rotN (cdR fb d r) (t + 1))))), (a 13, .inl (G.2.1, 768, .inl (fl (48 * r) (nF (skB fb d)) fq))), (b, .inl (G.2.2.1, bn, .inl fb))] := hD
                  refine lv_iinc (v := nI (t + 1)) (lv' := [(5, .int (nI (t + 1))), (8, .int (nI 27)), (7, .int (nI ((rotN (cdR fb d r) t) 28))), (6, .int (nI ((rotN (cdR fb d r) t) 0))), (4, .int (nI (tbV 5 r))), (3, .int (nI r)), (0, .ref h), (1, .ref b), (2, .int (nI d))]) hx hb dX8_desKey_183 hl (k := 3) rfl (nI_add t 1) (by decide) rfl (fun ls hl => ?_)
                  refine lv_goto (tgt := 89) hx hb dX8_desKey_186 (by decide) ?_
                  exact iht (t + 1) H _ _ (by omega) (by omega) hP hD hS (lv_sub hl [0, 4, 5, 6, 7, 8] rfl)
                · refine lv_aload_n hx hb dX8_desKey_123 rfl (lv_at hl 6 rfl) ?_
                  refine va_get (D := G.1) (ci := 7) (v := .ref (a 12)) (C := RX8) (T := TX8) (N := 35) hx hb hts hinX8 hown hK hP 0 rfl rfl 12 (by decide) (hts (.fieldLink RX8 7 "CipherBoxModel" "cd" "[I") (by decide +kernel)) (fun _ h9 => h9) rfl dX8_desKey_124 ?_
                  refine lv_iload hx hb dX8_desKey_127 (lv_at hl 0 rfl) ?_
                  refine lv_aload_n hx hb dX8_desKey_129 rfl (lv_at hl 6 rfl) ?_
                  refine va_get (D := G.1) (ci := 7) (v := .ref (a 12)) (C := RX8) (T := TX8) (N := 35) hx hb hts hinX8 hown hK hP 0 rfl rfl 12 (by decide) (hts (.fieldLink RX8 7 "CipherBoxModel" "cd" "[I") (by decide +kernel)) (fun _ h9 => h9) rfl dX8_desKey_130 ?_
                  refine lv_iload hx hb dX8_desKey_133 (lv_at hl 0 rfl) ?_
                  refine lv_iconst (v := nI 1) hx hb dX8_desKey_135 (by decide) ?_
                  refine w_iaddN hx hb dX8_desKey_136 ?_
                  refine w_iald hx hb hK hP 3 rfl (by omega) (by omega) dX8_desKey_137 ?_
                  refine w_top (nI ((rotN (cdR fb d r) t) (k + 1))) (shD_r (by omega) (Or.inl (by omega))) ?_
                  refine w_iast hx hb hK hP hD hS 3 rfl (by omega) (by omega) (nF (shD (rotN (cdR fb d r) t) (k + 1) k)) (shD_a (by omega)) dX8_desKey_138 (fun H locs hP hD hS => ?_)
                  have hP : va_P G.1 vwCl [(h, .inr (7, mO a rd mn tp os ty sz)), (a 3, .inl (G.2.1, 56, .inl (fun j_ => nI (tbV 3 j_)))), (a 4, .inl (G.2.1, 48, .inl (fun j_ => nI (tbV 4 j_)))), (a 12, .inl (G.2.1, 56, .inl (nF (shD (rotN (cdR fb d r) t) (k + 1) k)))), (a 13, .inl (G.2.1, 768, .inl (fl (48 * r) (nF (skB fb d)) fq))), (b, .inl (G.2.2.1, bn, .inl fb))] H := hP
                  have hD : va_D A [(h, .inr (7, mO a rd mn tp os ty sz)), (a 3, .inl (G.2.1, 56, .inl (fun j_ => nI (tbV 3 j_)))), (a 4, .inl (G.2.1, 48, .inl (fun j_ => nI (tbV 4 j_)))), (a 12, .inl (G.2.1, 56, .inl (nF (shD (rotN (cdR fb d r) t) (k + 1) k)))), (a 13, .inl (G.2.1, 768, .inl (fl (48 * r) (nF (skB fb d)) fq))), (b, .inl (G.2.2.1, bn, .inl fb))] := hD
                  refine lv_aload_n hx hb dX8_desKey_139 rfl (lv_at hl 6 rfl) ?_
                  refine va_get (D := G.1) (ci := 7) (v := .ref (a 12)) (C := RX8) (T := TX8) (N := 35) hx hb hts hinX8 hown hK hP 0 rfl rfl 12 (by decide) (hts (.fieldLink RX8 7 "CipherBoxModel" "cd" "[I") (by decide +kernel)) (fun _ h9 => h9) rfl dX8_desKey_140 ?_
                  refine lv_bipush (v := nI 28) hx hb dX8_desKey_143 (by decide) ?_
                  refine lv_iload hx hb dX8_desKey_145 (lv_at hl 0 rfl) ?_
                  refine w_iaddN hx hb dX8_desKey_147 ?_
                  refine lv_aload_n hx hb dX8_desKey_148 rfl (lv_at hl 6 rfl) ?_
                  refine va_get (D := G.1) (ci := 7) (v := .ref (a 12)) (C := RX8) (T := TX8) (N := 35) hx hb hts hinX8 hown hK hP 0 rfl rfl 12 (by decide) (hts (.fieldLink RX8 7 "CipherBoxModel" "cd" "[I") (by decide +kernel)) (fun _ h9 => h9) rfl dX8_desKey_149 ?_
                  refine lv_bipush (v := nI 29) hx hb dX8_desKey_152 (by decide) ?_
                  refine lv_iload hx hb dX8_desKey_154 (lv_at hl 0 rfl) ?_
                  refine w_iaddN hx hb dX8_desKey_156 ?_
                  refine w_iald hx hb hK hP 3 rfl (by omega) (by omega) dX8_desKey_157 ?_
                  refine w_top (nI ((rotN (cdR fb d r) t) (29 + k))) (shD_r (by omega) (Or.inr (by omega))) ?_
                  refine w_iast hx hb hK hP hD hS 3 rfl (by omega) (by omega) (nF (shD (rotN (cdR fb d r) t) (k + 1) (k + 1))) (shD_b (by omega)) dX8_desKey_158 (fun H locs hP hD hS => ?_)
                  have hP : va_P G.1 vwCl [(h, .inr (7, mO a rd mn tp os ty sz)), (a 3, .inl (G.2.1, 56, .inl (fun j_ => nI (tbV 3 j_)))), (a 4, .inl (G.2.1, 48, .inl (fun j_ => nI (tbV 4 j_)))), (a 12, .inl (G.2.1, 56, .inl (nF (shD (rotN (cdR fb d r) t) (k + 1) (k + 1))))), (a 13, .inl (G.2.1, 768, .inl (fl (48 * r) (nF (skB fb d)) fq))), (b, .inl (G.2.2.1, bn, .inl fb))] H := hP
                  have hD : va_D A [(h, .inr (7, mO a rd mn tp os ty sz)), (a 3, .inl (G.2.1, 56, .inl (fun j_ => nI (tbV 3 j_)))), (a 4, .inl (G.2.1, 48, .inl (fun j_ => nI (tbV 4 j_)))), (a 12, .inl (G.2.1, 56, .inl (nF (shD (rotN (cdR fb d r) t) (k + 1) (k + 1))))), (a 13, .inl (G.2.1, 768, .inl (fl (48 * r) (nF (skB fb d)) fq))), (b, .inl (G.2.2.1, bn, .inl fb))] := hD
                  refine lv_iinc (v := nI (k + 1)) (lv' := [(8, .int (nI (k + 1))), (7, .int (nI ((rotN (cdR fb d r) t) 28))), (6, .int (nI ((rotN (cdR fb d r) t) 0))), (5, .int (nI t)), (4, .int (nI (tbV 5 r))), (3, .int (nI r)), (0, .ref h), (1, .ref b), (2, .int (nI d))]) hx hb dX8_desKey_159 hl (k := 0) rfl (nI_add k 1) (by decide) rfl (fun ls hl => ?_)
                  refine lv_goto (tgt := 116) hx hb dX8_desKey_162 (by decide) ?_
                  exact ih (k + 1) H _ _ (by omega) (by omega) hP hD hS (lv_sub hl [0, 1, 2, 3, 4, 5, 6, 7, 8] rfl)
            · refine lv_iconst (v := nI 1) hx hb dX8_desKey_79 (by decide) ?_
              refine lv_goto (tgt := 84) hx hb dX8_desKey_80 (by decide) ?_
              refine lv_istore (lv' := [(4, .int (nI 1)), (3, .int (nI r)), (0, .ref h), (1, .ref b), (2, .int (nI d))]) hx hb dX8_desKey_84 hl (by decide) rfl (fun ls hl => ?_)
              have hl : lv_has ls 9 [(4, .int (nI (tbV 5 r))), (3, .int (nI r)), (0, .ref h), (1, .ref b), (2, .int (nI d))] := by have h9 := hl; rw [show nI 1 = nI (tbV 5 r) by rw [sh5 r (by omega), if_pos (by omega)]] at h9; exact h9
              refine lv_iconst (v := nI 0) hx hb dX8_desKey_86 (by decide) ?_
              refine lv_istore (lv' := [(5, .int (nI 0)), (4, .int (nI (tbV 5 r))), (3, .int (nI r)), (0, .ref h), (1, .ref b), (2, .int (nI d))]) hx hb dX8_desKey_87 hl (by decide) rfl (fun ls hl => ?_)
              refine w_loop (ι := Nat) (fun t => tbV 5 r - t) (fun t => t ≤ tbV 5 r) (fun t => [(h, .inr (7, mO a rd mn tp os ty sz)), (a 3, .inl (G.2.1, 56, .inl (fun j_ => nI (tbV 3 j_)))), (a 4, .inl (G.2.1, 48, .inl (fun j_ => nI (tbV 4 j_)))), (a 12, .inl (G.2.1, 56, .inl (nF (rotN (cdR fb d r) t)))), (a 13, .inl (G.2.1, 768, .inl (fl (48 * r) (nF (skB fb d)) fq))), (b, .inl (G.2.2.1, bn, .inl fb))]) (fun t => [(5, .int (nI t)), (4, .int (nI (tbV 5 r))), (3, .int (nI r)), (0, .ref h), (1, .ref b), (2, .int (nI d))]) 0 (Nat.zero_le _) hP hD hS hl ?_
              intro t H locs ls ht hP hD hS hl iht
              have ht : t ≤ tbV 5 r := ht
              have hP : va_P G.1 vwCl [(h, .inr (7, mO a rd mn tp os ty sz)), (a 3, .inl (G.2.1, 56, .inl (fun j_ => nI (tbV 3 j_)))), (a 4, .inl (G.2.1, 48, .inl (fun j_ => nI (tbV 4 j_)))), (a 12, .inl (G.2.1, 56, .inl (nF (rotN (cdR fb d r) t)))), (a 13, .inl (G.2.1, 768, .inl (fl (48 * r) (nF (skB fb d)) fq))), (b, .inl (G.2.2.1, bn, .inl fb))] H := hP
              have hD : va_D A [(h, .inr (7, mO a rd mn tp os ty sz)), (a 3, .inl (G.2.1, 56, .inl (fun j_ => nI (tbV 3 j_)))), (a 4, .inl (G.2.1, 48, .inl (fun j_ => nI (tbV 4 j_)))), (a 12, .inl (G.2.1, 56, .inl (nF (rotN (cdR fb d r) t)))), (a 13, .inl (G.2.1, 768, .inl (fl (48 * r) (nF (skB fb d)) fq))), (b, .inl (G.2.2.1, bn, .inl fb))] := hD
              have hl : lv_has ls 9 [(5, .int (nI t)), (4, .int (nI (tbV 5 r))), (3, .int (nI r)), (0, .ref h), (1, .ref b), (2, .int (nI d))] := hl
              refine lv_iload hx hb dX8_desKey_89 (lv_at hl 0 rfl) ?_
              refine lv_iload hx hb dX8_desKey_91 (lv_at hl 1 rfl) ?_
              refine w_icmpN_ge (tgt := 189) hx hb (by omega) (by omega) dX8_desKey_93 (by decide) (fun h19 => ?_) (fun h19 => ?_)
              · obtain rfl : tbV 5 r = t := Eq.symm (show t = tbV 5 r from by omega)
                have hP : va_P G.1 vwCl [(h, .inr (7, mO a rd mn tp os ty sz)), (a 3, .inl (G.2.1, 56, .inl (fun j_ => nI (tbV 3 j_)))), (a 4, .inl (G.2.1, 48, .inl (fun j_ => nI (tbV 4 j_)))), (a 12, .inl (G.2.1, 56, .inl (nF (cdR fb d (r + 1))))), (a 13, .inl (G.2.1, 768, .inl (fl (48 * r) (nF (skB fb d)) fq))), (b, .inl (G.2.2.1, bn, .inl fb))] H := hP
                have hD : va_D A [(h, .inr (7, mO a rd mn tp os ty sz)), (a 3, .inl (G.2.1, 56, .inl (fun j_ => nI (tbV 3 j_)))), (a 4, .inl (G.2.1, 48, .inl (fun j_ => nI (tbV 4 j_)))), (a 12, .inl (G.2.1, 56, .inl (nF (cdR fb d (r + 1))))), (a 13, .inl (G.2.1, 768, .inl (fl (48 * r) (nF (skB fb d)) fq))), (b, .inl (G.2.2.1, bn, .inl fb))] := hD
                refine lv_iconst (v := nI 0) hx hb dX8_desKey_189 (by decide) ?_
                refine lv_istore (lv' := [(5, .int (nI 0)), (4, .int (nI (tbV 5 r))), (3, .int (nI r)), (0, .ref h), (1, .ref b), (2, .int (nI d))]) hx hb dX8_desKey_190 hl (by decide) rfl (fun ls hl => ?_)
                refine w_loop (ι := Nat) (fun k => 48 - k) (fun k => k ≤ 48) (fun k => [(h, .inr (7, mO a rd mn tp os ty sz)), (a 3, .inl (G.2.1, 56, .inl (fun j_ => nI (tbV 3 j_)))), (a 4, .inl (G.2.1, 48, .inl (fun j_ => nI (tbV 4 j_)))), (a 12, .inl (G.2.1, 56, .inl (nF (cdR fb d (r + 1))))), (a 13, .inl (G.2.1, 768, .inl (fl (48 * r + k) (nF (skB fb d)) fq))), (b, .inl (G.2.2.1, bn, .inl fb))]) (fun k => [(5, .int (nI k)), (4, .int (nI (tbV 5 r))), (3, .int (nI r)), (0, .ref h), (1, .ref b), (2, .int (nI d))]) 0 (by omega) hP hD hS hl ?_
                intro k H locs ls hk hP hD hS hl ih
                have hk : k ≤ 48 := hk
                have hP : va_P G.1 vwCl [(h, .inr (7, mO a rd mn tp os ty sz)), (a 3, .inl (G.2.1, 56, .inl (fun j_ => nI (tbV 3 j_)))), (a 4, .inl (G.2.1, 48, .inl (fun j_ => nI (tbV 4 j_)))), (a 12, .inl (G.2.1, 56, .inl (nF (cdR fb d (r + 1))))), (a 13, .inl (G.2.1, 768, .inl (fl (48 * r + k) (nF (skB fb d)) fq))), (b, .inl (G.2.2.1, bn, .inl fb))] H := hP
                have hD : va_D A [(h, .inr (7, mO a rd mn tp os ty sz)), (a 3, .inl (G.2.1, 56, .inl (fun j_ => nI (tbV 3 j_)))), (a 4, .inl (G.2.1, 48, .inl (fun j_ => nI (tbV 4 j_)))), (a 12, .inl (G.2.1, 56, .inl (nF (cdR fb d (r + 1))))), (a 13, .inl (G.2.1, 768, .inl (fl (48 * r + k) (nF (skB fb d)) fq))), (b, .inl (G.2.2.1, bn, .inl fb))] := hD
                have hl : lv_has ls 9 [(5, .int (nI k)), (4, .int (nI (tbV 5 r))), (3, .int (nI r)), (0, .ref h), (1, .ref b), (2, .int (nI d))] := hl
                refine lv_iload hx hb dX8_desKey_192 (lv_at hl 0 rfl) ?_
                refine lv_bipush (v := nI 48) hx hb dX8_desKey_194 (by decide) ?_
                refine w_icmpN_ge (tgt := 231) hx hb (by omega) (by omega) dX8_desKey_196 (by decide) (fun h20 => ?_) (fun h20 => ?_)
                · obtain rfl : 48 = k := Eq.symm (show k = 48 from by omega)
                  refine lv_iinc (v := nI (r + 1)) (lv' := [(3, .int (nI (r + 1))), (5, .int (nI 48)), (4, .int (nI (tbV 5 r))), (0, .ref h), (1, .ref b), (2, .int (nI d))]) hx hb dX8_desKey_231 hl (k := 2) rfl (nI_add r 1) (by decide) rfl (fun ls hl => ?_)
                  refine lv_goto (tgt := 52) hx hb dX8_desKey_234 (by decide) ?_
                  exact ihr (r + 1) H _ _ (by omega) (by omega) hP hD hS (lv_sub hl [0, 3, 4, 5] rfl)
                · have hp := tb4_in k h20
                  refine lv_aload_n hx hb dX8_desKey_199 rfl (lv_at hl 3 rfl) ?_
                  refine va_get (D := G.1) (ci := 7) (v := .ref (a 13)) (C := RX8) (T := TX8) (N := 35) hx hb hts hinX8 hown hK hP 0 rfl rfl 13 (by decide) (hts (.fieldLink RX8 10 "CipherBoxModel" "subkey" "[I") (by decide +kernel)) (fun _ h9 => h9) rfl dX8_desKey_200 ?_
                  refine lv_bipush (v := nI 48) hx hb dX8_desKey_203 (by decide) ?_
                  refine lv_iload_n hx hb dX8_desKey_205 rfl (lv_at hl 2 rfl) ?_
                  refine w_imulN hx hb dX8_desKey_206 ?_
                  refine lv_iload hx hb dX8_desKey_207 (lv_at hl 0 rfl) ?_
                  refine w_iaddN hx hb dX8_desKey_209 ?_
                  refine lv_aload_n hx hb dX8_desKey_210 rfl (lv_at hl 3 rfl) ?_
                  refine va_get (D := G.1) (ci := 7) (v := .ref (a 12)) (C := RX8) (T := TX8) (N := 35) hx hb hts hinX8 hown hK hP 0 rfl rfl 12 (by decide) (hts (.fieldLink RX8 7 "CipherBoxModel" "cd" "[I") (by decide +kernel)) (fun _ h9 => h9) rfl dX8_desKey_211 ?_
                  refine lv_aload_n hx hb dX8_desKey_214 rfl (lv_at hl 3 rfl) ?_
                  refine va_get (D := G.1) (ci := 7) (v := .ref (a 4)) (C := RX8) (T := TX8) (N := 35) hx hb hts hinX8 hown hK hP 0 rfl rfl 4 (by decide) (hts (.fieldLink RX8 13 "CipherBoxModel" "second" "[I") (by decide +kernel)) (fun _ h9 => h9) rfl dX8_desKey_215 ?_
                  refine lv_iload hx hb dX8_desKey_218 (lv_at hl 0 rfl) ?_
                  refine w_iald hx hb hK hP 2 rfl (by omega) (by omega) dX8_desKey_220 ?_
                  refine w_top (nI (tbV 4 k)) (rfl) ?_
                  refine lv_iconst (v := nI 1) hx hb dX8_desKey_221 (by decide) ?_
                  refine w_isubN hx hb (by omega) dX8_desKey_222 ?_
                  refine w_iald hx hb hK hP 3 rfl (by omega) (by omega) dX8_desKey_223 ?_
                  refine w_top (nI (cdR fb d (r + 1) (tbV 4 k - 1))) (rfl) ?_
                  refine w_iast hx hb hK hP hD hS 4 rfl (by omega) (by omega) (fl (48 * r + (k + 1)) (nF (skB fb d)) fq) (fl_s (k := 48 * r + k) (by show _ = nI (skB fb d (48 * r + k)); rw [skB_i (by omega)])) dX8_desKey_224 (fun H locs hP hD hS => ?_)
                  have hP : va_P G.1 vwCl [(h, .inr (7, mO a rd mn tp os ty sz)), (a 3, .inl (G.2.1, 56, .inl (fun j_ => nI (tbV 3 j_)))), (a 4, .inl (G.2.1, 48, .inl (fun j_ => nI (tbV 4 j_)))), (a 12, .inl (G.2.1, 56, .inl (nF (cdR fb d (r + 1))))), (a 13, .inl (G.2.1, 768, .inl (fl (48 * r + (k + 1)) (nF (skB fb d)) fq))), (b, .inl (G.2.2.1, bn, .inl fb))] H := hP
                  have hD : va_D A [(h, .inr (7, mO a rd mn tp os ty sz)), (a 3, .inl (G.2.1, 56, .inl (fun j_ => nI (tbV 3 j_)))), (a 4, .inl (G.2.1, 48, .inl (fun j_ => nI (tbV 4 j_)))), (a 12, .inl (G.2.1, 56, .inl (nF (cdR fb d (r + 1))))), (a 13, .inl (G.2.1, 768, .inl (fl (48 * r + (k + 1)) (nF (skB fb d)) fq))), (b, .inl (G.2.2.1, bn, .inl fb))] := hD
                  refine lv_iinc (v := nI (k + 1)) (lv' := [(5, .int (nI (k + 1))), (4, .int (nI (tbV 5 r))), (3, .int (nI r)), (0, .ref h), (1, .ref b), (2, .int (nI d))]) hx hb dX8_desKey_225 hl (k := 0) rfl (nI_add k 1) (by decide) rfl (fun ls hl => ?_)
                  refine lv_goto (tgt := 192) hx hb dX8_desKey_228 (by decide) ?_
                  exact ih (k + 1) H _ _ (by omega) (by omega) hP hD hS (lv_sub hl [0, 1, 2, 3, 4, 5] rfl)
              · refine lv_aload_n hx hb dX8_desKey_96 rfl (lv_at hl 3 rfl) ?_
                refine va_get (D := G.1) (ci := 7) (v := .ref (a 12)) (C := RX8) (T := TX8) (N := 35) hx hb hts hinX8 hown hK hP 0 rfl rfl 12 (by decide) (hts (.fieldLink RX8 7 "CipherBoxModel" "cd" "[I") (by decide +kernel)) (fun _ h9 => h9) rfl dX8_desKey_97 ?_
                refine lv_iconst (v := nI 0) hx hb dX8_desKey_100 (by decide) ?_
                refine w_iald hx hb hK hP 3 rfl (by omega) (by omega) dX8_desKey_101 ?_
                refine w_top (nI ((rotN (cdR fb d r) t) 0)) (rfl) ?_
                refine lv_istore (lv' := [(6, .int (nI ((rotN (cdR fb d r) t) 0))), (5, .int (nI t)), (4, .int (nI (tbV 5 r))), (3, .int (nI r)), (0, .ref h), (1, .ref b), (2, .int (nI d))]) hx hb dX8_desKey_102 hl (by decide) rfl (fun ls hl => ?_)
                refine lv_aload_n hx hb dX8_desKey_104 rfl (lv_at hl 4 rfl) ?_
                refine va_get (D := G.1) (ci := 7) (v := .ref (a 12)) (C := RX8) (T := TX8) (N := 35) hx hb hts hinX8 hown hK hP 0 rfl rfl 12 (by decide) (hts (.fieldLink RX8 7 "CipherBoxModel" "cd" "[I") (by decide +kernel)) (fun _ h9 => h9) rfl dX8_desKey_105 ?_
                refine lv_bipush (v := nI 28) hx hb dX8_desKey_108 (by decide) ?_
                refine w_iald hx hb hK hP 3 rfl (by omega) (by omega) dX8_desKey_110 ?_
                refine w_top (nI ((rotN (cdR fb d r) t) 28)) (rfl) ?_
                refine lv_istore (lv' := [(7, .int (nI ((rotN (cdR fb d r) t) 28))), (6, .int (nI ((rotN (cdR fb d r) t) 0))), (5, .int (nI t)), (4, .int (nI (tbV 5 r))), (3, .int (nI r)), (0, .ref h), (1, .ref b), (2, .int (nI d))]) hx hb dX8_desKey_111 hl (by decide) rfl (fun ls hl => ?_)
                refine lv_iconst (v := nI 0) hx hb dX8_desKey_113 (by decide) ?_
                refine lv_istore (lv' := [(8, .int (nI 0)), (7, .int (nI ((rotN (cdR fb d r) t) 28))), (6, .int (nI ((rotN (cdR fb d r) t) 0))), (5, .int (nI t)), (4, .int (nI (tbV 5 r))), (3, .int (nI r)), (0, .ref h), (1, .ref b), (2, .int (nI d))]) hx hb dX8_desKey_114 hl (by decide) rfl (fun ls hl => ?_)
                refine w_loop (ι := Nat) (fun k => 27 - k) (fun k => k ≤ 27) (fun k => [(h, .inr (7, mO a rd mn tp os ty sz)), (a 3, .inl (G.2.1, 56, .inl (fun j_ => nI (tbV 3 j_)))), (a 4, .inl (G.2.1, 48, .inl (fun j_ => nI (tbV 4 j_)))), (a 12, .inl (G.2.1, 56, .inl (nF (shD (rotN (cdR fb d r) t) k k)))), (a 13, .inl (G.2.1, 768, .inl (fl (48 * r) (nF (skB fb d)) fq))), (b, .inl (G.2.2.1, bn, .inl fb))]) (fun k => [(8, .int (nI k)), (7, .int (nI ((rotN (cdR fb d r) t) 28))), (6, .int (nI ((rotN (cdR fb d r) t) 0))), (5, .int (nI t)), (4, .int (nI (tbV 5 r))), (3, .int (nI r)), (0, .ref h), (1, .ref b), (2, .int (nI d))]) 0 (by omega) (by simp only [shD_0]; exact hP) (by simp only [shD_0]; exact hD) hS hl ?_
                intro k H locs ls hk hP hD hS hl ih
                have hk : k ≤ 27 := hk
                have hP : va_P G.1 vwCl [(h, .inr (7, mO a rd mn tp os ty sz)), (a 3, .inl (G.2.1, 56, .inl (fun j_ => nI (tbV 3 j_)))), (a 4, .inl (G.2.1, 48, .inl (fun j_ => nI (tbV 4 j_)))), (a 12, .inl (G.2.1, 56, .inl (nF (shD (rotN (cdR fb d r) t) k k)))), (a 13, .inl (G.2.1, 768, .inl (fl (48 * r) (nF (skB fb d)) fq))), (b, .inl (G.2.2.1, bn, .inl fb))] H := hP
                have hD : va_D A [(h, .inr (7, mO a rd mn tp os ty sz)), (a 3, .inl (G.2.1, 56, .inl (fun j_ => nI (tbV 3 j_)))), (a 4, .inl (G.2.1, 48, .inl (fun j_ => nI (tbV 4 j_)))), (a 12, .inl (G.2.1, 56, .inl (nF (shD (rotN (cdR fb d r) t) k k)))), (a 13, .inl (G.2.1, 768, .inl (fl (48 * r) (nF (skB fb d)) fq))), (b, .inl (G.2.2.1, bn, .inl fb))] := hD
                have hl : lv_has ls 9 [(8, .int (nI k)), (7, .int (nI ((rotN (cdR fb d r) t) 28))), (6, .int (nI ((rotN (cdR fb d r) t) 0))), (5, .int (nI t)), (4, .int (nI (tbV 5 r))), (3, .int (nI r)), (0, .ref h), (1, .ref b), (2, .int (nI d))] := hl
                refine lv_iload hx hb dX8_desKey_116 (lv_at hl 0 rfl) ?_
                refine lv_bipush (v := nI 27) hx hb dX8_desKey_118 (by decide) ?_
                refine w_icmpN_ge (tgt := 165) hx hb (by omega) (by omega) dX8_desKey_120 (by decide) (fun h21 => ?_) (fun h21 => ?_)
                · obtain rfl : 27 = k := Eq.symm (show k = 27 from by omega)
                  refine lv_aload_n hx hb dX8_desKey_165 rfl (lv_at hl 6 rfl) ?_
                  refine va_get (D := G.1) (ci := 7) (v := .ref (a 12)) (C := RX8) (T := TX8) (N := 35) hx hb hts hinX8 hown hK hP 0 rfl rfl 12 (by decide) (hts (.fieldLink RX8 7 "CipherBoxModel" "cd" "[I") (by decide +kernel)) (fun _ h9 => h9) rfl dX8_desKey_166 ?_
                  refine lv_bipush (v := nI 27) hx hb dX8_desKey_169 (by decide) ?_
                  refine lv_iload hx hb dX8_desKey_171 (lv_at hl 2 rfl) ?_
                  refine w_iast hx hb hK hP hD hS 3 rfl (by omega) (by omega) (upd (nF (shD (rotN (cdR fb d r) t) 27 27)) 27 (nI ((rotN (cdR fb d r) t) 0))) (rfl) dX8_desKey_173 (fun H locs hP hD hS => ?_)
                  have hP : va_P G.1 vwCl [(h, .inr (7, mO a rd mn tp os ty sz)), (a 3, .inl (G.2.1, 56, .inl (fun j_ => nI (tbV 3 j_)))), (a 4, .inl (G.2.1, 48, .inl (fun j_ => nI (tbV 4 j_)))), (a 12, .inl (G.2.1, 56, .inl (upd (nF (shD (rotN (cdR fb d r) t) 27 27)) 27 (nI ((rotN (cdR fb d r) t) 0))))), (a 13, .inl (G.2.1, 768, .inl (fl (48 * r) (nF (skB fb d)) fq))), (b, .inl (G.2.2.1, bn, .inl fb))] H := hP
                  have hD : va_D A [(h, .inr (7, mO a rd mn tp os ty sz)), (a 3, .inl (G.2.1, 56, .inl (fun j_ => nI (tbV 3 j_)))), (a 4, .inl (G.2.1, 48, .inl (fun j_ => nI (tbV 4 j_)))), (a 12, .inl (G.2.1, 56, .inl (upd (nF (shD (rotN (cdR fb d r) t) 27 27)) 27 (nI ((rotN (cdR fb d r) t) 0))))), (a 13, .inl (G.2.1, 768, .inl (fl (48 * r) (nF (skB fb d)) fq))), (b, .inl (G.2.2.1, bn, .inl fb))] := hD
                  refine lv_aload_n hx hb dX8_desKey_174 rfl (lv_at hl 6 rfl) ?_
                  refine va_get (D := G.1) (ci := 7) (v := .ref (a 12)) (C := RX8) (T := TX8) (N := 35) hx hb hts hinX8 hown hK hP 0 rfl rfl 12 (by decide) (hts (.fieldLink RX8 7 "CipherBoxModel" "cd" "[I") (by decide +kernel)) (fun _ h9 => h9) rfl dX8_desKey_175 ?_
                  refine lv_bipush (v := nI 55) hx hb dX8_desKey_178 (by decide) ?_
                  refine lv_iload hx hb dX8_desKey_180 (lv_at hl 1 rfl) ?_
                  refine w_iast hx hb hK hP hD hS 3 rfl (by omega) (by omega) (upd (upd (nF (shD (rotN (cdR fb d r) t) 27 27)) 27 (nI ((rotN (cdR fb d r) t) 0))) 55 (nI ((rotN (cdR fb d r) t) 28))) (rfl) dX8_desKey_182 (fun H locs hP hD hS => ?_)
                  have hP : va_P G.1 vwCl [(h, .inr (7, mO a rd mn tp os ty sz)), (a 3, .inl (G.2.1, 56, .inl (fun j_ => nI (tbV 3 j_)))), (a 4, .inl (G.2.1, 48, .inl (fun j_ => nI (tbV 4 j_)))), (a 12, .inl (G.2.1, 56, .inl (upd (upd (nF (shD (rotN (cdR fb d r) t) 27 27)) 27 (nI ((rotN (cdR fb d r) t) 0))) 55 (nI ((rotN (cdR fb d r) t) 28))))), (a 13, .inl (G.2.1, 768, .inl (fl (48 * r) (nF (skB fb d)) fq))), (b, .inl (G.2.2.1, bn, .inl fb))] H := hP
                  have hD : va_D A [(h, .inr (7, mO a rd mn tp os ty sz)), (a 3, .inl (G.2.1, 56, .inl (fun j_ => nI (tbV 3 j_)))), (a 4, .inl (G.2.1, 48, .inl (fun j_ => nI (tbV 4 j_)))), (a 12, .inl (G.2.1, 56, .inl (upd (upd (nF (shD (rotN (cdR fb d r) t) 27 27)) 27 (nI ((rotN (cdR fb d r) t) 0))) 55 (nI ((rotN (cdR fb d r) t) 28))))), (a 13, .inl (G.2.1, 768, .inl (fl (48 * r) (nF (skB fb d)) fq))), (b, .inl (G.2.2.1, bn, .inl fb))] := hD
                  have hP := w_ext (upd (upd (nF (shD (rotN (cdR fb d r) t) 27 27)) 27 (nI ((rotN (cdR fb d r) t) 0))) 55 (nI ((rotN (cdR fb d r) t) 28))) (nF (rotN (cdR fb d r) (t + 1))) 3 hP rfl (fun j hj => rot_e hj)
                  have hD := hD.set (p := 3) (e := .inl (G.2.1, 56, .inl (nF (rotN (cdR fb d r) (t + 1))))) rfl
                  have hP : va_P G.1 vwCl [(h, .inr (7, mO a rd mn tp os ty sz)), (a 3, .inl (G.2.1, 56, .inl (fun j_ => nI (tbV 3 j_)))), (a 4, .inl (G.2.1, 48, .inl (fun j_ => nI (tbV 4 j_)))), (a 12, .inl (G.2.1, 56, .inl (nF (rotN (cdR fb d r) (t + 1))))), (a 13, .inl (G.2.1, 768, .inl (fl (48 * r) (nF (skB fb d)) fq))), (b, .inl (G.2.2.1, bn, .inl fb))] H := hP
                  have hD : va_D A [(h, .inr (7, mO a rd mn tp os ty sz)), (a 3, .inl (G.2.1, 56, .inl (fun j_ => nI (tbV 3 j_)))), (a 4, .inl (G.2.1, 48, .inl (fun j_ => nI (tbV 4 j_)))), (a 12, .inl (G.2.1, 56, .inl (nF (rotN (cdR fb d r) (t + 1))))), (a 13, .inl (G.2.1, 768, .inl (fl (48 * r) (nF (skB fb d)) fq))), (b, .inl (G.2.2.1, bn, .inl fb))] := hD
                  refine lv_iinc (v := nI (t + 1)) (lv' := [(5, .int (nI (t + 1))), (8, .int (nI 27)), (7, .int (nI ((rotN (cdR fb d r) t) 28))), (6, .int (nI ((rotN (cdR fb d r) t) 0))), (4, .int (nI (tbV 5 r))), (3, .int (nI r)), (0, .ref h), (1, .ref b), (2, .int (nI d))]) hx hb dX8_desKey_183 hl (k := 3) rfl (nI_add t 1) (by decide) rfl (fun ls hl => ?_)
                  refine lv_goto (tgt := 89) hx hb dX8_desKey_186 (by decide) ?_
                  exact iht (t + 1) H _ _ (by omega) (by omega) hP hD hS (lv_sub hl [0, 4, 5, 6, 7, 8] rfl)
                · refine lv_aload_n hx hb dX8_desKey_123 rfl (lv_at hl 6 rfl) ?_
                  refine va_get (D := G.1) (ci := 7) (v := .ref (a 12)) (C := RX8) (T := TX8) (N := 35) hx hb hts hinX8 hown hK hP 0 rfl rfl 12 (by decide) (hts (.fieldLink RX8 7 "CipherBoxModel" "cd" "[I") (by decide +kernel)) (fun _ h9 => h9) rfl dX8_desKey_124 ?_
                  refine lv_iload hx hb dX8_desKey_127 (lv_at hl 0 rfl) ?_
                  refine lv_aload_n hx hb dX8_desKey_129 rfl (lv_at hl 6 rfl) ?_
                  refine va_get (D := G.1) (ci := 7) (v := .ref (a 12)) (C := RX8) (T := TX8) (N := 35) hx hb hts hinX8 hown hK hP 0 rfl rfl 12 (by decide) (hts (.fieldLink RX8 7 "CipherBoxModel" "cd" "[I") (by decide +kernel)) (fun _ h9 => h9) rfl dX8_desKey_130 ?_
                  refine lv_iload hx hb dX8_desKey_133 (lv_at hl 0 rfl) ?_
                  refine lv_iconst (v := nI 1) hx hb dX8_desKey_135 (by decide) ?_
                  refine w_iaddN hx hb dX8_desKey_136 ?_
                  refine w_iald hx hb hK hP 3 rfl (by omega) (by omega) dX8_desKey_137 ?_
                  refine w_top (nI ((rotN (cdR fb d r) t) (k + 1))) (shD_r (by omega) (Or.inl (by omega))) ?_
                  refine w_iast hx hb hK hP hD hS 3 rfl (by omega) (by omega) (nF (shD (rotN (cdR fb d r) t) (k + 1) k)) (shD_a (by omega)) dX8_desKey_138 (fun H locs hP hD hS => ?_)
                  have hP : va_P G.1 vwCl [(h, .inr (7, mO a rd mn tp os ty sz)), (a 3, .inl (G.2.1, 56, .inl (fun j_ => nI (tbV 3 j_)))), (a 4, .inl (G.2.1, 48, .inl (fun j_ => nI (tbV 4 j_)))), (a 12, .inl (G.2.1, 56, .inl (nF (shD (rotN (cdR fb d r) t) (k + 1) k)))), (a 13, .inl (G.2.1, 768, .inl (fl (48 * r) (nF (skB fb d)) fq))), (b, .inl (G.2.2.1, bn, .inl fb))] H := hP
                  have hD : va_D A [(h, .inr (7, mO a rd mn tp os ty sz)), (a 3, .inl (G.2.1, 56, .inl (fun j_ => nI (tbV 3 j_)))), (a 4, .inl (G.2.1, 48, .inl (fun j_ => nI (tbV 4 j_)))), (a 12, .inl (G.2.1, 56, .inl (nF (shD (rotN (cdR fb d r) t) (k + 1) k)))), (a 13, .inl (G.2.1, 768, .inl (fl (48 * r) (nF (skB fb d)) fq))), (b, .inl (G.2.2.1, bn, .inl fb))] := hD
                  refine lv_aload_n hx hb dX8_desKey_139 rfl (lv_at hl 6 rfl) ?_
                  refine va_get (D := G.1) (ci := 7) (v := .ref (a 12)) (C := RX8) (T := TX8) (N := 35) hx hb hts hinX8 hown hK hP 0 rfl rfl 12 (by decide) (hts (.fieldLink RX8 7 "CipherBoxModel" "cd" "[I") (by decide +kernel)) (fun _ h9 => h9) rfl dX8_desKey_140 ?_
                  refine lv_bipush (v := nI 28) hx hb dX8_desKey_143 (by decide) ?_
                  refine lv_iload hx hb dX8_desKey_145 (lv_at hl 0 rfl) ?_
                  refine w_iaddN hx hb dX8_desKey_147 ?_
                  refine lv_aload_n hx hb dX8_desKey_148 rfl (lv_at hl 6 rfl) ?_
                  refine va_get (D := G.1) (ci := 7) (v := .ref (a 12)) (C := RX8) (T := TX8) (N := 35) hx hb hts hinX8 hown hK hP 0 rfl rfl 12 (by decide) (hts (.fieldLink RX8 7 "CipherBoxModel" "cd" "[I") (by decide +kernel)) (fun _ h9 => h9) rfl dX8_desKey_149 ?_
                  refine lv_bipush (v := nI 29) hx hb dX8_desKey_152 (by decide) ?_
                  refine lv_iload hx hb dX8_desKey_154 (lv_at hl 0 rfl) ?_
                  refine w_iaddN hx hb dX8_desKey_156 ?_
                  refine w_iald hx hb hK hP 3 rfl (by omega) (by omega) dX8_desKey_157 ?_
                  refine w_top (nI ((rotN (cdR fb d r) t) (29 + k))) (shD_r (by omega) (Or.inr (by omega))) ?_
                  refine w_iast hx hb hK hP hD hS 3 rfl (by omega) (by omega) (nF (shD (rotN (cdR fb d r) t) (k + 1) (k + 1))) (shD_b (by omega)) dX8_desKey_158 (fun H locs hP hD hS => ?_)
                  have hP : va_P G.1 vwCl [(h, .inr (7, mO a rd mn tp os ty sz)), (a 3, .inl (G.2.1, 56, .inl (fun j_ => nI (tbV 3 j_)))), (a 4, .inl (G.2.1, 48, .inl (fun j_ => nI (tbV 4 j_)))), (a 12, .inl (G.2.1, 56, .inl (nF (shD (rotN (cdR fb d r) t) (k + 1) (k + 1))))), (a 13, .inl (G.2.1, 768, .inl (fl (48 * r) (nF (skB fb d)) fq))), (b, .inl (G.2.2.1, bn, .inl fb))] H := hP
                  have hD : va_D A [(h, .inr (7, mO a rd mn tp os ty sz)), (a 3, .inl (G.2.1, 56, .inl (fun j_ => nI (tbV 3 j_)))), (a 4, .inl (G.2.1, 48, .inl (fun j_ => nI (tbV 4 j_)))), (a 12, .inl (G.2.1, 56, .inl (nF (shD (rotN (cdR fb d r) t) (k + 1) (k + 1))))), (a 13, .inl (G.2.1, 768, .inl (fl (48 * r) (nF (skB fb d)) fq))), (b, .inl (G.2.2.1, bn, .inl fb))] := hD
                  refine lv_iinc (v := nI (k + 1)) (lv' := [(8, .int (nI (k + 1))), (7, .int (nI ((rotN (cdR fb d r) t) 28))), (6, .int (nI ((rotN (cdR fb d r) t) 0))), (5, .int (nI t)), (4, .int (nI (tbV 5 r))), (3, .int (nI r)), (0, .ref h), (1, .ref b), (2, .int (nI d))]) hx hb dX8_desKey_159 hl (k := 0) rfl (nI_add k 1) (by decide) rfl (fun ls hl => ?_)
                  refine lv_goto (tgt := 116) hx hb dX8_desKey_162 (by decide) ?_
                  exact ih (k + 1) H _ _ (by omega) (by omega) hP hD hS (lv_sub hl [0, 1, 2, 3, 4, 5, 6, 7, 8] rfl)
  · have hp := tb3_in k h1
    refine lv_aload_n hx hb dX8_desKey_8 rfl (lv_at hl 1 rfl) ?_
    refine va_get (D := G.1) (ci := 7) (v := .ref (a 3)) (C := RX8) (T := TX8) (N := 35) hx hb hts hinX8 hown hK hP 0 rfl rfl 3 (by decide) (hts (.fieldLink RX8 1 "CipherBoxModel" "choice" "[I") (by decide +kernel)) (fun _ h9 => h9) rfl dX8_desKey_9 ?_
    refine lv_iload_n hx hb dX8_desKey_12 rfl (lv_at hl 0 rfl) ?_
    refine w_iald hx hb hK hP 1 rfl (by omega) (by omega) dX8_desKey_13 ?_
    refine w_top (nI (tbV 3 k)) (rfl) ?_
    refine lv_iconst (v := nI 1) hx hb dX8_desKey_14 (by decide) ?_
    refine w_isubN hx hb (by omega) dX8_desKey_15 ?_
    refine lv_istore (lv' := [(4, .int (nI ((tbV 3 k) - 1))), (3, .int (nI k)), (0, .ref h), (1, .ref b), (2, .int (nI d))]) hx hb dX8_desKey_16 hl (by decide) rfl (fun ls hl => ?_)
    refine lv_aload_n hx hb dX8_desKey_18 rfl (lv_at hl 2 rfl) ?_
    refine va_get (D := G.1) (ci := 7) (v := .ref (a 12)) (C := RX8) (T := TX8) (N := 35) hx hb hts hinX8 hown hK hP 0 rfl rfl 12 (by decide) (hts (.fieldLink RX8 7 "CipherBoxModel" "cd" "[I") (by decide +kernel)) (fun _ h9 => h9) rfl dX8_desKey_19 ?_
    refine lv_iload_n hx hb dX8_desKey_22 rfl (lv_at hl 1 rfl) ?_
    refine lv_aload_n hx hb dX8_desKey_23 rfl (lv_at hl 3 rfl) ?_
    refine lv_iload_n hx hb dX8_desKey_24 rfl (lv_at hl 4 rfl) ?_
    refine lv_iload hx hb dX8_desKey_25 (lv_at hl 0 rfl) ?_
    refine lv_bipush (v := nI 8) hx hb dX8_desKey_27 (by decide) ?_
    refine w_idivN hx hb (by omega) (by omega) (by omega) dX8_desKey_29 ?_
    refine w_iaddN hx hb dX8_desKey_30 ?_
    refine w_bald hx hb hK hP 5 rfl (by omega) (by omega) dX8_desKey_31 ?_
    refine lv_bipush (v := nI 7) hx hb dX8_desKey_32 (by decide) ?_
    refine lv_iload hx hb dX8_desKey_34 (lv_at hl 0 rfl) ?_
    refine lv_bipush (v := nI 8) hx hb dX8_desKey_36 (by decide) ?_
    refine w_iremN hx hb (by omega) (by omega) (by omega) dX8_desKey_38 ?_
    refine w_isubN hx hb (by omega) dX8_desKey_39 ?_
    refine lv_ishr hx hb dX8_desKey_40 ?_
    refine lv_iconst (v := nI 1) hx hb dX8_desKey_41 (by decide) ?_
    refine lv_iand hx hb dX8_desKey_42 ?_
    refine w_top (nI (kb fb d k)) (pk_and _ 1 (by decide)) ?_
    refine w_iast hx hb hK hP hD hS 3 rfl (by omega) (by omega) (fl (k + 1) (nF (kb fb d)) fc) (fl_s rfl) dX8_desKey_43 (fun H locs hP hD hS => ?_)
    have hP : va_P G.1 vwCl [(h, .inr (7, mO a rd mn tp os ty sz)), (a 3, .inl (G.2.1, 56, .inl (fun j_ => nI (tbV 3 j_)))), (a 4, .inl (G.2.1, 48, .inl (fun j_ => nI (tbV 4 j_)))), (a 12, .inl (G.2.1, 56, .inl (fl (k + 1) (nF (kb fb d)) fc))), (a 13, .inl (G.2.1, 768, .inl fq)), (b, .inl (G.2.2.1, bn, .inl fb))] H := hP
    have hD : va_D A [(h, .inr (7, mO a rd mn tp os ty sz)), (a 3, .inl (G.2.1, 56, .inl (fun j_ => nI (tbV 3 j_)))), (a 4, .inl (G.2.1, 48, .inl (fun j_ => nI (tbV 4 j_)))), (a 12, .inl (G.2.1, 56, .inl (fl (k + 1) (nF (kb fb d)) fc))), (a 13, .inl (G.2.1, 768, .inl fq)), (b, .inl (G.2.2.1, bn, .inl fb))] := hD
    refine lv_iinc (v := nI (k + 1)) (lv' := [(3, .int (nI (k + 1))), (4, .int (nI ((tbV 3 k) - 1))), (0, .ref h), (1, .ref b), (2, .int (nI d))]) hx hb dX8_desKey_44 hl (k := 1) rfl (nI_add k 1) (by decide) rfl (fun ls hl => ?_)
    refine lv_goto (tgt := 2) hx hb dX8_desKey_47 (by decide) ?_
    exact ih (k + 1) H _ _ (by omega) (by omega) hP hD hS (lv_sub hl [0, 2, 3, 4] rfl)
