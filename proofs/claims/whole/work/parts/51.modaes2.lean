/-! the model's AES back, and its key -/
def fsc (k : Nat) (g f : Nat → Int32) : Nat → Int32 := fun j => if j < 16 ∧ (j + 16 - 4 * (j % 4)) % 16 < k then g j else f j
theorem fsc_0 {g f : Nat → Int32} : fsc 0 g f = f := by funext j; simp only [fsc]; rw [if_neg (by omega)]
theorem fsc_s {k : Nat} {g f : Nat → Int32} {v : Int32} (hk : k < 16) (h : v = g ((k + 4 * (k % 4)) % 16)) : upd (fsc k g f) ((k + 4 * (k % 4)) % 16) v = fsc (k + 1) g f := by
  funext j
  simp only [upd, fsc]
  by_cases h1 : j = (k + 4 * (k % 4)) % 16
  · rw [if_pos h1, if_pos (by omega), h, h1]
  · rw [if_neg h1]
    by_cases h2 : j < 16 ∧ (j + 16 - 4 * (j % 4)) % 16 < k
    · rw [if_pos h2, if_pos (by omega)]
    · rw [if_neg h2, if_neg (by omega)]
theorem fsc_16 {g f : Nat → Int32} {j : Nat} (hj : j < 16) : fsc 16 g f j = g j := by simp only [fsc]; rw [if_pos (by omega)]
theorem mSR_i {fu x : Nat → Int32} {k : Nat} (hk : k < 16) : mSR fu x ((k + 4 * (k % 4)) % 16) = bN (fu (un (x k) % 2 ^ 8)) := by
  simp only [mSR]
  rw [show ((k + 4 * (k % 4)) % 16 + 16 - 4 * ((k + 4 * (k % 4)) % 16 % 4)) % 16 = k by omega]
def mcI (nw t : Nat) : Int32 := twR (nI 1) ((t + nw - 1) / nw)
theorem mc_0 {nw : Nat} (hn : nw = 4 ∨ nw = 6 ∨ nw = 8) : mcI nw 0 = nI 1 := by
  unfold mcI
  rw [show (0 + nw - 1) / nw = 0 by rcases hn with rfl | rfl | rfl <;> decide]
  rfl
theorem mc_s0 {nw t : Nat} (hn : nw = 4 ∨ nw = 6 ∨ nw = 8) (h : (nw + t) % nw = 0) : twI (mcI nw t) = mcI nw (t + 1) := by
  unfold mcI
  have e : (t + 1 + nw - 1) / nw = (t + nw - 1) / nw + 1 := by rcases hn with rfl | rfl | rfl <;> omega
  rw [e]; rfl
theorem mc_s1 {nw t : Nat} (hn : nw = 4 ∨ nw = 6 ∨ nw = 8) (h : (nw + t) % nw ≠ 0) : mcI nw t = mcI nw (t + 1) := by
  unfold mcI
  have e : (t + 1 + nw - 1) / nw = (t + nw - 1) / nw := by rcases hn with rfl | rfl | rfl <;> omega
  rw [e]
def mkV (fs : Nat → Int32) (nw t : Nat) (r : Nat → Int32) (k : Nat) : Int32 := if (nw + t) % nw = 0 then fs (un (r (4 * (nw + t - 1) + (k + 1) % 4)) % 2 ^ 8) ^^^ (if k = 0 then mcI nw t else nI 0) else if nw = 8 ∧ (nw + t) % 8 = 4 then fs (un (r (4 * (nw + t - 1) + k)) % 2 ^ 8) else r (4 * (nw + t - 1) + k)
def mkS (fs : Nat → Int32) (nw t : Nat) (r : Nat → Int32) : Nat → Int32 := fun k => bN (r (4 * (nw + t - nw) + k) ^^^ mkV fs nw t r k)
def mkA (fs u : Nat → Int32) (nw : Nat) : Nat → Nat → Int32
  | 0 => u
  | t + 1 => fa (4 * (nw + t)) 4 (mkS fs nw t (mkA fs u nw t)) (mkA fs u nw t)
set_option maxHeartbeats 4000000 in
set_option maxRecDepth 100000 in
theorem c_m_aesB (l : Launch) (G : wG) (h : Nat) (a : Nat → Nat) (rd mn tp os : Nat) (ty : Int32) (sz : Nat) (b bn d : Nat) (X fb fr fu fc : Nat → Int32) (hd : d + 16 ≤ bn) (hbn : bn < 2 ^ 20) (hr : 1 ≤ rd ∧ rd ≤ 14) : CMv l G yX8_aes wsX8_aes 3 73 0 0 [.ref h, .ref b, .int (nI d), .int (nI 1)] [(h, .inr (7, mO a rd mn tp os ty sz)), (a 16, .inl (G.2.2.1, 240, .inl fr)), (a 9, .inl (G.2.1, 256, .inl fu)), (a 18, .inl (G.2.2.1, 16, .inl fc)), (b, .inl (G.2.2.1, bn, .inl (fa d 16 X fb)))] (fun (u : Nat → Int32) => True) (fun c2 => [(h, .inr (7, mO a rd mn tp os ty sz)), (a 16, .inl (G.2.2.1, 240, .inl fr)), (a 9, .inl (G.2.1, 256, .inl fu)), (a 18, .inl (G.2.2.1, 16, .inl c2)), (b, .inl (G.2.2.1, bn, .inl (fa d 16 (mBa fr fu rd X) fb)))]) := by
  refine CMv.start cX8_aes 6 (by decide) rfl (Nat.le_of_ble_eq_true rfl) ?_
  intro p e s m below meth c A Q ls H locs hx hb hml hown hnm hts hK hT hA hP hD hS hl hret
  have hinX8 : ∀ w ∈ u_ws RX8 TX8 35, w ∈ wsX8_aes := by decide +kernel
  have hl : lv_has ls 6 [(0, .ref h), (1, .ref b), (2, .int (nI d)), (3, .int (nI 1))] := hl
  refine lv_iload_n hx hb dX8_aes_0 rfl (lv_at hl 3 rfl) ?_
  refine w_ifN_eq (tgt := 139) hx hb (by omega) dX8_aes_1 (by decide) (fun h1 => ?_) (fun h1 => ?_)
  · exact absurd h1 (by decide)
  · refine lv_aload_n hx hb dX8_aes_4 rfl (lv_at hl 0 rfl) ?_
    refine lv_aload_n hx hb dX8_aes_5 rfl (lv_at hl 1 rfl) ?_
    refine lv_iload_n hx hb dX8_aes_6 rfl (lv_at hl 2 rfl) ?_
    refine lv_aload_n hx hb dX8_aes_7 rfl (lv_at hl 0 rfl) ?_
    refine va_get (D := G.1) (ci := 7) (v := .int (nI rd)) (C := RX8) (T := TX8) (N := 35) hx hb hts hinX8 hown hK hP 0 rfl rfl 17 (by decide) (hts (.fieldLink RX8 62 "CipherBoxModel" "aesRounds" "I") (by decide +kernel)) (fun _ h9 => h9) rfl dX8_aes_8 ?_
    refine w_finv (wr := [(a 9, .inl (G.2.1, 256, .inl fu)), (a 18, .inl (G.2.2.1, 16, .inl fc))]) (va_runV (As := [.ref b, .int (nI d), .int (nI rd)]) (rest := []) ⟨hx, hb, hml, hown, hts⟩ (c_m_addKey l G h a rd mn tp os ty sz b bn d X fb fr rd (by omega) (by omega) (by omega) H.size) (cwV 3 hts gX8_aes_X8_addKey rfl rfl rfl (by decide +kernel) ⟨Nat.le_of_ble_eq_true rfl, Nat.le_of_ble_eq_true rfl⟩) ⟨wPre.blind, (va_recv hK hP (ci := 7) (q0 := 0) rfl rfl), (fun U hU hW => ⟨rfl, w_pre hK hT hA hP hD hS (isC := [0, 1, 4]) (by decide) rfl U hU hW⟩)⟩ rfl rfl hl.1 rfl (lv_room (Nat.le_of_ble_eq_true rfl)) dX8_aes_11 ⟨Nat.le_of_ble_eq_true rfl, Nat.le_of_ble_eq_true rfl⟩) hA hP hD hS [0, 1, 4] [2, 3] rfl rfl (by decide) (by decide) (fun u H locs hpost hP hD hS => ?_)
    have hP : va_P G.1 vwCl [(a 9, .inl (G.2.1, 256, .inl fu)), (a 18, .inl (G.2.2.1, 16, .inl fc)), (h, .inr (7, mO a rd mn tp os ty sz)), (a 16, .inl (G.2.2.1, 240, .inl fr)), (b, .inl (G.2.2.1, bn, .inl (fa d 16 (mAk fr rd X) fb)))] H := hP
    have hD : va_D A [(a 9, .inl (G.2.1, 256, .inl fu)), (a 18, .inl (G.2.2.1, 16, .inl fc)), (h, .inr (7, mO a rd mn tp os ty sz)), (a 16, .inl (G.2.2.1, 240, .inl fr)), (b, .inl (G.2.2.1, bn, .inl (fa d 16 (mAk fr rd X) fb)))] := hD
    refine lv_aload_n hx hb dX8_aes_14 rfl (lv_at hl 0 rfl) ?_
    refine va_get (D := G.1) (ci := 7) (v := .int (nI rd)) (C := RX8) (T := TX8) (N := 35) hx hb hts hinX8 hown hK hP 2 rfl rfl 17 (by decide) (hts (.fieldLink RX8 62 "CipherBoxModel" "aesRounds" "I") (by decide +kernel)) (fun _ h9 => h9) rfl dX8_aes_15 ?_
    refine lv_iconst (v := nI 1) hx hb dX8_aes_18 (by decide) ?_
    refine w_isubN hx hb (by omega) dX8_aes_19 ?_
    refine lv_istore (lv' := [(4, .int (nI (rd - 1))), (0, .ref h), (1, .ref b), (2, .int (nI d)), (3, .int (nI 1))]) hx hb dX8_aes_20 hl (by decide) rfl (fun ls hl => ?_)
    refine w_loop (ι := Nat × (Nat → Int32)) (fun x9 => match x9 with | ⟨n, fc⟩ => rd - n) (fun x9 => match x9 with | ⟨n, fc⟩ => n ≤ rd) (fun x9 => match x9 with | ⟨n, fc⟩ => [(a 9, .inl (G.2.1, 256, .inl fu)), (a 18, .inl (G.2.2.1, 16, .inl fc)), (h, .inr (7, mO a rd mn tp os ty sz)), (a 16, .inl (G.2.2.1, 240, .inl fr)), (b, .inl (G.2.2.1, bn, .inl (fa d 16 (if n < rd then mBk fr fu rd X (n) else mBa fr fu rd X) fb)))]) (fun x9 => match x9 with | ⟨n, fc⟩ => [(4, .int (nI (rd - n) - nI 1)), (0, .ref h), (1, .ref b), (2, .int (nI d)), (3, .int (nI 1))]) ⟨0, fc⟩ (Nat.zero_le _) (by simp only []; rw [if_pos (by omega)]; exact hP) (by simp only []; rw [if_pos (by omega)]; exact hD) hS (by have h9 := hl; rw [show nI (rd - 1) = nI (rd - 0) - nI 1 from (pk_sub (a := rd) (b := 1) (by omega)).symm] at h9; exact h9) ?_
    rintro ⟨n, fc⟩ H locs ls hk hP hD hS hl ih
    have hk : n ≤ rd := hk
    have hP : va_P G.1 vwCl [(a 9, .inl (G.2.1, 256, .inl fu)), (a 18, .inl (G.2.2.1, 16, .inl fc)), (h, .inr (7, mO a rd mn tp os ty sz)), (a 16, .inl (G.2.2.1, 240, .inl fr)), (b, .inl (G.2.2.1, bn, .inl (fa d 16 (if n < rd then mBk fr fu rd X (n) else mBa fr fu rd X) fb)))] H := hP
    have hD : va_D A [(a 9, .inl (G.2.1, 256, .inl fu)), (a 18, .inl (G.2.2.1, 16, .inl fc)), (h, .inr (7, mO a rd mn tp os ty sz)), (a 16, .inl (G.2.2.1, 240, .inl fr)), (b, .inl (G.2.2.1, bn, .inl (fa d 16 (if n < rd then mBk fr fu rd X (n) else mBa fr fu rd X) fb)))] := hD
    have hl : lv_has ls 6 [(4, .int (nI (rd - n) - nI 1)), (0, .ref h), (1, .ref b), (2, .int (nI d)), (3, .int (nI 1))] := hl
    refine lv_iload hx hb dX8_aes_22 (lv_at hl 0 rfl) ?_
    refine lv_if_lt (tgt := 138) hx hb dX8_aes_24 (by decide) (fun h2 => ?_) (fun h2 => ?_)
    · have h8 : rd - n = 0 := sub1_neg (by omega) h2
      exact hret fc H _ 138 ls dX8_aes_138 (trivial) (by have h9 : va_P G.1 vwCl [(h, .inr (7, mO a rd mn tp os ty sz)), (a 16, .inl (G.2.2.1, 240, .inl fr)), (a 9, .inl (G.2.1, 256, .inl fu)), (a 18, .inl (G.2.2.1, 16, .inl fc)), (b, .inl (G.2.2.1, bn, .inl (fa d 16 (if n < rd then mBk fr fu rd X (n) else mBa fr fu rd X) fb)))] H := (hP.sub [2, 3, 0, 1, 4] rfl); rw [if_neg (by omega)] at h9; exact h9) (by have h9 : va_D A [(h, .inr (7, mO a rd mn tp os ty sz)), (a 16, .inl (G.2.2.1, 240, .inl fr)), (a 9, .inl (G.2.1, 256, .inl fu)), (a 18, .inl (G.2.2.1, 16, .inl fc)), (b, .inl (G.2.2.1, bn, .inl (fa d 16 (if n < rd then mBk fr fu rd X (n) else mBa fr fu rd X) fb)))] := (hD.sub [2, 3, 0, 1, 4] (by decide) rfl); rw [if_neg (by omega)] at h9; exact h9) hS
    · have hpos : 0 < rd - n := by
        rcases Nat.eq_zero_or_pos (rd - n) with q9 | q9
        · exact absurd (by rw [q9]; decide) h2
        · exact q9
      have hnr : n < rd := by omega
      have hP : va_P G.1 vwCl [(a 9, .inl (G.2.1, 256, .inl fu)), (a 18, .inl (G.2.2.1, 16, .inl fc)), (h, .inr (7, mO a rd mn tp os ty sz)), (a 16, .inl (G.2.2.1, 240, .inl fr)), (b, .inl (G.2.2.1, bn, .inl (fa d 16 (mBk fr fu rd X n) fb)))] H := by have h9 := hP; rw [if_pos hnr] at h9; exact h9
      have hD : va_D A [(a 9, .inl (G.2.1, 256, .inl fu)), (a 18, .inl (G.2.2.1, 16, .inl fc)), (h, .inr (7, mO a rd mn tp os ty sz)), (a 16, .inl (G.2.2.1, 240, .inl fr)), (b, .inl (G.2.2.1, bn, .inl (fa d 16 (mBk fr fu rd X n) fb)))] := by have h9 := hD; rw [if_pos hnr] at h9; exact h9
      refine lv_iconst (v := nI 0) hx hb dX8_aes_27 (by decide) ?_
      refine lv_istore (lv' := [(5, .int (nI 0)), (4, .int (nI (rd - n) - nI 1)), (0, .ref h), (1, .ref b), (2, .int (nI d)), (3, .int (nI 1))]) hx hb dX8_aes_28 hl (by decide) rfl (fun ls hl => ?_)
      refine w_loop (ι := Nat) (fun k => 16 - k) (fun k => k ≤ 16) (fun k => [(a 9, .inl (G.2.1, 256, .inl fu)), (a 18, .inl (G.2.2.1, 16, .inl (fsc k (mSR fu (mBk fr fu rd X n)) fc))), (h, .inr (7, mO a rd mn tp os ty sz)), (a 16, .inl (G.2.2.1, 240, .inl fr)), (b, .inl (G.2.2.1, bn, .inl (fa d 16 (mBk fr fu rd X n) fb)))]) (fun k => [(5, .int (nI k)), (4, .int (nI (rd - n) - nI 1)), (0, .ref h), (1, .ref b), (2, .int (nI d)), (3, .int (nI 1))]) 0 (by omega) (by simp only [fsc_0]; exact hP) (by simp only [fsc_0]; exact hD) hS hl ?_
      intro k H locs ls hk hP hD hS hl ihk
      have hk : k ≤ 16 := hk
      have hP : va_P G.1 vwCl [(a 9, .inl (G.2.1, 256, .inl fu)), (a 18, .inl (G.2.2.1, 16, .inl (fsc k (mSR fu (mBk fr fu rd X n)) fc))), (h, .inr (7, mO a rd mn tp os ty sz)), (a 16, .inl (G.2.2.1, 240, .inl fr)), (b, .inl (G.2.2.1, bn, .inl (fa d 16 (mBk fr fu rd X n) fb)))] H := hP
      have hD : va_D A [(a 9, .inl (G.2.1, 256, .inl fu)), (a 18, .inl (G.2.2.1, 16, .inl (fsc k (mSR fu (mBk fr fu rd X n)) fc))), (h, .inr (7, mO a rd mn tp os ty sz)), (a 16, .inl (G.2.2.1, 240, .inl fr)), (b, .inl (G.2.2.1, bn, .inl (fa d 16 (mBk fr fu rd X n) fb)))] := hD
      have hl : lv_has ls 6 [(5, .int (nI k)), (4, .int (nI (rd - n) - nI 1)), (0, .ref h), (1, .ref b), (2, .int (nI d)), (3, .int (nI 1))] := hl
      refine lv_iload hx hb dX8_aes_30 (lv_at hl 0 rfl) ?_
      refine lv_bipush (v := nI 16) hx hb dX8_aes_32 (by decide) ?_
      refine w_icmpN_ge (tgt := 76) hx hb (by omega) (by omega) dX8_aes_34 (by decide) (fun h3 => ?_) (fun h3 => ?_)
      · obtain rfl : 16 = k := Eq.symm (show k = 16 from by omega)
        have hP := w_ext (fsc 16 (mSR fu (mBk fr fu rd X n)) fc) ((mSR fu (mBk fr fu rd X n))) 1 hP rfl (fun j hj => fsc_16 hj)
        have hD := hD.set (p := 1) (e := .inl (G.2.2.1, 16, .inl (mSR fu (mBk fr fu rd X n)))) rfl
        have hP : va_P G.1 vwCl [(a 9, .inl (G.2.1, 256, .inl fu)), (a 18, .inl (G.2.2.1, 16, .inl (mSR fu (mBk fr fu rd X n)))), (h, .inr (7, mO a rd mn tp os ty sz)), (a 16, .inl (G.2.2.1, 240, .inl fr)), (b, .inl (G.2.2.1, bn, .inl (fa d 16 (mBk fr fu rd X n) fb)))] H := hP
        have hD : va_D A [(a 9, .inl (G.2.1, 256, .inl fu)), (a 18, .inl (G.2.2.1, 16, .inl (mSR fu (mBk fr fu rd X n)))), (h, .inr (7, mO a rd mn tp os ty sz)), (a 16, .inl (G.2.2.1, 240, .inl fr)), (b, .inl (G.2.2.1, bn, .inl (fa d 16 (mBk fr fu rd X n) fb)))] := hD
        refine lv_iconst (v := nI 0) hx hb dX8_aes_76 (by decide) ?_
        refine lv_istore (lv' := [(5, .int (nI 0)), (4, .int (nI (rd - n) - nI 1)), (0, .ref h), (1, .ref b), (2, .int (nI d)), (3, .int (nI 1))]) hx hb dX8_aes_77 hl (by decide) rfl (fun ls hl => ?_)
        refine w_loop (ι := Nat) (fun k2 => 16 - k2) (fun k2 => k2 ≤ 16) (fun k2 => [(a 9, .inl (G.2.1, 256, .inl fu)), (a 18, .inl (G.2.2.1, 16, .inl (mSR fu (mBk fr fu rd X n)))), (h, .inr (7, mO a rd mn tp os ty sz)), (a 16, .inl (G.2.2.1, 240, .inl fr)), (b, .inl (G.2.2.1, bn, .inl (fa d k2 (fun j_ => bN ((mSR fu (mBk fr fu rd X n)) j_)) (fa d 16 (mBk fr fu rd X n) fb))))]) (fun k2 => [(5, .int (nI k2)), (4, .int (nI (rd - n) - nI 1)), (0, .ref h), (1, .ref b), (2, .int (nI d)), (3, .int (nI 1))]) 0 (by omega) (by simp only [fa_0]; exact hP) (by simp only [fa_0]; exact hD) hS hl ?_
        intro k2 H locs ls hk2 hP hD hS hl ih2
        have hk2 : k2 ≤ 16 := hk2
        have hP : va_P G.1 vwCl [(a 9, .inl (G.2.1, 256, .inl fu)), (a 18, .inl (G.2.2.1, 16, .inl (mSR fu (mBk fr fu rd X n)))), (h, .inr (7, mO a rd mn tp os ty sz)), (a 16, .inl (G.2.2.1, 240, .inl fr)), (b, .inl (G.2.2.1, bn, .inl (fa d k2 (fun j_ => bN ((mSR fu (mBk fr fu rd X n)) j_)) (fa d 16 (mBk fr fu rd X n) fb))))] H := hP
        have hD : va_D A [(a 9, .inl (G.2.1, 256, .inl fu)), (a 18, .inl (G.2.2.1, 16, .inl (mSR fu (mBk fr fu rd X n)))), (h, .inr (7, mO a rd mn tp os ty sz)), (a 16, .inl (G.2.2.1, 240, .inl fr)), (b, .inl (G.2.2.1, bn, .inl (fa d k2 (fun j_ => bN ((mSR fu (mBk fr fu rd X n)) j_)) (fa d 16 (mBk fr fu rd X n) fb))))] := hD
        have hl : lv_has ls 6 [(5, .int (nI k2)), (4, .int (nI (rd - n) - nI 1)), (0, .ref h), (1, .ref b), (2, .int (nI d)), (3, .int (nI 1))] := hl
        refine lv_iload hx hb dX8_aes_79 (lv_at hl 0 rfl) ?_
        refine lv_bipush (v := nI 16) hx hb dX8_aes_81 (by decide) ?_
        refine w_icmpN_ge (tgt := 105) hx hb (by omega) (by omega) dX8_aes_83 (by decide) (fun h4 => ?_) (fun h4 => ?_)
        · obtain rfl : 16 = k2 := Eq.symm (show k2 = 16 from by omega)
          have hP : va_P G.1 vwCl [(a 9, .inl (G.2.1, 256, .inl fu)), (a 18, .inl (G.2.2.1, 16, .inl (mSR fu (mBk fr fu rd X n)))), (h, .inr (7, mO a rd mn tp os ty sz)), (a 16, .inl (G.2.2.1, 240, .inl fr)), (b, .inl (G.2.2.1, bn, .inl (fa d 16 (fun j_ => bN ((mSR fu (mBk fr fu rd X n)) j_)) fb)))] H := by have h9 := hP; rw [fa_fa] at h9; exact h9
          have hD : va_D A [(a 9, .inl (G.2.1, 256, .inl fu)), (a 18, .inl (G.2.2.1, 16, .inl (mSR fu (mBk fr fu rd X n)))), (h, .inr (7, mO a rd mn tp os ty sz)), (a 16, .inl (G.2.2.1, 240, .inl fr)), (b, .inl (G.2.2.1, bn, .inl (fa d 16 (fun j_ => bN ((mSR fu (mBk fr fu rd X n)) j_)) fb)))] := by have h9 := hD; rw [fa_fa] at h9; exact h9
          refine lv_aload_n hx hb dX8_aes_105 rfl (lv_at hl 2 rfl) ?_
          refine lv_aload_n hx hb dX8_aes_106 rfl (lv_at hl 3 rfl) ?_
          refine lv_iload_n hx hb dX8_aes_107 rfl (lv_at hl 4 rfl) ?_
          refine lv_iload hx hb dX8_aes_108 (lv_at hl 1 rfl) ?_
          refine w_top (nI (rd - n - 1)) (pk_sub (by omega)) ?_
          refine w_finv (wr := [(a 9, .inl (G.2.1, 256, .inl fu)), (a 18, .inl (G.2.2.1, 16, .inl (mSR fu (mBk fr fu rd X n))))]) (va_runV (As := [.ref b, .int (nI d), .int (nI (rd - n - 1))]) (rest := []) ⟨hx, hb, hml, hown, hts⟩ (c_m_addKey l G h a rd mn tp os ty sz b bn d (fun j_ => bN ((mSR fu (mBk fr fu rd X n)) j_)) fb fr (rd - n - 1) (by omega) (by omega) (by omega) H.size) (cwV 3 hts gX8_aes_X8_addKey rfl rfl rfl (by decide +kernel) ⟨Nat.le_of_ble_eq_true rfl, Nat.le_of_ble_eq_true rfl⟩) ⟨wPre.blind, (va_recv hK hP (ci := 7) (q0 := 2) rfl rfl), (fun U hU hW => ⟨rfl, w_pre hK hT hA hP hD hS (isC := [2, 3, 4]) (by decide) rfl U hU hW⟩)⟩ rfl rfl hl.1 rfl (lv_room (Nat.le_of_ble_eq_true rfl)) dX8_aes_110 ⟨Nat.le_of_ble_eq_true rfl, Nat.le_of_ble_eq_true rfl⟩) hA hP hD hS [2, 3, 4] [0, 1] rfl rfl (by decide) (by decide) (fun u H locs hpost hP hD hS => ?_)
          have hP : va_P G.1 vwCl [(a 9, .inl (G.2.1, 256, .inl fu)), (a 18, .inl (G.2.2.1, 16, .inl (mSR fu (mBk fr fu rd X n)))), (h, .inr (7, mO a rd mn tp os ty sz)), (a 16, .inl (G.2.2.1, 240, .inl fr)), (b, .inl (G.2.2.1, bn, .inl (fa d 16 (mAk fr (rd - n - 1) (fun j_ => bN ((mSR fu (mBk fr fu rd X n)) j_))) fb)))] H := hP
          have hD : va_D A [(a 9, .inl (G.2.1, 256, .inl fu)), (a 18, .inl (G.2.2.1, 16, .inl (mSR fu (mBk fr fu rd X n)))), (h, .inr (7, mO a rd mn tp os ty sz)), (a 16, .inl (G.2.2.1, 240, .inl fr)), (b, .inl (G.2.2.1, bn, .inl (fa d 16 (mAk fr (rd - n - 1) (fun j_ => bN ((mSR fu (mBk fr fu rd X n)) j_))) fb)))] := hD
          refine lv_iload hx hb dX8_aes_113 (lv_at hl 1 rfl) ?_
          refine w_top (nI (rd - n - 1)) (pk_sub (by omega)) ?_
          refine lv_if_le (tgt := 132) hx hb dX8_aes_115 (by decide) (fun h5 => ?_) (fun h5 => ?_)
          · have h7 : ¬ 0 < rd - n - 1 := fun q9 => nI_nle q9 (by omega) h5
            have hP : va_P G.1 vwCl [(a 9, .inl (G.2.1, 256, .inl fu)), (a 18, .inl (G.2.2.1, 16, .inl (mSR fu (mBk fr fu rd X n)))), (h, .inr (7, mO a rd mn tp os ty sz)), (a 16, .inl (G.2.2.1, 240, .inl fr)), (b, .inl (G.2.2.1, bn, .inl (fa d 16 (if n + 1 < rd then mBk fr fu rd X (n + 1) else mBa fr fu rd X) fb)))] H := by have h9 := hP; rw [show (mAk fr (rd - n - 1) (fun j_ => bN ((mSR fu (mBk fr fu rd X n)) j_))) = (if n + 1 < rd then mBk fr fu rd X (n + 1) else mBa fr fu rd X) from (by rw [if_neg (by omega)]; show _ = mAk fr 0 (fun j => bN (mSR fu (mBk fr fu rd X (rd - 1)) j)); rw [show rd - n - 1 = 0 by omega, show rd - 1 = n by omega])] at h9; exact h9
            have hD : va_D A [(a 9, .inl (G.2.1, 256, .inl fu)), (a 18, .inl (G.2.2.1, 16, .inl (mSR fu (mBk fr fu rd X n)))), (h, .inr (7, mO a rd mn tp os ty sz)), (a 16, .inl (G.2.2.1, 240, .inl fr)), (b, .inl (G.2.2.1, bn, .inl (fa d 16 (if n + 1 < rd then mBk fr fu rd X (n + 1) else mBa fr fu rd X) fb)))] := by have h9 := hD; rw [show (mAk fr (rd - n - 1) (fun j_ => bN ((mSR fu (mBk fr fu rd X n)) j_))) = (if n + 1 < rd then mBk fr fu rd X (n + 1) else mBa fr fu rd X) from (by rw [if_neg (by omega)]; show _ = mAk fr 0 (fun j => bN (mSR fu (mBk fr fu rd X (rd - 1)) j)); rw [show rd - n - 1 = 0 by omega, show rd - 1 = n by omega])] at h9; exact h9
            obtain ⟨x6, ex6⟩ : ∃ y : Int32, y = nI (rd - n) - nI 1 + -1 := ⟨_, rfl⟩
            refine lv_iinc (v := x6) (lv' := [(4, .int x6), (5, .int (nI 16)), (0, .ref h), (1, .ref b), (2, .int (nI d)), (3, .int (nI 1))]) hx hb dX8_aes_132 hl (k := 1) rfl (by rw [ex6]; rfl) (by decide) rfl (fun ls hl => ?_)
            have hl : lv_has ls 6 [(4, .int (nI (rd - (n + 1)) - nI 1)), (5, .int (nI 16)), (0, .ref h), (1, .ref b), (2, .int (nI d)), (3, .int (nI 1))] := by have h9 := hl; rw [ex6, sub1_dec hpos] at h9; exact h9
            refine lv_goto (tgt := 22) hx hb dX8_aes_135 (by decide) ?_
            exact ih ⟨n + 1, _⟩ H _ _ (by dsimp only; omega) (by dsimp only; omega) hP hD hS (lv_sub hl [0, 2, 3, 4, 5] rfl)
          · have h7 : 0 < rd - n - 1 := by
              rcases Nat.eq_zero_or_pos (rd - n - 1) with q9 | q9
              · exact absurd (by rw [q9]; decide) h5
              · exact q9
            refine lv_aload_n hx hb dX8_aes_118 rfl (lv_at hl 2 rfl) ?_
            refine lv_aload_n hx hb dX8_aes_119 rfl (lv_at hl 3 rfl) ?_
            refine lv_iload_n hx hb dX8_aes_120 rfl (lv_at hl 4 rfl) ?_
            refine lv_bipush (v := nI 14) hx hb dX8_aes_121 (by decide) ?_
            refine lv_bipush (v := nI 11) hx hb dX8_aes_123 (by decide) ?_
            refine lv_bipush (v := nI 13) hx hb dX8_aes_125 (by decide) ?_
            refine lv_bipush (v := nI 9) hx hb dX8_aes_127 (by decide) ?_
            refine w_finv (wr := [(a 9, .inl (G.2.1, 256, .inl fu)), (a 16, .inl (G.2.2.1, 240, .inl fr))]) (va_runV (As := [.ref b, .int (nI d), .int (nI 14), .int (nI 11), .int (nI 13), .int (nI 9)]) (rest := []) ⟨hx, hb, hml, hown, hts⟩ (c_m_mixColumns l G h a rd mn tp os ty sz b bn d (mAk fr (rd - n - 1) (fun j_ => bN ((mSR fu (mBk fr fu rd X n)) j_))) fb (mSR fu (mBk fr fu rd X n)) (nI 14) (nI 11) (nI 13) (nI 9) (by omega) (by omega) H.size) (cwV 6 hts gX8_aes_X8_mixColumns rfl rfl rfl (by decide +kernel) ⟨Nat.le_of_ble_eq_true rfl, Nat.le_of_ble_eq_true rfl⟩) ⟨wPre.blind, (va_recv hK hP (ci := 7) (q0 := 2) rfl rfl), (fun U hU hW => ⟨rfl, w_pre hK hT hA hP hD hS (isC := [2, 1, 4]) (by decide) rfl U hU hW⟩)⟩ rfl rfl hl.1 rfl (lv_room (Nat.le_of_ble_eq_true rfl)) dX8_aes_129 ⟨Nat.le_of_ble_eq_true rfl, Nat.le_of_ble_eq_true rfl⟩) hA hP hD hS [2, 1, 4] [0, 3] rfl rfl (by decide) (by decide) (fun u H locs hpost hP hD hS => ?_)
            have hP : va_P G.1 vwCl [(a 9, .inl (G.2.1, 256, .inl fu)), (a 16, .inl (G.2.2.1, 240, .inl fr)), (h, .inr (7, mO a rd mn tp os ty sz)), (a 18, .inl (G.2.2.1, 16, .inl (mMx (nI 14) (nI 11) (nI 13) (nI 9) (mAk fr (rd - n - 1) (fun j_ => bN ((mSR fu (mBk fr fu rd X n)) j_)))))), (b, .inl (G.2.2.1, bn, .inl (fa d 16 (fun j_ => bN (mMx (nI 14) (nI 11) (nI 13) (nI 9) (mAk fr (rd - n - 1) (fun j_ => bN ((mSR fu (mBk fr fu rd X n)) j_))) j_)) fb)))] H := hP
            have hD : va_D A [(a 9, .inl (G.2.1, 256, .inl fu)), (a 16, .inl (G.2.2.1, 240, .inl fr)), (h, .inr (7, mO a rd mn tp os ty sz)), (a 18, .inl (G.2.2.1, 16, .inl (mMx (nI 14) (nI 11) (nI 13) (nI 9) (mAk fr (rd - n - 1) (fun j_ => bN ((mSR fu (mBk fr fu rd X n)) j_)))))), (b, .inl (G.2.2.1, bn, .inl (fa d 16 (fun j_ => bN (mMx (nI 14) (nI 11) (nI 13) (nI 9) (mAk fr (rd - n - 1) (fun j_ => bN ((mSR fu (mBk fr fu rd X n)) j_))) j_)) fb)))] := hD
            have hP : va_P G.1 vwCl [(a 9, .inl (G.2.1, 256, .inl fu)), (a 16, .inl (G.2.2.1, 240, .inl fr)), (h, .inr (7, mO a rd mn tp os ty sz)), (a 18, .inl (G.2.2.1, 16, .inl (mMx (nI 14) (nI 11) (nI 13) (nI 9) (mAk fr (rd - n - 1) (fun j_ => bN ((mSR fu (mBk fr fu rd X n)) j_)))))), (b, .inl (G.2.2.1, bn, .inl (fa d 16 (if n + 1 < rd then mBk fr fu rd X (n + 1) else mBa fr fu rd X) fb)))] H := by have h9 := hP; rw [show (fun j_ => bN (mMx (nI 14) (nI 11) (nI 13) (nI 9) (mAk fr (rd - n - 1) (fun j_ => bN ((mSR fu (mBk fr fu rd X n)) j_))) j_)) = (if n + 1 < rd then mBk fr fu rd X (n + 1) else mBa fr fu rd X) from (by rw [if_pos (by omega)]; show _ = fun j => bN (mMx (nI 14) (nI 11) (nI 13) (nI 9) (mAk fr (rd - 1 - n) (fun j => bN (mSR fu (mBk fr fu rd X n) j))) j); rw [show rd - 1 - n = rd - n - 1 by omega])] at h9; exact h9
            have hD : va_D A [(a 9, .inl (G.2.1, 256, .inl fu)), (a 16, .inl (G.2.2.1, 240, .inl fr)), (h, .inr (7, mO a rd mn tp os ty sz)), (a 18, .inl (G.2.2.1, 16, .inl (mMx (nI 14) (nI 11) (nI 13) (nI 9) (mAk fr (rd - n - 1) (fun j_ => bN ((mSR fu (mBk fr fu rd X n)) j_)))))), (b, .inl (G.2.2.1, bn, .inl (fa d 16 (if n + 1 < rd then mBk fr fu rd X (n + 1) else mBa fr fu rd X) fb)))] := by have h9 := hD; rw [show (fun j_ => bN (mMx (nI 14) (nI 11) (nI 13) (nI 9) (mAk fr (rd - n - 1) (fun j_ => bN ((mSR fu (mBk fr fu rd X n)) j_))) j_)) = (if n + 1 < rd then mBk fr fu rd X (n + 1) else mBa fr fu rd X) from (by rw [if_pos (by omega)]; show _ = fun j => bN (mMx (nI 14) (nI 11) (nI 13) (nI 9) (mAk fr (rd - 1 - n) (fun j => bN (mSR fu (mBk fr fu rd X n) j))) j); rw [show rd - 1 - n = rd - n - 1 by omega])] at h9; exact h9
            obtain ⟨x7, ex7⟩ : ∃ y : Int32, y = nI (rd - n) - nI 1 + -1 := ⟨_, rfl⟩
            refine lv_iinc (v := x7) (lv' := [(4, .int x7), (5, .int (nI 16)), (0, .ref h), (1, .ref b), (2, .int (nI d)), (3, .int (nI 1))]) hx hb dX8_aes_132 hl (k := 1) rfl (by rw [ex7]; rfl) (by decide) rfl (fun ls hl => ?_)
            have hl : lv_has ls 6 [(4, .int (nI (rd - (n + 1)) - nI 1)), (5, .int (nI 16)), (0, .ref h), (1, .ref b), (2, .int (nI d)), (3, .int (nI 1))] := by have h9 := hl; rw [ex7, sub1_dec hpos] at h9; exact h9
            refine lv_goto (tgt := 22) hx hb dX8_aes_135 (by decide) ?_
            exact ih ⟨n + 1, _⟩ H _ _ (by dsimp only; omega) (by dsimp only; omega) (hP.sub [0, 3, 2, 1, 4] rfl) (hD.sub [0, 3, 2, 1, 4] (by decide) rfl) hS (lv_sub hl [0, 2, 3, 4, 5] rfl)
        · refine lv_aload_n hx hb dX8_aes_86 rfl (lv_at hl 3 rfl) ?_
          refine lv_iload_n hx hb dX8_aes_87 rfl (lv_at hl 4 rfl) ?_
          refine lv_iload hx hb dX8_aes_88 (lv_at hl 0 rfl) ?_
          refine w_iaddN hx hb dX8_aes_90 ?_
          refine lv_aload_n hx hb dX8_aes_91 rfl (lv_at hl 2 rfl) ?_
          refine va_get (D := G.1) (ci := 7) (v := .ref (a 18)) (C := RX8) (T := TX8) (N := 35) hx hb hts hinX8 hown hK hP 2 rfl rfl 18 (by decide) (hts (.fieldLink RX8 74 "CipherBoxModel" "cell" "[B") (by decide +kernel)) (fun _ h9 => h9) rfl dX8_aes_92 ?_
          refine lv_iload hx hb dX8_aes_95 (lv_at hl 0 rfl) ?_
          refine w_bald hx hb hK hP 1 rfl (by omega) (by omega) dX8_aes_97 ?_
          refine w_bast hx hb hK hP hD hS 4 rfl (by omega) (by omega) (fa d (k2 + 1) (fun j_ => bN ((mSR fu (mBk fr fu rd X n)) j_)) (fa d 16 (mBk fr fu rd X n) fb)) (fa_s rfl) dX8_aes_98 (fun H locs hP hD hS => ?_)
          have hP : va_P G.1 vwCl [(a 9, .inl (G.2.1, 256, .inl fu)), (a 18, .inl (G.2.2.1, 16, .inl (mSR fu (mBk fr fu rd X n)))), (h, .inr (7, mO a rd mn tp os ty sz)), (a 16, .inl (G.2.2.1, 240, .inl fr)), (b, .inl (G.2.2.1, bn, .inl (fa d (k2 + 1) (fun j_ => bN ((mSR fu (mBk fr fu rd X n)) j_)) (fa d 16 (mBk fr fu rd X n) fb))))] H := hP
          have hD : va_D A [(a 9, .inl (G.2.1, 256, .inl fu)), (a 18, .inl (G.2.2.1, 16, .inl (mSR fu (mBk fr fu rd X n)))), (h, .inr (7, mO a rd mn tp os ty sz)), (a 16, .inl (G.2.2.1, 240, .inl fr)), (b, .inl (G.2.2.1, bn, .inl (fa d (k2 + 1) (fun j_ => bN ((mSR fu (mBk fr fu rd X n)) j_)) (fa d 16 (mBk fr fu rd X n) fb))))] := hD
          refine lv_iinc (v := nI (k2 + 1)) (lv' := [(5, .int (nI (k2 + 1))), (4, .int (nI (rd - n) - nI 1)), (0, .ref h), (1, .ref b), (2, .int (nI d)), (3, .int (nI 1))]) hx hb dX8_aes_99 hl (k := 0) rfl (nI_add k2 1) (by decide) rfl (fun ls hl => ?_)
          refine lv_goto (tgt := 79) hx hb dX8_aes_102 (by decide) ?_
          exact ih2 (k2 + 1) H _ _ (by omega) (by omega) hP hD hS (lv_sub hl [0, 1, 2, 3, 4, 5] rfl)
      · refine lv_aload_n hx hb dX8_aes_37 rfl (lv_at hl 2 rfl) ?_
        refine va_get (D := G.1) (ci := 7) (v := .ref (a 18)) (C := RX8) (T := TX8) (N := 35) hx hb hts hinX8 hown hK hP 2 rfl rfl 18 (by decide) (hts (.fieldLink RX8 74 "CipherBoxModel" "cell" "[B") (by decide +kernel)) (fun _ h9 => h9) rfl dX8_aes_38 ?_
        refine lv_iload hx hb dX8_aes_41 (lv_at hl 0 rfl) ?_
        refine lv_iconst (v := nI 4) hx hb dX8_aes_43 (by decide) ?_
        refine lv_iload hx hb dX8_aes_44 (lv_at hl 0 rfl) ?_
        refine lv_iconst (v := nI 4) hx hb dX8_aes_46 (by decide) ?_
        refine w_iremN hx hb (by omega) (by omega) (by omega) dX8_aes_47 ?_
        refine w_imulN hx hb dX8_aes_48 ?_
        refine w_iaddN hx hb dX8_aes_49 ?_
        refine lv_bipush (v := nI 16) hx hb dX8_aes_50 (by decide) ?_
        refine w_iremN hx hb (by omega) (by omega) (by omega) dX8_aes_52 ?_
        refine lv_aload_n hx hb dX8_aes_53 rfl (lv_at hl 2 rfl) ?_
        refine va_get (D := G.1) (ci := 7) (v := .ref (a 9)) (C := RX8) (T := TX8) (N := 35) hx hb hts hinX8 hown hK hP 2 rfl rfl 9 (by decide) (hts (.fieldLink RX8 59 "CipherBoxModel" "unbox" "[I") (by decide +kernel)) (fun _ h9 => h9) rfl dX8_aes_54 ?_
        refine lv_aload_n hx hb dX8_aes_57 rfl (lv_at hl 3 rfl) ?_
        refine lv_iload_n hx hb dX8_aes_58 rfl (lv_at hl 4 rfl) ?_
        refine lv_iload hx hb dX8_aes_59 (lv_at hl 0 rfl) ?_
        refine w_iaddN hx hb dX8_aes_61 ?_
        refine w_bald hx hb hK hP 4 rfl (by omega) (by omega) dX8_aes_62 ?_
        refine w_top ((mBk fr fu rd X n) k) (fa_at (by omega)) ?_
        refine lv_sipush (v := nI 255) hx hb dX8_aes_63 (by decide) ?_
        refine lv_iand hx hb dX8_aes_66 ?_
        refine w_top (nI (un ((mBk fr fu rd X n) k) % 2 ^ 8)) (un_255 _) ?_
        refine w_iald hx hb hK hP 0 rfl (Nat.mod_lt _ (by decide)) (by omega) dX8_aes_67 ?_
        refine lv_i2b (v := bN (fu (un ((mBk fr fu rd X n) k) % 2 ^ 8))) hx hb dX8_aes_68 rfl ?_
        refine w_bast hx hb hK hP hD hS 1 rfl (by omega) (by omega) (fsc (k + 1) (mSR fu (mBk fr fu rd X n)) fc) (by rw [bN_bN]; exact fsc_s (by omega) (by rw [mSR_i (by omega)])) dX8_aes_69 (fun H locs hP hD hS => ?_)
        have hP : va_P G.1 vwCl [(a 9, .inl (G.2.1, 256, .inl fu)), (a 18, .inl (G.2.2.1, 16, .inl (fsc (k + 1) (mSR fu (mBk fr fu rd X n)) fc))), (h, .inr (7, mO a rd mn tp os ty sz)), (a 16, .inl (G.2.2.1, 240, .inl fr)), (b, .inl (G.2.2.1, bn, .inl (fa d 16 (mBk fr fu rd X n) fb)))] H := hP
        have hD : va_D A [(a 9, .inl (G.2.1, 256, .inl fu)), (a 18, .inl (G.2.2.1, 16, .inl (fsc (k + 1) (mSR fu (mBk fr fu rd X n)) fc))), (h, .inr (7, mO a rd mn tp os ty sz)), (a 16, .inl (G.2.2.1, 240, .inl fr)), (b, .inl (G.2.2.1, bn, .inl (fa d 16 (mBk fr fu rd X n) fb)))] := hD
        refine lv_iinc (v := nI (k + 1)) (lv' := [(5, .int (nI (k + 1))), (4, .int (nI (rd - n) - nI 1)), (0, .ref h), (1, .ref b), (2, .int (nI d)), (3, .int (nI 1))]) hx hb dX8_aes_70 hl (k := 0) rfl (nI_add k 1) (by decide) rfl (fun ls hl => ?_)
        refine lv_goto (tgt := 30) hx hb dX8_aes_73 (by decide) ?_
        exact ihk (k + 1) H _ _ (by omega) (by omega) hP hD hS (lv_sub hl [0, 1, 2, 3, 4, 5] rfl)

set_option maxHeartbeats 4000000 in
set_option maxRecDepth 100000 in
theorem c_m_aesKey (l : Launch) (G : wG) (h : Nat) (a : Nat → Nat) (rd mn tp os : Nat) (ty : Int32) (sz : Nat) (b bn : Nat) (fb fr fs : Nat → Int32) (nw : Nat) (hn : nw = 4 ∨ nw = 6 ∨ nw = 8) (hb9 : 4 * nw ≤ bn) (hbn : bn < 2 ^ 20) : CMv l G yX8_aesKey wsX8_aesKey 1 20 0 0 [.ref h, .ref b, .int (nI 0), .int (nI (4 * nw))] [(h, .inr (7, mO a rd mn tp os ty sz)), (a 16, .inl (G.2.2.1, 240, .inl fr)), (a 8, .inl (G.2.1, 256, .inl fs)), (b, .inl (G.2.2.1, bn, .inl fb))] (fun (_ : Unit) => True) (fun _ => [(h, .inr (7, mO a (nw + 6) mn tp os ty sz)), (a 16, .inl (G.2.2.1, 240, .inl (mkA fs (fl (4 * nw) (fun j_ => bN (fb j_)) fr) nw (3 * nw + 28)))), (a 8, .inl (G.2.1, 256, .inl fs)), (b, .inl (G.2.2.1, bn, .inl fb))]) := by
  refine CMv.start cX8_aesKey 9 (by decide) rfl (Nat.le_of_ble_eq_true rfl) ?_
  intro p e s m below meth c A Q ls H locs hx hb hml hown hnm hts hK hT hA hP hD hS hl hret
  have hinX8 : ∀ w ∈ u_ws RX8 TX8 35, w ∈ wsX8_aesKey := by decide +kernel
  have hl : lv_has ls 9 [(0, .ref h), (1, .ref b), (2, .int (nI 0)), (3, .int (nI (4 * nw)))] := hl
  refine lv_iload_n hx hb dX8_aesKey_0 rfl (lv_at hl 3 rfl) ?_
  refine lv_iconst (v := nI 4) hx hb dX8_aesKey_1 (by decide) ?_
  refine w_idivN hx hb (by omega) (by omega) (by omega) dX8_aesKey_2 ?_
  refine w_top (nI nw) (by rw [show 4 * nw / 4 = nw by omega]) ?_
  refine lv_istore (lv' := [(4, .int (nI nw)), (0, .ref h), (1, .ref b), (2, .int (nI 0)), (3, .int (nI (4 * nw)))]) hx hb dX8_aesKey_3 hl (by decide) rfl (fun ls hl => ?_)
  refine lv_aload_n hx hb dX8_aesKey_5 rfl (lv_at hl 1 rfl) ?_
  refine lv_iload hx hb dX8_aesKey_6 (lv_at hl 0 rfl) ?_
  refine lv_bipush (v := nI 6) hx hb dX8_aesKey_8 (by decide) ?_
  refine w_iaddN hx hb dX8_aesKey_10 ?_
  refine va_put (D := G.1) (ci := 7) (v := .int (nI (nw + 6))) (ty := .int) (C := RX8) (T := TX8) (N := 35) hx hb hts hinX8 tyX8 tyX8_ok nmX8 hown hK hP hD hS 0 rfl rfl 17 (by decide) (hts (.fieldLink RX8 62 "CipherBoxModel" "aesRounds" "I") (by decide +kernel)) (fun _ h9 => h9) rfl (by decide +kernel) rfl rfl (Nat.le_of_ble_eq_true rfl) dX8_aesKey_11 (fun H locs hP hD hS => ?_)
  have hP : va_P G.1 vwCl [(h, .inr (7, mO a (nw + 6) mn tp os ty sz)), (a 16, .inl (G.2.2.1, 240, .inl fr)), (a 8, .inl (G.2.1, 256, .inl fs)), (b, .inl (G.2.2.1, bn, .inl fb))] H := hP
  have hD : va_D A [(h, .inr (7, mO a (nw + 6) mn tp os ty sz)), (a 16, .inl (G.2.2.1, 240, .inl fr)), (a 8, .inl (G.2.1, 256, .inl fs)), (b, .inl (G.2.2.1, bn, .inl fb))] := hD
  refine lv_iconst (v := nI 1) hx hb dX8_aesKey_14 (by decide) ?_
  refine lv_istore (lv' := [(5, .int (nI 1)), (4, .int (nI nw)), (0, .ref h), (1, .ref b), (2, .int (nI 0)), (3, .int (nI (4 * nw)))]) hx hb dX8_aesKey_15 hl (by decide) rfl (fun ls hl => ?_)
  refine lv_iconst (v := nI 0) hx hb dX8_aesKey_17 (by decide) ?_
  refine lv_istore (lv' := [(6, .int (nI 0)), (5, .int (nI 1)), (4, .int (nI nw)), (0, .ref h), (1, .ref b), (2, .int (nI 0)), (3, .int (nI (4 * nw)))]) hx hb dX8_aesKey_18 hl (by decide) rfl (fun ls hl => ?_)
  refine w_loop (ι := Nat) (fun k => 4 * nw - k) (fun k => k ≤ 4 * nw) (fun k => [(h, .inr (7, mO a (nw + 6) mn tp os ty sz)), (a 16, .inl (G.2.2.1, 240, .inl (fl k (fun j_ => bN (fb j_)) fr))), (a 8, .inl (G.2.1, 256, .inl fs)), (b, .inl (G.2.2.1, bn, .inl fb))]) (fun k => [(6, .int (nI k)), (5, .int (nI 1)), (4, .int (nI nw)), (0, .ref h), (1, .ref b), (2, .int (nI 0)), (3, .int (nI (4 * nw)))]) 0 (Nat.zero_le _) (by simp only [fl_0]; exact hP) (by simp only [fl_0]; exact hD) hS hl ?_
  intro k H locs ls hk hP hD hS hl ih
  have hk : k ≤ 4 * nw := hk
  have hP : va_P G.1 vwCl [(h, .inr (7, mO a (nw + 6) mn tp os ty sz)), (a 16, .inl (G.2.2.1, 240, .inl (fl k (fun j_ => bN (fb j_)) fr))), (a 8, .inl (G.2.1, 256, .inl fs)), (b, .inl (G.2.2.1, bn, .inl fb))] H := hP
  have hD : va_D A [(h, .inr (7, mO a (nw + 6) mn tp os ty sz)), (a 16, .inl (G.2.2.1, 240, .inl (fl k (fun j_ => bN (fb j_)) fr))), (a 8, .inl (G.2.1, 256, .inl fs)), (b, .inl (G.2.2.1, bn, .inl fb))] := hD
  have hl : lv_has ls 9 [(6, .int (nI k)), (5, .int (nI 1)), (4, .int (nI nw)), (0, .ref h), (1, .ref b), (2, .int (nI 0)), (3, .int (nI (4 * nw)))] := hl
  refine lv_iload hx hb dX8_aesKey_20 (lv_at hl 0 rfl) ?_
  refine lv_iload_n hx hb dX8_aesKey_22 rfl (lv_at hl 6 rfl) ?_
  refine w_icmpN_ge (tgt := 45) hx hb (by omega) (by omega) dX8_aesKey_23 (by decide) (fun h1 => ?_) (fun h1 => ?_)
  · obtain rfl : 4 * nw = k := Eq.symm (show k = 4 * nw from by omega)
    refine lv_iload hx hb dX8_aesKey_45 (lv_at hl 2 rfl) ?_
    refine lv_istore (lv' := [(6, .int (nI nw)), (5, .int (nI 1)), (4, .int (nI nw)), (0, .ref h), (1, .ref b), (2, .int (nI 0)), (3, .int (nI (4 * nw)))]) hx hb dX8_aesKey_47 hl (by decide) rfl (fun ls hl => ?_)
    refine w_loop (ι := Nat) (fun t => 3 * nw + 28 - t) (fun t => t ≤ 3 * nw + 28) (fun t => [(h, .inr (7, mO a (nw + 6) mn tp os ty sz)), (a 16, .inl (G.2.2.1, 240, .inl (mkA fs (fl (4 * nw) (fun j_ => bN (fb j_)) fr) nw t))), (a 8, .inl (G.2.1, 256, .inl fs)), (b, .inl (G.2.2.1, bn, .inl fb))]) (fun t => [(6, .int (nI (nw + t))), (5, .int (mcI nw t)), (4, .int (nI nw)), (0, .ref h), (1, .ref b), (2, .int (nI 0)), (3, .int (nI (4 * nw)))]) 0 (by omega) hP hD hS (by have h9 := hl; rw [← mc_0 hn] at h9; exact h9) ?_
    intro t H locs ls ht hP hD hS hl iht
    have ht : t ≤ 3 * nw + 28 := ht
    have hP : va_P G.1 vwCl [(h, .inr (7, mO a (nw + 6) mn tp os ty sz)), (a 16, .inl (G.2.2.1, 240, .inl (mkA fs (fl (4 * nw) (fun j_ => bN (fb j_)) fr) nw t))), (a 8, .inl (G.2.1, 256, .inl fs)), (b, .inl (G.2.2.1, bn, .inl fb))] H := hP
    have hD : va_D A [(h, .inr (7, mO a (nw + 6) mn tp os ty sz)), (a 16, .inl (G.2.2.1, 240, .inl (mkA fs (fl (4 * nw) (fun j_ => bN (fb j_)) fr) nw t))), (a 8, .inl (G.2.1, 256, .inl fs)), (b, .inl (G.2.2.1, bn, .inl fb))] := hD
    have hl : lv_has ls 9 [(6, .int (nI (nw + t))), (5, .int (mcI nw t)), (4, .int (nI nw)), (0, .ref h), (1, .ref b), (2, .int (nI 0)), (3, .int (nI (4 * nw)))] := hl
    refine lv_iload hx hb dX8_aesKey_49 (lv_at hl 0 rfl) ?_
    refine lv_iconst (v := nI 4) hx hb dX8_aesKey_51 (by decide) ?_
    refine lv_aload_n hx hb dX8_aesKey_52 rfl (lv_at hl 3 rfl) ?_
    refine va_get (D := G.1) (ci := 7) (v := .int (nI (nw + 6))) (C := RX8) (T := TX8) (N := 35) hx hb hts hinX8 hown hK hP 0 rfl rfl 17 (by decide) (hts (.fieldLink RX8 62 "CipherBoxModel" "aesRounds" "I") (by decide +kernel)) (fun _ h9 => h9) rfl dX8_aesKey_53 ?_
    refine lv_iconst (v := nI 1) hx hb dX8_aesKey_56 (by decide) ?_
    refine w_iaddN hx hb dX8_aesKey_57 ?_
    refine w_imulN hx hb dX8_aesKey_58 ?_
    refine w_icmpN_ge (tgt := 241) hx hb (by omega) (by omega) dX8_aesKey_59 (by decide) (fun h2 => ?_) (fun h2 => ?_)
    · obtain rfl : 3 * nw + 28 = t := Eq.symm (show t = 3 * nw + 28 from by omega)
      exact hret () H _ 241 ls dX8_aesKey_241 (trivial) (hP.sub [0, 1, 2, 3] rfl) (hD.sub [0, 1, 2, 3] (by decide) rfl) hS
    · refine lv_iconst (v := nI 0) hx hb dX8_aesKey_62 (by decide) ?_
      refine lv_istore (lv' := [(7, .int (nI 0)), (6, .int (nI (nw + t))), (5, .int (mcI nw t)), (4, .int (nI nw)), (0, .ref h), (1, .ref b), (2, .int (nI 0)), (3, .int (nI (4 * nw)))]) hx hb dX8_aesKey_63 hl (by decide) rfl (fun ls hl => ?_)
      refine w_loop (ι := Nat) (fun k => 4 - k) (fun k => k ≤ 4) (fun k => [(h, .inr (7, mO a (nw + 6) mn tp os ty sz)), (a 16, .inl (G.2.2.1, 240, .inl (fa (4 * (nw + t)) k (mkS fs nw t (mkA fs (fl (4 * nw) (fun j_ => bN (fb j_)) fr) nw t)) (mkA fs (fl (4 * nw) (fun j_ => bN (fb j_)) fr) nw t)))), (a 8, .inl (G.2.1, 256, .inl fs)), (b, .inl (G.2.2.1, bn, .inl fb))]) (fun k => [(7, .int (nI k)), (6, .int (nI (nw + t))), (5, .int (mcI nw t)), (4, .int (nI nw)), (0, .ref h), (1, .ref b), (2, .int (nI 0)), (3, .int (nI (4 * nw)))]) 0 (by omega) (by simp only [fa_0]; exact hP) (by simp only [fa_0]; exact hD) hS hl ?_
      intro k H locs ls hk hP hD hS hl ih
      have hk : k ≤ 4 := hk
      have hP : va_P G.1 vwCl [(h, .inr (7, mO a (nw + 6) mn tp os ty sz)), (a 16, .inl (G.2.2.1, 240, .inl (fa (4 * (nw + t)) k (mkS fs nw t (mkA fs (fl (4 * nw) (fun j_ => bN (fb j_)) fr) nw t)) (mkA fs (fl (4 * nw) (fun j_ => bN (fb j_)) fr) nw t)))), (a 8, .inl (G.2.1, 256, .inl fs)), (b, .inl (G.2.2.1, bn, .inl fb))] H := hP
      have hD : va_D A [(h, .inr (7, mO a (nw + 6) mn tp os ty sz)), (a 16, .inl (G.2.2.1, 240, .inl (fa (4 * (nw + t)) k (mkS fs nw t (mkA fs (fl (4 * nw) (fun j_ => bN (fb j_)) fr) nw t)) (mkA fs (fl (4 * nw) (fun j_ => bN (fb j_)) fr) nw t)))), (a 8, .inl (G.2.1, 256, .inl fs)), (b, .inl (G.2.2.1, bn, .inl fb))] := hD
      have hl : lv_has ls 9 [(7, .int (nI k)), (6, .int (nI (nw + t))), (5, .int (mcI nw t)), (4, .int (nI nw)), (0, .ref h), (1, .ref b), (2, .int (nI 0)), (3, .int (nI (4 * nw)))] := hl
      refine lv_iload hx hb dX8_aesKey_65 (lv_at hl 0 rfl) ?_
      refine lv_iconst (v := nI 4) hx hb dX8_aesKey_67 (by decide) ?_
      refine w_icmpN_ge (tgt := 220) hx hb (by omega) (by omega) dX8_aesKey_68 (by decide) (fun h3 => ?_) (fun h3 => ?_)
      · obtain rfl : 4 = k := Eq.symm (show k = 4 from by omega)
        refine lv_iload hx hb dX8_aesKey_220 (lv_at hl 1 rfl) ?_
        refine lv_iload hx hb dX8_aesKey_222 (lv_at hl 3 rfl) ?_
        refine w_iremN hx hb (by omega) (by omega) (by omega) dX8_aesKey_224 ?_
        refine w_ifN_ne (tgt := 235) hx hb (Nat.lt_of_le_of_lt (Nat.mod_le _ _) (by omega)) dX8_aesKey_225 (by decide) (fun h4 => ?_) (fun h4 => ?_)
        · have hl : lv_has ls 9 [(7, .int (nI 4)), (6, .int (nI (nw + t))), (5, .int (mcI nw (t + 1))), (4, .int (nI nw)), (0, .ref h), (1, .ref b), (2, .int (nI 0)), (3, .int (nI (4 * nw)))] := by have h9 := hl; rw [mc_s1 hn (by assumption)] at h9; exact h9
          refine lv_iinc (v := nI (nw + t + 1)) (lv' := [(6, .int (nI (nw + t + 1))), (7, .int (nI 4)), (5, .int (mcI nw (t + 1))), (4, .int (nI nw)), (0, .ref h), (1, .ref b), (2, .int (nI 0)), (3, .int (nI (4 * nw)))]) hx hb dX8_aesKey_235 hl (k := 1) rfl (nI_add (nw + t) 1) (by decide) rfl (fun ls hl => ?_)
          refine lv_goto (tgt := 49) hx hb dX8_aesKey_238 (by decide) ?_
          exact iht (t + 1) H _ _ (by omega) (by omega) hP hD hS (lv_sub hl [0, 2, 3, 4, 5, 6, 7] rfl)
        · refine lv_iload hx hb dX8_aesKey_228 (lv_at hl 2 rfl) ?_
          refine w_fini (wr := [(h, .inr (7, mO a (nw + 6) mn tp os ty sz)), (a 16, .inl (G.2.2.1, 240, .inl (fa (4 * (nw + t)) 4 (mkS fs nw t (mkA fs (fl (4 * nw) (fun j_ => bN (fb j_)) fr) nw t)) (mkA fs (fl (4 * nw) (fun j_ => bN (fb j_)) fr) nw t)))), (a 8, .inl (G.2.1, 256, .inl fs)), (b, .inl (G.2.2.1, bn, .inl fb))]) (va_runS (As := [.int (mcI nw t)]) (rest := []) ⟨hx, hb, hml, hown, hts⟩ (c_m_twice l G (mcI nw t) H.size) (va_cwS 1 hts gX8_aesKey_X8_twice rfl rfl rfl (by decide +kernel) ⟨Nat.le_of_ble_eq_true rfl, Nat.le_of_ble_eq_true rfl⟩) ⟨wPre.blind, (fun U hU hW => ⟨rfl, w_pre hK hT hA hP hD hS (isC := []) (by decide) rfl U hU hW⟩)⟩ rfl rfl hl.1 rfl (lv_room (Nat.le_of_ble_eq_true rfl)) dX8_aesKey_230 ⟨Nat.le_of_ble_eq_true rfl, Nat.le_of_ble_eq_true rfl⟩) hA hP hD hS [] [0, 1, 2, 3] rfl rfl (by decide) (by decide) (fun r u H locs hpost hP hD hS => ?_)
          obtain rfl := hpost
          have hP : va_P G.1 vwCl [(h, .inr (7, mO a (nw + 6) mn tp os ty sz)), (a 16, .inl (G.2.2.1, 240, .inl (fa (4 * (nw + t)) 4 (mkS fs nw t (mkA fs (fl (4 * nw) (fun j_ => bN (fb j_)) fr) nw t)) (mkA fs (fl (4 * nw) (fun j_ => bN (fb j_)) fr) nw t)))), (a 8, .inl (G.2.1, 256, .inl fs)), (b, .inl (G.2.2.1, bn, .inl fb))] H := hP
          have hD : va_D A [(h, .inr (7, mO a (nw + 6) mn tp os ty sz)), (a 16, .inl (G.2.2.1, 240, .inl (fa (4 * (nw + t)) 4 (mkS fs nw t (mkA fs (fl (4 * nw) (fun j_ => bN (fb j_)) fr) nw t)) (mkA fs (fl (4 * nw) (fun j_ => bN (fb j_)) fr) nw t)))), (a 8, .inl (G.2.1, 256, .inl fs)), (b, .inl (G.2.2.1, bn, .inl fb))] := hD
          refine lv_istore (lv' := [(5, .int (twI (mcI nw t))), (7, .int (nI 4)), (6, .int (nI (nw + t))), (4, .int (nI nw)), (0, .ref h), (1, .ref b), (2, .int (nI 0)), (3, .int (nI (4 * nw)))]) hx hb dX8_aesKey_233 hl (by decide) rfl (fun ls hl => ?_)
          have hl : lv_has ls 9 [(5, .int (mcI nw (t + 1))), (7, .int (nI 4)), (6, .int (nI (nw + t))), (4, .int (nI nw)), (0, .ref h), (1, .ref b), (2, .int (nI 0)), (3, .int (nI (4 * nw)))] := by have h9 := hl; rw [mc_s0 hn (by assumption)] at h9; exact h9
          refine lv_iinc (v := nI (nw + t + 1)) (lv' := [(6, .int (nI (nw + t + 1))), (5, .int (mcI nw (t + 1))), (7, .int (nI 4)), (4, .int (nI nw)), (0, .ref h), (1, .ref b), (2, .int (nI 0)), (3, .int (nI (4 * nw)))]) hx hb dX8_aesKey_235 hl (k := 2) rfl (nI_add (nw + t) 1) (by decide) rfl (fun ls hl => ?_)
          refine lv_goto (tgt := 49) hx hb dX8_aesKey_238 (by decide) ?_
          exact iht (t + 1) H _ _ (by omega) (by omega) hP hD hS (lv_sub hl [0, 1, 3, 4, 5, 6, 7] rfl)
      · refine lv_iload hx hb dX8_aesKey_71 (lv_at hl 1 rfl) ?_
        refine lv_iload hx hb dX8_aesKey_73 (lv_at hl 3 rfl) ?_
        refine w_iremN hx hb (by omega) (by omega) (by omega) dX8_aesKey_75 ?_
        refine w_ifN_ne (tgt := 123) hx hb (Nat.lt_of_le_of_lt (Nat.mod_le _ _) (by omega)) dX8_aesKey_76 (by decide) (fun h5 => ?_) (fun h5 => ?_)
        · refine lv_iload hx hb dX8_aesKey_123 (lv_at hl 3 rfl) ?_
          refine lv_bipush (v := nI 8) hx hb dX8_aesKey_125 (by decide) ?_
          refine w_icmpN_ne (tgt := 167) hx hb (by omega) (by omega) dX8_aesKey_127 (by decide) (fun h6 => ?_) (fun h6 => ?_)
          · refine lv_aload_n hx hb dX8_aesKey_167 rfl (lv_at hl 4 rfl) ?_
            refine va_get (D := G.1) (ci := 7) (v := .ref (a 16)) (C := RX8) (T := TX8) (N := 35) hx hb hts hinX8 hown hK hP 0 rfl rfl 16 (by decide) (hts (.fieldLink RX8 66 "CipherBoxModel" "roundKey" "[B") (by decide +kernel)) (fun _ h9 => h9) rfl dX8_aesKey_168 ?_
            refine lv_iconst (v := nI 4) hx hb dX8_aesKey_171 (by decide) ?_
            refine lv_iload hx hb dX8_aesKey_172 (lv_at hl 1 rfl) ?_
            refine lv_iconst (v := nI 1) hx hb dX8_aesKey_174 (by decide) ?_
            refine w_isubN hx hb (by omega) dX8_aesKey_175 ?_
            refine w_imulN hx hb dX8_aesKey_176 ?_
            refine lv_iload hx hb dX8_aesKey_177 (lv_at hl 0 rfl) ?_
            refine w_iaddN hx hb dX8_aesKey_179 ?_
            refine w_bald hx hb hK hP 1 rfl (by omega) (by omega) dX8_aesKey_180 ?_
            refine w_top ((mkA fs (fl (4 * nw) (fun j_ => bN (fb j_)) fr) nw t) (4 * (nw + t - 1) + k)) (fa_out (Or.inl (by omega))) ?_
            refine lv_istore (lv' := [(8, .int ((mkA fs (fl (4 * nw) (fun j_ => bN (fb j_)) fr) nw t) (4 * (nw + t - 1) + k))), (7, .int (nI k)), (6, .int (nI (nw + t))), (5, .int (mcI nw t)), (4, .int (nI nw)), (0, .ref h), (1, .ref b), (2, .int (nI 0)), (3, .int (nI (4 * nw)))]) hx hb dX8_aesKey_181 hl (by decide) rfl (fun ls hl => ?_)
            refine lv_aload_n hx hb dX8_aesKey_183 rfl (lv_at hl 5 rfl) ?_
            refine va_get (D := G.1) (ci := 7) (v := .ref (a 16)) (C := RX8) (T := TX8) (N := 35) hx hb hts hinX8 hown hK hP 0 rfl rfl 16 (by decide) (hts (.fieldLink RX8 66 "CipherBoxModel" "roundKey" "[B") (by decide +kernel)) (fun _ h9 => h9) rfl dX8_aesKey_184 ?_
            refine lv_iconst (v := nI 4) hx hb dX8_aesKey_187 (by decide) ?_
            refine lv_iload hx hb dX8_aesKey_188 (lv_at hl 2 rfl) ?_
            refine w_imulN hx hb dX8_aesKey_190 ?_
            refine lv_iload hx hb dX8_aesKey_191 (lv_at hl 1 rfl) ?_
            refine w_iaddN hx hb dX8_aesKey_193 ?_
            refine lv_aload_n hx hb dX8_aesKey_194 rfl (lv_at hl 5 rfl) ?_
            refine va_get (D := G.1) (ci := 7) (v := .ref (a 16)) (C := RX8) (T := TX8) (N := 35) hx hb hts hinX8 hown hK hP 0 rfl rfl 16 (by decide) (hts (.fieldLink RX8 66 "CipherBoxModel" "roundKey" "[B") (by decide +kernel)) (fun _ h9 => h9) rfl dX8_aesKey_195 ?_
            refine lv_iconst (v := nI 4) hx hb dX8_aesKey_198 (by decide) ?_
            refine lv_iload hx hb dX8_aesKey_199 (lv_at hl 2 rfl) ?_
            refine lv_iload hx hb dX8_aesKey_201 (lv_at hl 4 rfl) ?_
            refine w_isubN hx hb (by omega) dX8_aesKey_203 ?_
            refine w_imulN hx hb dX8_aesKey_204 ?_
            refine lv_iload hx hb dX8_aesKey_205 (lv_at hl 1 rfl) ?_
            refine w_iaddN hx hb dX8_aesKey_207 ?_
            refine w_bald hx hb hK hP 1 rfl (by omega) (by omega) dX8_aesKey_208 ?_
            refine w_top ((mkA fs (fl (4 * nw) (fun j_ => bN (fb j_)) fr) nw t) (4 * (nw + t - nw) + k)) (fa_out (Or.inl (by omega))) ?_
            refine lv_iload hx hb dX8_aesKey_209 (lv_at hl 0 rfl) ?_
            refine lv_ixor hx hb dX8_aesKey_211 ?_
            refine lv_i2b (v := bN (((mkA fs (fl (4 * nw) (fun j_ => bN (fb j_)) fr) nw t) (4 * (nw + t - nw) + k)) ^^^ ((mkA fs (fl (4 * nw) (fun j_ => bN (fb j_)) fr) nw t) (4 * (nw + t - 1) + k)))) hx hb dX8_aesKey_212 rfl ?_
            refine w_bast hx hb hK hP hD hS 1 rfl (by omega) (by omega) (fa (4 * (nw + t)) (k + 1) (mkS fs nw t (mkA fs (fl (4 * nw) (fun j_ => bN (fb j_)) fr) nw t)) (mkA fs (fl (4 * nw) (fun j_ => bN (fb j_)) fr) nw t)) (by rw [bN_bN]; exact fa_s (by simp only [mkS, mkV]; first | rw [if_pos (by assumption), if_pos (by assumption)] | rw [if_pos (by assumption), if_neg (by assumption)] | rw [if_neg (by assumption), if_pos ⟨by assumption, by assumption⟩] | rw [if_neg (by assumption), if_neg (fun q9 => by first | exact absurd q9.1 (by assumption) | exact absurd q9.2 (by assumption))])) dX8_aesKey_213 (fun H locs hP hD hS => ?_)
            have hP : va_P G.1 vwCl [(h, .inr (7, mO a (nw + 6) mn tp os ty sz)), (a 16, .inl (G.2.2.1, 240, .inl (fa (4 * (nw + t)) (k + 1) (mkS fs nw t (mkA fs (fl (4 * nw) (fun j_ => bN (fb j_)) fr) nw t)) (mkA fs (fl (4 * nw) (fun j_ => bN (fb j_)) fr) nw t)))), (a 8, .inl (G.2.1, 256, .inl fs)), (b, .inl (G.2.2.1, bn, .inl fb))] H := hP
            have hD : va_D A [(h, .inr (7, mO a (nw + 6) mn tp os ty sz)), (a 16, .inl (G.2.2.1, 240, .inl (fa (4 * (nw + t)) (k + 1) (mkS fs nw t (mkA fs (fl (4 * nw) (fun j_ => bN (fb j_)) fr) nw t)) (mkA fs (fl (4 * nw) (fun j_ => bN (fb j_)) fr) nw t)))), (a 8, .inl (G.2.1, 256, .inl fs)), (b, .inl (G.2.2.1, bn, .inl fb))] := hD
            refine lv_iinc (v := nI (k + 1)) (lv' := [(7, .int (nI (k + 1))), (8, .int ((mkA fs (fl (4 * nw) (fun j_ => bN (fb j_)) fr) nw t) (4 * (nw + t - 1) + k))), (6, .int (nI (nw + t))), (5, .int (mcI nw t)), (4, .int (nI nw)), (0, .ref h), (1, .ref b), (2, .int (nI 0)), (3, .int (nI (4 * nw)))]) hx hb dX8_aesKey_214 hl (k := 1) rfl (nI_add k 1) (by decide) rfl (fun ls hl => ?_)
            refine lv_goto (tgt := 65) hx hb dX8_aesKey_217 (by decide) ?_
            exact ih (k + 1) H _ _ (by omega) (by omega) hP hD hS (lv_sub hl [0, 2, 3, 4, 5, 6, 7, 8] rfl)
          · refine lv_iload hx hb dX8_aesKey_130 (lv_at hl 1 rfl) ?_
            refine lv_bipush (v := nI 8) hx hb dX8_aesKey_132 (by decide) ?_
            refine w_iremN hx hb (by omega) (by omega) (by omega) dX8_aesKey_134 ?_
            refine lv_iconst (v := nI 4) hx hb dX8_aesKey_135 (by decide) ?_
            refine w_icmpN_ne (tgt := 167) hx hb (by omega) (by omega) dX8_aesKey_136 (by decide) (fun h7 => ?_) (fun h7 => ?_)
            · refine lv_aload_n hx hb dX8_aesKey_167 rfl (lv_at hl 4 rfl) ?_
              refine va_get (D := G.1) (ci := 7) (v := .ref (a 16)) (C := RX8) (T := TX8) (N := 35) hx hb hts hinX8 hown hK hP 0 rfl rfl 16 (by decide) (hts (.fieldLink RX8 66 "CipherBoxModel" "roundKey" "[B") (by decide +kernel)) (fun _ h9 => h9) rfl dX8_aesKey_168 ?_
              refine lv_iconst (v := nI 4) hx hb dX8_aesKey_171 (by decide) ?_
              refine lv_iload hx hb dX8_aesKey_172 (lv_at hl 1 rfl) ?_
              refine lv_iconst (v := nI 1) hx hb dX8_aesKey_174 (by decide) ?_
              refine w_isubN hx hb (by omega) dX8_aesKey_175 ?_
              refine w_imulN hx hb dX8_aesKey_176 ?_
              refine lv_iload hx hb dX8_aesKey_177 (lv_at hl 0 rfl) ?_
              refine w_iaddN hx hb dX8_aesKey_179 ?_
              refine w_bald hx hb hK hP 1 rfl (by omega) (by omega) dX8_aesKey_180 ?_
              refine w_top ((mkA fs (fl (4 * nw) (fun j_ => bN (fb j_)) fr) nw t) (4 * (nw + t - 1) + k)) (fa_out (Or.inl (by omega))) ?_
              refine lv_istore (lv' := [(8, .int ((mkA fs (fl (4 * nw) (fun j_ => bN (fb j_)) fr) nw t) (4 * (nw + t - 1) + k))), (7, .int (nI k)), (6, .int (nI (nw + t))), (5, .int (mcI nw t)), (4, .int (nI nw)), (0, .ref h), (1, .ref b), (2, .int (nI 0)), (3, .int (nI (4 * nw)))]) hx hb dX8_aesKey_181 hl (by decide) rfl (fun ls hl => ?_)
              refine lv_aload_n hx hb dX8_aesKey_183 rfl (lv_at hl 5 rfl) ?_
              refine va_get (D := G.1) (ci := 7) (v := .ref (a 16)) (C := RX8) (T := TX8) (N := 35) hx hb hts hinX8 hown hK hP 0 rfl rfl 16 (by decide) (hts (.fieldLink RX8 66 "CipherBoxModel" "roundKey" "[B") (by decide +kernel)) (fun _ h9 => h9) rfl dX8_aesKey_184 ?_
              refine lv_iconst (v := nI 4) hx hb dX8_aesKey_187 (by decide) ?_
              refine lv_iload hx hb dX8_aesKey_188 (lv_at hl 2 rfl) ?_
              refine w_imulN hx hb dX8_aesKey_190 ?_
              refine lv_iload hx hb dX8_aesKey_191 (lv_at hl 1 rfl) ?_
              refine w_iaddN hx hb dX8_aesKey_193 ?_
              refine lv_aload_n hx hb dX8_aesKey_194 rfl (lv_at hl 5 rfl) ?_
              refine va_get (D := G.1) (ci := 7) (v := .ref (a 16)) (C := RX8) (T := TX8) (N := 35) hx hb hts hinX8 hown hK hP 0 rfl rfl 16 (by decide) (hts (.fieldLink RX8 66 "CipherBoxModel" "roundKey" "[B") (by decide +kernel)) (fun _ h9 => h9) rfl dX8_aesKey_195 ?_
              refine lv_iconst (v := nI 4) hx hb dX8_aesKey_198 (by decide) ?_
              refine lv_iload hx hb dX8_aesKey_199 (lv_at hl 2 rfl) ?_
              refine lv_iload hx hb dX8_aesKey_201 (lv_at hl 4 rfl) ?_
              refine w_isubN hx hb (by omega) dX8_aesKey_203 ?_
              refine w_imulN hx hb dX8_aesKey_204 ?_
              refine lv_iload hx hb dX8_aesKey_205 (lv_at hl 1 rfl) ?_
              refine w_iaddN hx hb dX8_aesKey_207 ?_
              refine w_bald hx hb hK hP 1 rfl (by omega) (by omega) dX8_aesKey_208 ?_
              refine w_top ((mkA fs (fl (4 * nw) (fun j_ => bN (fb j_)) fr) nw t) (4 * (nw + t - nw) + k)) (fa_out (Or.inl (by omega))) ?_
              refine lv_iload hx hb dX8_aesKey_209 (lv_at hl 0 rfl) ?_
              refine lv_ixor hx hb dX8_aesKey_211 ?_
              refine lv_i2b (v := bN (((mkA fs (fl (4 * nw) (fun j_ => bN (fb j_)) fr) nw t) (4 * (nw + t - nw) + k)) ^^^ ((mkA fs (fl (4 * nw) (fun j_ => bN (fb j_)) fr) nw t) (4 * (nw + t - 1) + k)))) hx hb dX8_aesKey_212 rfl ?_
              refine w_bast hx hb hK hP hD hS 1 rfl (by omega) (by omega) (fa (4 * (nw + t)) (k + 1) (mkS fs nw t (mkA fs (fl (4 * nw) (fun j_ => bN (fb j_)) fr) nw t)) (mkA fs (fl (4 * nw) (fun j_ => bN (fb j_)) fr) nw t)) (by rw [bN_bN]; exact fa_s (by simp only [mkS, mkV]; first | rw [if_pos (by assumption), if_pos (by assumption)] | rw [if_pos (by assumption), if_neg (by assumption)] | rw [if_neg (by assumption), if_pos ⟨by assumption, by assumption⟩] | rw [if_neg (by assumption), if_neg (fun q9 => by first | exact absurd q9.1 (by assumption) | exact absurd q9.2 (by assumption))])) dX8_aesKey_213 (fun H locs hP hD hS => ?_)
              have hP : va_P G.1 vwCl [(h, .inr (7, mO a (nw + 6) mn tp os ty sz)), (a 16, .inl (G.2.2.1, 240, .inl (fa (4 * (nw + t)) (k + 1) (mkS fs nw t (mkA fs (fl (4 * nw) (fun j_ => bN (fb j_)) fr) nw t)) (mkA fs (fl (4 * nw) (fun j_ => bN (fb j_)) fr) nw t)))), (a 8, .inl (G.2.1, 256, .inl fs)), (b, .inl (G.2.2.1, bn, .inl fb))] H := hP
              have hD : va_D A [(h, .inr (7, mO a (nw + 6) mn tp os ty sz)), (a 16, .inl (G.2.2.1, 240, .inl (fa (4 * (nw + t)) (k + 1) (mkS fs nw t (mkA fs (fl (4 * nw) (fun j_ => bN (fb j_)) fr) nw t)) (mkA fs (fl (4 * nw) (fun j_ => bN (fb j_)) fr) nw t)))), (a 8, .inl (G.2.1, 256, .inl fs)), (b, .inl (G.2.2.1, bn, .inl fb))] := hD
              refine lv_iinc (v := nI (k + 1)) (lv' := [(7, .int (nI (k + 1))), (8, .int ((mkA fs (fl (4 * nw) (fun j_ => bN (fb j_)) fr) nw t) (4 * (nw + t - 1) + k))), (6, .int (nI (nw + t))), (5, .int (mcI nw t)), (4, .int (nI nw)), (0, .ref h), (1, .ref b), (2, .int (nI 0)), (3, .int (nI (4 * nw)))]) hx hb dX8_aesKey_214 hl (k := 1) rfl (nI_add k 1) (by decide) rfl (fun ls hl => ?_)
              refine lv_goto (tgt := 65) hx hb dX8_aesKey_217 (by decide) ?_
              exact ih (k + 1) H _ _ (by omega) (by omega) hP hD hS (lv_sub hl [0, 2, 3, 4, 5, 6, 7, 8] rfl)
            · refine lv_aload_n hx hb dX8_aesKey_139 rfl (lv_at hl 4 rfl) ?_
              refine va_get (D := G.1) (ci := 7) (v := .ref (a 8)) (C := RX8) (T := TX8) (N := 35) hx hb hts hinX8 hown hK hP 0 rfl rfl 8 (by decide) (hts (.fieldLink RX8 56 "CipherBoxModel" "sbox" "[I") (by decide +kernel)) (fun _ h9 => h9) rfl dX8_aesKey_140 ?_
              refine lv_aload_n hx hb dX8_aesKey_143 rfl (lv_at hl 4 rfl) ?_
              refine va_get (D := G.1) (ci := 7) (v := .ref (a 16)) (C := RX8) (T := TX8) (N := 35) hx hb hts hinX8 hown hK hP 0 rfl rfl 16 (by decide) (hts (.fieldLink RX8 66 "CipherBoxModel" "roundKey" "[B") (by decide +kernel)) (fun _ h9 => h9) rfl dX8_aesKey_144 ?_
              refine lv_iconst (v := nI 4) hx hb dX8_aesKey_147 (by decide) ?_
              refine lv_iload hx hb dX8_aesKey_148 (lv_at hl 1 rfl) ?_
              refine lv_iconst (v := nI 1) hx hb dX8_aesKey_150 (by decide) ?_
              refine w_isubN hx hb (by omega) dX8_aesKey_151 ?_
              refine w_imulN hx hb dX8_aesKey_152 ?_
              refine lv_iload hx hb dX8_aesKey_153 (lv_at hl 0 rfl) ?_
              refine w_iaddN hx hb dX8_aesKey_155 ?_
              refine w_bald hx hb hK hP 1 rfl (by omega) (by omega) dX8_aesKey_156 ?_
              refine w_top ((mkA fs (fl (4 * nw) (fun j_ => bN (fb j_)) fr) nw t) (4 * (nw + t - 1) + k)) (fa_out (Or.inl (by omega))) ?_
              refine lv_sipush (v := nI 255) hx hb dX8_aesKey_157 (by decide) ?_
              refine lv_iand hx hb dX8_aesKey_160 ?_
              refine w_top (nI (un ((mkA fs (fl (4 * nw) (fun j_ => bN (fb j_)) fr) nw t) (4 * (nw + t - 1) + k)) % 2 ^ 8)) (un_255 _) ?_
              refine w_iald hx hb hK hP 2 rfl (Nat.mod_lt _ (by decide)) (by omega) dX8_aesKey_161 ?_
              refine lv_istore (lv' := [(8, .int (fs (un ((mkA fs (fl (4 * nw) (fun j_ => bN (fb j_)) fr) nw t) (4 * (nw + t - 1) + k)) % 2 ^ 8))), (7, .int (nI k)), (6, .int (nI (nw + t))), (5, .int (mcI nw t)), (4, .int (nI nw)), (0, .ref h), (1, .ref b), (2, .int (nI 0)), (3, .int (nI (4 * nw)))]) hx hb dX8_aesKey_162 hl (by decide) rfl (fun ls hl => ?_)
              refine lv_goto (tgt := 183) hx hb dX8_aesKey_164 (by decide) ?_
              refine lv_aload_n hx hb dX8_aesKey_183 rfl (lv_at hl 5 rfl) ?_
              refine va_get (D := G.1) (ci := 7) (v := .ref (a 16)) (C := RX8) (T := TX8) (N := 35) hx hb hts hinX8 hown hK hP 0 rfl rfl 16 (by decide) (hts (.fieldLink RX8 66 "CipherBoxModel" "roundKey" "[B") (by decide +kernel)) (fun _ h9 => h9) rfl dX8_aesKey_184 ?_
              refine lv_iconst (v := nI 4) hx hb dX8_aesKey_187 (by decide) ?_
              refine lv_iload hx hb dX8_aesKey_188 (lv_at hl 2 rfl) ?_
              refine w_imulN hx hb dX8_aesKey_190 ?_
              refine lv_iload hx hb dX8_aesKey_191 (lv_at hl 1 rfl) ?_
              refine w_iaddN hx hb dX8_aesKey_193 ?_
              refine lv_aload_n hx hb dX8_aesKey_194 rfl (lv_at hl 5 rfl) ?_
              refine va_get (D := G.1) (ci := 7) (v := .ref (a 16)) (C := RX8) (T := TX8) (N := 35) hx hb hts hinX8 hown hK hP 0 rfl rfl 16 (by decide) (hts (.fieldLink RX8 66 "CipherBoxModel" "roundKey" "[B") (by decide +kernel)) (fun _ h9 => h9) rfl dX8_aesKey_195 ?_
              refine lv_iconst (v := nI 4) hx hb dX8_aesKey_198 (by decide) ?_
              refine lv_iload hx hb dX8_aesKey_199 (lv_at hl 2 rfl) ?_
              refine lv_iload hx hb dX8_aesKey_201 (lv_at hl 4 rfl) ?_
              refine w_isubN hx hb (by omega) dX8_aesKey_203 ?_
              refine w_imulN hx hb dX8_aesKey_204 ?_
              refine lv_iload hx hb dX8_aesKey_205 (lv_at hl 1 rfl) ?_
              refine w_iaddN hx hb dX8_aesKey_207 ?_
              refine w_bald hx hb hK hP 1 rfl (by omega) (by omega) dX8_aesKey_208 ?_
              refine w_top ((mkA fs (fl (4 * nw) (fun j_ => bN (fb j_)) fr) nw t) (4 * (nw + t - nw) + k)) (fa_out (Or.inl (by omega))) ?_
              refine lv_iload hx hb dX8_aesKey_209 (lv_at hl 0 rfl) ?_
              refine lv_ixor hx hb dX8_aesKey_211 ?_
              refine lv_i2b (v := bN (((mkA fs (fl (4 * nw) (fun j_ => bN (fb j_)) fr) nw t) (4 * (nw + t - nw) + k)) ^^^ (fs (un ((mkA fs (fl (4 * nw) (fun j_ => bN (fb j_)) fr) nw t) (4 * (nw + t - 1) + k)) % 2 ^ 8)))) hx hb dX8_aesKey_212 rfl ?_
              refine w_bast hx hb hK hP hD hS 1 rfl (by omega) (by omega) (fa (4 * (nw + t)) (k + 1) (mkS fs nw t (mkA fs (fl (4 * nw) (fun j_ => bN (fb j_)) fr) nw t)) (mkA fs (fl (4 * nw) (fun j_ => bN (fb j_)) fr) nw t)) (by rw [bN_bN]; exact fa_s (by simp only [mkS, mkV]; first | rw [if_pos (by assumption), if_pos (by assumption)] | rw [if_pos (by assumption), if_neg (by assumption)] | rw [if_neg (by assumption), if_pos ⟨by assumption, by assumption⟩] | rw [if_neg (by assumption), if_neg (fun q9 => by first | exact absurd q9.1 (by assumption) | exact absurd q9.2 (by assumption))])) dX8_aesKey_213 (fun H locs hP hD hS => ?_)
              have hP : va_P G.1 vwCl [(h, .inr (7, mO a (nw + 6) mn tp os ty sz)), (a 16, .inl (G.2.2.1, 240, .inl (fa (4 * (nw + t)) (k + 1) (mkS fs nw t (mkA fs (fl (4 * nw) (fun j_ => bN (fb j_)) fr) nw t)) (mkA fs (fl (4 * nw) (fun j_ => bN (fb j_)) fr) nw t)))), (a 8, .inl (G.2.1, 256, .inl fs)), (b, .inl (G.2.2.1, bn, .inl fb))] H := hP
              have hD : va_D A [(h, .inr (7, mO a (nw + 6) mn tp os ty sz)), (a 16, .inl (G.2.2.1, 240, .inl (fa (4 * (nw + t)) (k + 1) (mkS fs nw t (mkA fs (fl (4 * nw) (fun j_ => bN (fb j_)) fr) nw t)) (mkA fs (fl (4 * nw) (fun j_ => bN (fb j_)) fr) nw t)))), (a 8, .inl (G.2.1, 256, .inl fs)), (b, .inl (G.2.2.1, bn, .inl fb))] := hD
              refine lv_iinc (v := nI (k + 1)) (lv' := [(7, .int (nI (k + 1))), (8, .int (fs (un ((mkA fs (fl (4 * nw) (fun j_ => bN (fb j_)) fr) nw t) (4 * (nw + t - 1) + k)) % 2 ^ 8))), (6, .int (nI (nw + t))), (5, .int (mcI nw t)), (4, .int (nI nw)), (0, .ref h), (1, .ref b), (2, .int (nI 0)), (3, .int (nI (4 * nw)))]) hx hb dX8_aesKey_214 hl (k := 1) rfl (nI_add k 1) (by decide) rfl (fun ls hl => ?_)
              refine lv_goto (tgt := 65) hx hb dX8_aesKey_217 (by decide) ?_
              exact ih (k + 1) H _ _ (by omega) (by omega) hP hD hS (lv_sub hl [0, 2, 3, 4, 5, 6, 7, 8] rfl)
        · refine lv_aload_n hx hb dX8_aesKey_79 rfl (lv_at hl 4 rfl) ?_
          refine va_get (D := G.1) (ci := 7) (v := .ref (a 8)) (C := RX8) (T := TX8) (N := 35) hx hb hts hinX8 hown hK hP 0 rfl rfl 8 (by decide) (hts (.fieldLink RX8 56 "CipherBoxModel" "sbox" "[I") (by decide +kernel)) (fun _ h9 => h9) rfl dX8_aesKey_80 ?_
          refine lv_aload_n hx hb dX8_aesKey_83 rfl (lv_at hl 4 rfl) ?_
          refine va_get (D := G.1) (ci := 7) (v := .ref (a 16)) (C := RX8) (T := TX8) (N := 35) hx hb hts hinX8 hown hK hP 0 rfl rfl 16 (by decide) (hts (.fieldLink RX8 66 "CipherBoxModel" "roundKey" "[B") (by decide +kernel)) (fun _ h9 => h9) rfl dX8_aesKey_84 ?_
          refine lv_iconst (v := nI 4) hx hb dX8_aesKey_87 (by decide) ?_
          refine lv_iload hx hb dX8_aesKey_88 (lv_at hl 1 rfl) ?_
          refine lv_iconst (v := nI 1) hx hb dX8_aesKey_90 (by decide) ?_
          refine w_isubN hx hb (by omega) dX8_aesKey_91 ?_
          refine w_imulN hx hb dX8_aesKey_92 ?_
          refine lv_iload hx hb dX8_aesKey_93 (lv_at hl 0 rfl) ?_
          refine lv_iconst (v := nI 1) hx hb dX8_aesKey_95 (by decide) ?_
          refine w_iaddN hx hb dX8_aesKey_96 ?_
          refine lv_iconst (v := nI 4) hx hb dX8_aesKey_97 (by decide) ?_
          refine w_iremN hx hb (by omega) (by omega) (by omega) dX8_aesKey_98 ?_
          refine w_iaddN hx hb dX8_aesKey_99 ?_
          refine w_bald hx hb hK hP 1 rfl (by omega) (by omega) dX8_aesKey_100 ?_
          refine w_top ((mkA fs (fl (4 * nw) (fun j_ => bN (fb j_)) fr) nw t) (4 * (nw + t - 1) + (k + 1) % 4)) (fa_out (Or.inl (by omega))) ?_
          refine lv_sipush (v := nI 255) hx hb dX8_aesKey_101 (by decide) ?_
          refine lv_iand hx hb dX8_aesKey_104 ?_
          refine w_top (nI (un ((mkA fs (fl (4 * nw) (fun j_ => bN (fb j_)) fr) nw t) (4 * (nw + t - 1) + (k + 1) % 4)) % 2 ^ 8)) (un_255 _) ?_
          refine w_iald hx hb hK hP 2 rfl (Nat.mod_lt _ (by decide)) (by omega) dX8_aesKey_105 ?_
          refine lv_iload hx hb dX8_aesKey_106 (lv_at hl 0 rfl) ?_
          refine w_ifN_ne (tgt := 116) hx hb (by omega) dX8_aesKey_108 (by decide) (fun h8 => ?_) (fun h8 => ?_)
          · refine lv_iconst (v := nI 0) hx hb dX8_aesKey_116 (by decide) ?_
            refine lv_ixor hx hb dX8_aesKey_117 ?_
            refine lv_istore (lv' := [(8, .int ((fs (un ((mkA fs (fl (4 * nw) (fun j_ => bN (fb j_)) fr) nw t) (4 * (nw + t - 1) + (k + 1) % 4)) % 2 ^ 8)) ^^^ (nI 0))), (7, .int (nI k)), (6, .int (nI (nw + t))), (5, .int (mcI nw t)), (4, .int (nI nw)), (0, .ref h), (1, .ref b), (2, .int (nI 0)), (3, .int (nI (4 * nw)))]) hx hb dX8_aesKey_118 hl (by decide) rfl (fun ls hl => ?_)
            refine lv_goto (tgt := 183) hx hb dX8_aesKey_120 (by decide) ?_
            refine lv_aload_n hx hb dX8_aesKey_183 rfl (lv_at hl 5 rfl) ?_
            refine va_get (D := G.1) (ci := 7) (v := .ref (a 16)) (C := RX8) (T := TX8) (N := 35) hx hb hts hinX8 hown hK hP 0 rfl rfl 16 (by decide) (hts (.fieldLink RX8 66 "CipherBoxModel" "roundKey" "[B") (by decide +kernel)) (fun _ h9 => h9) rfl dX8_aesKey_184 ?_
            refine lv_iconst (v := nI 4) hx hb dX8_aesKey_187 (by decide) ?_
            refine lv_iload hx hb dX8_aesKey_188 (lv_at hl 2 rfl) ?_
            refine w_imulN hx hb dX8_aesKey_190 ?_
            refine lv_iload hx hb dX8_aesKey_191 (lv_at hl 1 rfl) ?_
            refine w_iaddN hx hb dX8_aesKey_193 ?_
            refine lv_aload_n hx hb dX8_aesKey_194 rfl (lv_at hl 5 rfl) ?_
            refine va_get (D := G.1) (ci := 7) (v := .ref (a 16)) (C := RX8) (T := TX8) (N := 35) hx hb hts hinX8 hown hK hP 0 rfl rfl 16 (by decide) (hts (.fieldLink RX8 66 "CipherBoxModel" "roundKey" "[B") (by decide +kernel)) (fun _ h9 => h9) rfl dX8_aesKey_195 ?_
            refine lv_iconst (v := nI 4) hx hb dX8_aesKey_198 (by decide) ?_
            refine lv_iload hx hb dX8_aesKey_199 (lv_at hl 2 rfl) ?_
            refine lv_iload hx hb dX8_aesKey_201 (lv_at hl 4 rfl) ?_
            refine w_isubN hx hb (by omega) dX8_aesKey_203 ?_
            refine w_imulN hx hb dX8_aesKey_204 ?_
            refine lv_iload hx hb dX8_aesKey_205 (lv_at hl 1 rfl) ?_
            refine w_iaddN hx hb dX8_aesKey_207 ?_
            refine w_bald hx hb hK hP 1 rfl (by omega) (by omega) dX8_aesKey_208 ?_
            refine w_top ((mkA fs (fl (4 * nw) (fun j_ => bN (fb j_)) fr) nw t) (4 * (nw + t - nw) + k)) (fa_out (Or.inl (by omega))) ?_
            refine lv_iload hx hb dX8_aesKey_209 (lv_at hl 0 rfl) ?_
            refine lv_ixor hx hb dX8_aesKey_211 ?_
            refine lv_i2b (v := bN (((mkA fs (fl (4 * nw) (fun j_ => bN (fb j_)) fr) nw t) (4 * (nw + t - nw) + k)) ^^^ ((fs (un ((mkA fs (fl (4 * nw) (fun j_ => bN (fb j_)) fr) nw t) (4 * (nw + t - 1) + (k + 1) % 4)) % 2 ^ 8)) ^^^ (nI 0)))) hx hb dX8_aesKey_212 rfl ?_
            refine w_bast hx hb hK hP hD hS 1 rfl (by omega) (by omega) (fa (4 * (nw + t)) (k + 1) (mkS fs nw t (mkA fs (fl (4 * nw) (fun j_ => bN (fb j_)) fr) nw t)) (mkA fs (fl (4 * nw) (fun j_ => bN (fb j_)) fr) nw t)) (by rw [bN_bN]; exact fa_s (by simp only [mkS, mkV]; first | rw [if_pos (by assumption), if_pos (by assumption)] | rw [if_pos (by assumption), if_neg (by assumption)] | rw [if_neg (by assumption), if_pos ⟨by assumption, by assumption⟩] | rw [if_neg (by assumption), if_neg (fun q9 => by first | exact absurd q9.1 (by assumption) | exact absurd q9.2 (by assumption))])) dX8_aesKey_213 (fun H locs hP hD hS => ?_)
            have hP : va_P G.1 vwCl [(h, .inr (7, mO a (nw + 6) mn tp os ty sz)), (a 16, .inl (G.2.2.1, 240, .inl (fa (4 * (nw + t)) (k + 1) (mkS fs nw t (mkA fs (fl (4 * nw) (fun j_ => bN (fb j_)) fr) nw t)) (mkA fs (fl (4 * nw) (fun j_ => bN (fb j_)) fr) nw t)))), (a 8, .inl (G.2.1, 256, .inl fs)), (b, .inl (G.2.2.1, bn, .inl fb))] H := hP
            have hD : va_D A [(h, .inr (7, mO a (nw + 6) mn tp os ty sz)), (a 16, .inl (G.2.2.1, 240, .inl (fa (4 * (nw + t)) (k + 1) (mkS fs nw t (mkA fs (fl (4 * nw) (fun j_ => bN (fb j_)) fr) nw t)) (mkA fs (fl (4 * nw) (fun j_ => bN (fb j_)) fr) nw t)))), (a 8, .inl (G.2.1, 256, .inl fs)), (b, .inl (G.2.2.1, bn, .inl fb))] := hD
            refine lv_iinc (v := nI (k + 1)) (lv' := [(7, .int (nI (k + 1))), (8, .int ((fs (un ((mkA fs (fl (4 * nw) (fun j_ => bN (fb j_)) fr) nw t) (4 * (nw + t - 1) + (k + 1) % 4)) % 2 ^ 8)) ^^^ (nI 0))), (6, .int (nI (nw + t))), (5, .int (mcI nw t)), (4, .int (nI nw)), (0, .ref h), (1, .ref b), (2, .int (nI 0)), (3, .int (nI (4 * nw)))]) hx hb dX8_aesKey_214 hl (k := 1) rfl (nI_add k 1) (by decide) rfl (fun ls hl => ?_)
            refine lv_goto (tgt := 65) hx hb dX8_aesKey_217 (by decide) ?_
            exact ih (k + 1) H _ _ (by omega) (by omega) hP hD hS (lv_sub hl [0, 2, 3, 4, 5, 6, 7, 8] rfl)
          · refine lv_iload hx hb dX8_aesKey_111 (lv_at hl 2 rfl) ?_
            refine lv_goto (tgt := 117) hx hb dX8_aesKey_113 (by decide) ?_
            refine lv_ixor hx hb dX8_aesKey_117 ?_
            refine lv_istore (lv' := [(8, .int ((fs (un ((mkA fs (fl (4 * nw) (fun j_ => bN (fb j_)) fr) nw t) (4 * (nw + t - 1) + (k + 1) % 4)) % 2 ^ 8)) ^^^ (mcI nw t))), (7, .int (nI k)), (6, .int (nI (nw + t))), (5, .int (mcI nw t)), (4, .int (nI nw)), (0, .ref h), (1, .ref b), (2, .int (nI 0)), (3, .int (nI (4 * nw)))]) hx hb dX8_aesKey_118 hl (by decide) rfl (fun ls hl => ?_)
            refine lv_goto (tgt := 183) hx hb dX8_aesKey_120 (by decide) ?_
            refine lv_aload_n hx hb dX8_aesKey_183 rfl (lv_at hl 5 rfl) ?_
            refine va_get (D := G.1) (ci := 7) (v := .ref (a 16)) (C := RX8) (T := TX8) (N := 35) hx hb hts hinX8 hown hK hP 0 rfl rfl 16 (by decide) (hts (.fieldLink RX8 66 "CipherBoxModel" "roundKey" "[B") (by decide +kernel)) (fun _ h9 => h9) rfl dX8_aesKey_184 ?_
            refine lv_iconst (v := nI 4) hx hb dX8_aesKey_187 (by decide) ?_
            refine lv_iload hx hb dX8_aesKey_188 (lv_at hl 2 rfl) ?_
            refine w_imulN hx hb dX8_aesKey_190 ?_
            refine lv_iload hx hb dX8_aesKey_191 (lv_at hl 1 rfl) ?_
            refine w_iaddN hx hb dX8_aesKey_193 ?_
            refine lv_aload_n hx hb dX8_aesKey_194 rfl (lv_at hl 5 rfl) ?_
            refine va_get (D := G.1) (ci := 7) (v := .ref (a 16)) (C := RX8) (T := TX8) (N := 35) hx hb hts hinX8 hown hK hP 0 rfl rfl 16 (by decide) (hts (.fieldLink RX8 66 "CipherBoxModel" "roundKey" "[B") (by decide +kernel)) (fun _ h9 => h9) rfl dX8_aesKey_195 ?_
            refine lv_iconst (v := nI 4) hx hb dX8_aesKey_198 (by decide) ?_
            refine lv_iload hx hb dX8_aesKey_199 (lv_at hl 2 rfl) ?_
            refine lv_iload hx hb dX8_aesKey_201 (lv_at hl 4 rfl) ?_
            refine w_isubN hx hb (by omega) dX8_aesKey_203 ?_
            refine w_imulN hx hb dX8_aesKey_204 ?_
            refine lv_iload hx hb dX8_aesKey_205 (lv_at hl 1 rfl) ?_
            refine w_iaddN hx hb dX8_aesKey_207 ?_
            refine w_bald hx hb hK hP 1 rfl (by omega) (by omega) dX8_aesKey_208 ?_
            refine w_top ((mkA fs (fl (4 * nw) (fun j_ => bN (fb j_)) fr) nw t) (4 * (nw + t - nw) + k)) (fa_out (Or.inl (by omega))) ?_
            refine lv_iload hx hb dX8_aesKey_209 (lv_at hl 0 rfl) ?_
            refine lv_ixor hx hb dX8_aesKey_211 ?_
            refine lv_i2b (v := bN (((mkA fs (fl (4 * nw) (fun j_ => bN (fb j_)) fr) nw t) (4 * (nw + t - nw) + k)) ^^^ ((fs (un ((mkA fs (fl (4 * nw) (fun j_ => bN (fb j_)) fr) nw t) (4 * (nw + t - 1) + (k + 1) % 4)) % 2 ^ 8)) ^^^ (mcI nw t)))) hx hb dX8_aesKey_212 rfl ?_
            refine w_bast hx hb hK hP hD hS 1 rfl (by omega) (by omega) (fa (4 * (nw + t)) (k + 1) (mkS fs nw t (mkA fs (fl (4 * nw) (fun j_ => bN (fb j_)) fr) nw t)) (mkA fs (fl (4 * nw) (fun j_ => bN (fb j_)) fr) nw t)) (by rw [bN_bN]; exact fa_s (by simp only [mkS, mkV]; first | rw [if_pos (by assumption), if_pos (by assumption)] | rw [if_pos (by assumption), if_neg (by assumption)] | rw [if_neg (by assumption), if_pos ⟨by assumption, by assumption⟩] | rw [if_neg (by assumption), if_neg (fun q9 => by first | exact absurd q9.1 (by assumption) | exact absurd q9.2 (by assumption))])) dX8_aesKey_213 (fun H locs hP hD hS => ?_)
            have hP : va_P G.1 vwCl [(h, .inr (7, mO a (nw + 6) mn tp os ty sz)), (a 16, .inl (G.2.2.1, 240, .inl (fa (4 * (nw + t)) (k + 1) (mkS fs nw t (mkA fs (fl (4 * nw) (fun j_ => bN (fb j_)) fr) nw t)) (mkA fs (fl (4 * nw) (fun j_ => bN (fb j_)) fr) nw t)))), (a 8, .inl (G.2.1, 256, .inl fs)), (b, .inl (G.2.2.1, bn, .inl fb))] H := hP
            have hD : va_D A [(h, .inr (7, mO a (nw + 6) mn tp os ty sz)), (a 16, .inl (G.2.2.1, 240, .inl (fa (4 * (nw + t)) (k + 1) (mkS fs nw t (mkA fs (fl (4 * nw) (fun j_ => bN (fb j_)) fr) nw t)) (mkA fs (fl (4 * nw) (fun j_ => bN (fb j_)) fr) nw t)))), (a 8, .inl (G.2.1, 256, .inl fs)), (b, .inl (G.2.2.1, bn, .inl fb))] := hD
            refine lv_iinc (v := nI (k + 1)) (lv' := [(7, .int (nI (k + 1))), (8, .int ((fs (un ((mkA fs (fl (4 * nw) (fun j_ => bN (fb j_)) fr) nw t) (4 * (nw + t - 1) + (k + 1) % 4)) % 2 ^ 8)) ^^^ (mcI nw t))), (6, .int (nI (nw + t))), (5, .int (mcI nw t)), (4, .int (nI nw)), (0, .ref h), (1, .ref b), (2, .int (nI 0)), (3, .int (nI (4 * nw)))]) hx hb dX8_aesKey_214 hl (k := 1) rfl (nI_add k 1) (by decide) rfl (fun ls hl => ?_)
            refine lv_goto (tgt := 65) hx hb dX8_aesKey_217 (by decide) ?_
            exact ih (k + 1) H _ _ (by omega) (by omega) hP hD hS (lv_sub hl [0, 2, 3, 4, 5, 6, 7, 8] rfl)
  · refine lv_aload_n hx hb dX8_aesKey_26 rfl (lv_at hl 3 rfl) ?_
    refine va_get (D := G.1) (ci := 7) (v := .ref (a 16)) (C := RX8) (T := TX8) (N := 35) hx hb hts hinX8 hown hK hP 0 rfl rfl 16 (by decide) (hts (.fieldLink RX8 66 "CipherBoxModel" "roundKey" "[B") (by decide +kernel)) (fun _ h9 => h9) rfl dX8_aesKey_27 ?_
    refine lv_iload hx hb dX8_aesKey_30 (lv_at hl 0 rfl) ?_
    refine lv_aload_n hx hb dX8_aesKey_32 rfl (lv_at hl 4 rfl) ?_
    refine lv_iload_n hx hb dX8_aesKey_33 rfl (lv_at hl 5 rfl) ?_
    refine lv_iload hx hb dX8_aesKey_34 (lv_at hl 0 rfl) ?_
    refine w_iaddN hx hb dX8_aesKey_36 ?_
    refine w_top (nI k) (by rw [Nat.zero_add]) ?_
    refine w_bald hx hb hK hP 3 rfl (by omega) (by omega) dX8_aesKey_37 ?_
    refine w_bast hx hb hK hP hD hS 1 rfl (by omega) (by omega) (fl (k + 1) (fun j_ => bN (fb j_)) fr) (fl_s rfl) dX8_aesKey_38 (fun H locs hP hD hS => ?_)
    have hP : va_P G.1 vwCl [(h, .inr (7, mO a (nw + 6) mn tp os ty sz)), (a 16, .inl (G.2.2.1, 240, .inl (fl (k + 1) (fun j_ => bN (fb j_)) fr))), (a 8, .inl (G.2.1, 256, .inl fs)), (b, .inl (G.2.2.1, bn, .inl fb))] H := hP
    have hD : va_D A [(h, .inr (7, mO a (nw + 6) mn tp os ty sz)), (a 16, .inl (G.2.2.1, 240, .inl (fl (k + 1) (fun j_ => bN (fb j_)) fr))), (a 8, .inl (G.2.1, 256, .inl fs)), (b, .inl (G.2.2.1, bn, .inl fb))] := hD
    refine lv_iinc (v := nI (k + 1)) (lv' := [(6, .int (nI (k + 1))), (5, .int (nI 1)), (4, .int (nI nw)), (0, .ref h), (1, .ref b), (2, .int (nI 0)), (3, .int (nI (4 * nw)))]) hx hb dX8_aesKey_39 hl (k := 0) rfl (nI_add k 1) (by decide) rfl (fun ls hl => ?_)
    refine lv_goto (tgt := 20) hx hb dX8_aesKey_42 (by decide) ?_
    exact ih (k + 1) H _ _ (by omega) (by omega) hP hD hS (lv_sub hl [0, 1, 2, 3, 4, 5, 6] rfl)
