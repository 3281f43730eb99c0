/-! the model's AES, over ints as they stand; the block lies at d in a row of bytes: fa d 16 X f -/
def twI (v : Int32) : Int32 := ((v <<< (nI 1 &&& 31)) ^^^ (if v ≤ nI 127 then nI 0 else nI 283)) &&& nI 255
def twR (a : Int32) : Nat → Int32
  | 0 => a
  | k + 1 => twI (twR a k)
def tsI (a b : Int32) : Nat → Int32
  | 0 => nI 0
  | k + 1 => tsI a b k ^^^ (if (b >>> (nI k &&& 31)) &&& nI 1 = nI 1 then twR a k else nI 0)
theorem ts_1 {a b : Int32} {k : Nat} (h : (b >>> (nI k &&& 31)) &&& nI 1 = nI 1) : tsI a b k ^^^ twR a k = tsI a b (k + 1) := by simp only [tsI]; rw [if_pos h]
theorem ts_0 {a b : Int32} {k : Nat} (h : ¬ (b >>> (nI k &&& 31)) &&& nI 1 = nI 1) : tsI a b k ^^^ nI 0 = tsI a b (k + 1) := by simp only [tsI]; rw [if_neg h]
def tmI (a b : Int32) : Int32 := tsI a b 8
theorem fa_fa {d n : Nat} {g x f : Nat → Int32} : fa d n g (fa d n x f) = fa d n g f := by
  funext j
  simp only [fa]
  by_cases h : d ≤ j ∧ j < d + n
  · rw [if_pos h, if_pos h]
  · rw [if_neg h, if_neg h, if_neg h]
theorem fa_at {d n j : Nat} {g f : Nat → Int32} (h : j < n) : fa d n g f (d + j) = g j := by
  rw [fa_in (by omega) (by omega), show d + j - d = j by omega]
theorem fa_self {d n : Nat} {f : Nat → Int32} : f = fa d n (fun j_ => f (d + j_)) f := by
  funext j
  simp only [fa]
  by_cases h : d ≤ j ∧ j < d + n
  · rw [if_pos h]; congr 1; omega
  · rw [if_neg h]
theorem fa_eq {d n : Nat} {g h f : Nat → Int32} (e : ∀ j, j < n → g j = h j) : fa d n g f = fa d n h f := by
  funext j
  simp only [fa]
  by_cases q : d ≤ j ∧ j < d + n
  · rw [if_pos q, if_pos q, e _ (by omega)]
  · rw [if_neg q, if_neg q]
def mAk (fr : Nat → Int32) (q : Nat) (x : Nat → Int32) : Nat → Int32 := fun j => bN (x j ^^^ fr (16 * q + j))
def mSS (fs x : Nat → Int32) : Nat → Int32 := fun j => bN (fs (un (x ((j + 4 * (j % 4)) % 16)) % 2 ^ 8))
def mMv (p q r s : Int32) (x : Nat → Int32) (c k : Nat) : Int32 := ((tmI (x (c + k) &&& nI 255) p ^^^ tmI (x (c + (k + 1) % 4) &&& nI 255) q) ^^^ tmI (x (c + (k + 2) % 4) &&& nI 255) r) ^^^ tmI (x (c + (k + 3) % 4) &&& nI 255) s
def mMx (p q r s : Int32) (x : Nat → Int32) : Nat → Int32 := fun j => bN (mMv p q r s x (4 * (j / 4)) (j % 4))
theorem mMx_i {p q r s : Int32} {x : Nat → Int32} {i k : Nat} (hk : k < 4) : mMx p q r s x (4 * i + k) = bN (mMv p q r s x (4 * i) k) := by
  simp only [mMx]
  rw [show (4 * i + k) / 4 = i by omega, show (4 * i + k) % 4 = k by omega]
/-- there: behind r rounds that mix -/
def mGo (fr fs x : Nat → Int32) : Nat → Nat → Int32
  | 0 => mAk fr 0 x
  | r + 1 => mAk fr (r + 1) (fun j => bN (mMx (nI 2) (nI 3) (nI 1) (nI 1) (fun j => bN (mSS fs (mGo fr fs x r) j)) j))
def mT (fr fs : Nat → Int32) (rd : Nat) (x : Nat → Int32) : Nat → Int32 := mAk fr rd (fun j => bN (mSS fs (mGo fr fs x (rd - 1)) j))
/-- back -/
def mSR (fu x : Nat → Int32) : Nat → Int32 := fun j => bN (fu (un (x ((j + 16 - 4 * (j % 4)) % 16)) % 2 ^ 8))
def mBk (fr fu : Nat → Int32) (rd : Nat) (x : Nat → Int32) : Nat → Nat → Int32
  | 0 => mAk fr rd x
  | n + 1 => fun j => bN (mMx (nI 14) (nI 11) (nI 13) (nI 9) (mAk fr (rd - 1 - n) (fun j => bN (mSR fu (mBk fr fu rd x n) j))) j)
def mBa (fr fu : Nat → Int32) (rd : Nat) (x : Nat → Int32) : Nat → Int32 := mAk fr 0 (fun j => bN (mSR fu (mBk fr fu rd x (rd - 1)) j))
set_option maxHeartbeats 4000000 in
set_option maxRecDepth 100000 in
theorem c_m_twice (l : Launch) (G : wG) (v : Int32)  : CMi l G yX8_twice wsX8_twice 0 0 [.int v] [] (fun r (_ : Unit) => r = twI v) (fun _ => []) := by
  refine CMi.start cX8_twice 1 .int (by decide) rfl (Nat.le_of_ble_eq_true rfl) (fun r u h => vp_nar_int r) ?_
  intro p e s m below meth c A Q ls H locs hx hb hml hown hts hK hT hA hP hD hS hl hret
  have hl : lv_has ls 1 [(0, .int v)] := hl
  refine lv_iload_n hx hb dX8_twice_0 rfl (lv_at hl 0 rfl) ?_
  refine lv_iconst (v := nI 1) hx hb dX8_twice_1 (by decide) ?_
  refine lv_ishl hx hb dX8_twice_2 ?_
  refine lv_iload_n hx hb dX8_twice_3 rfl (lv_at hl 0 rfl) ?_
  refine lv_bipush (v := nI 127) hx hb dX8_twice_4 (by decide) ?_
  refine lv_icmp_le (tgt := 15) hx hb dX8_twice_6 (by decide) (fun h1 => ?_) (fun h1 => ?_)
  · refine lv_iconst (v := nI 0) hx hb dX8_twice_15 (by decide) ?_
    refine lv_ixor hx hb dX8_twice_16 ?_
    refine lv_sipush (v := nI 255) hx hb dX8_twice_17 (by decide) ?_
    refine lv_iand hx hb dX8_twice_20 ?_
    exact hret (((v <<< ((nI 1) &&& 31)) ^^^ (nI 0)) &&& (nI 255)) () H _ 21 ls dX8_twice_21 (by unfold twI; first | rw [if_pos (by assumption)] | rw [if_neg (by assumption)]) (hP.sub [] rfl) (hD.sub [] (by decide) rfl) hS
  · refine lv_sipush (v := nI 283) hx hb dX8_twice_9 (by decide) ?_
    refine lv_goto (tgt := 16) hx hb dX8_twice_12 (by decide) ?_
    refine lv_ixor hx hb dX8_twice_16 ?_
    refine lv_sipush (v := nI 255) hx hb dX8_twice_17 (by decide) ?_
    refine lv_iand hx hb dX8_twice_20 ?_
    exact hret (((v <<< ((nI 1) &&& 31)) ^^^ (nI 283)) &&& (nI 255)) () H _ 21 ls dX8_twice_21 (by unfold twI; first | rw [if_pos (by assumption)] | rw [if_neg (by assumption)]) (hP.sub [] rfl) (hD.sub [] (by decide) rfl) hS

set_option maxHeartbeats 4000000 in
set_option maxRecDepth 100000 in
theorem c_m_times (l : Launch) (G : wG) (x y : Int32)  : CMi l G yX8_times wsX8_times 1 20 [.int x, .int y] [] (fun r (_ : Unit) => r = tmI x y) (fun _ => []) := by
  refine CMi.start cX8_times 5 .int (by decide) rfl (Nat.le_of_ble_eq_true rfl) (fun r u h => vp_nar_int r) ?_
  intro p e s m below meth c A Q ls H locs hx hb hml hown hts hK hT hA hP hD hS hl hret
  have hl : lv_has ls 5 [(0, .int x), (1, .int y)] := hl
  refine lv_iconst (v := nI 0) hx hb dX8_times_0 (by decide) ?_
  refine lv_istore_n (lv' := [(2, .int (nI 0)), (0, .int x), (1, .int y)]) hx hb dX8_times_1 rfl hl (by decide) rfl (fun ls hl => ?_)
  refine lv_iload_n hx hb dX8_times_2 rfl (lv_at hl 1 rfl) ?_
  refine lv_istore_n (lv' := [(3, .int x), (2, .int (nI 0)), (0, .int x), (1, .int y)]) hx hb dX8_times_3 rfl hl (by decide) rfl (fun ls hl => ?_)
  refine lv_iconst (v := nI 0) hx hb dX8_times_4 (by decide) ?_
  refine lv_istore (lv' := [(4, .int (nI 0)), (3, .int x), (2, .int (nI 0)), (0, .int x), (1, .int y)]) hx hb dX8_times_5 hl (by decide) rfl (fun ls hl => ?_)
  refine w_loop (ι := Nat) (fun k => 8 - k) (fun k => k ≤ 8) (fun k => []) (fun k => [(4, .int (nI k)), (3, .int (twR x k)), (2, .int (tsI x y k)), (0, .int x), (1, .int y)]) 0 (by omega) hP hD hS hl ?_
  intro k H locs ls hk hP hD hS hl ih
  have hk : k ≤ 8 := hk
  have hP : va_P G.1 vwCl [] H := hP
  have hD : va_D A [] := hD
  have hl : lv_has ls 5 [(4, .int (nI k)), (3, .int (twR x k)), (2, .int (tsI x y k)), (0, .int x), (1, .int y)] := hl
  refine lv_iload hx hb dX8_times_7 (lv_at hl 0 rfl) ?_
  refine lv_bipush (v := nI 8) hx hb dX8_times_9 (by decide) ?_
  refine w_icmpN_ge (tgt := 43) hx hb (by omega) (by omega) dX8_times_11 (by decide) (fun h1 => ?_) (fun h1 => ?_)
  · obtain rfl : 8 = k := Eq.symm (show k = 8 from by omega)
    refine lv_iload_n hx hb dX8_times_43 rfl (lv_at hl 2 rfl) ?_
    exact hret (tsI x y 8) () H _ 44 ls dX8_times_44 (rfl) (hP.sub [] rfl) (hD.sub [] (by decide) rfl) hS
  · refine lv_iload_n hx hb dX8_times_14 rfl (lv_at hl 2 rfl) ?_
    refine lv_iload_n hx hb dX8_times_15 rfl (lv_at hl 4 rfl) ?_
    refine lv_iload hx hb dX8_times_16 (lv_at hl 0 rfl) ?_
    refine lv_ishr hx hb dX8_times_18 ?_
    refine lv_iconst (v := nI 1) hx hb dX8_times_19 (by decide) ?_
    refine lv_iand hx hb dX8_times_20 ?_
    refine lv_iconst (v := nI 1) hx hb dX8_times_21 (by decide) ?_
    refine lv_icmp_ne (tgt := 29) hx hb dX8_times_22 (by decide) (fun h2 => ?_) (fun h2 => ?_)
    · refine lv_iconst (v := nI 0) hx hb dX8_times_29 (by decide) ?_
      refine lv_ixor hx hb dX8_times_30 ?_
      refine lv_istore_n (lv' := [(2, .int ((tsI x y k) ^^^ (nI 0))), (4, .int (nI k)), (3, .int (twR x k)), (0, .int x), (1, .int y)]) hx hb dX8_times_31 rfl hl (by decide) rfl (fun ls hl => ?_)
      have hl : lv_has ls 5 [(2, .int (tsI x y (k + 1))), (4, .int (nI k)), (3, .int (twR x k)), (0, .int x), (1, .int y)] := by have h9 := hl; rw [ts_0 (by assumption)] at h9; exact h9
      refine lv_iload_n hx hb dX8_times_32 rfl (lv_at hl 2 rfl) ?_
      refine w_fini (wr := []) (va_runS (As := [.int (twR x k)]) (rest := []) ⟨hx, hb, hml, hown, hts⟩ (c_m_twice l G (twR x k) H.size) (va_cwS 1 hts gX8_times_X8_twice rfl rfl rfl (by decide +kernel) ⟨Nat.le_of_ble_eq_true rfl, Nat.le_of_ble_eq_true rfl⟩) ⟨wPre.blind, (fun U hU hW => ⟨rfl, w_pre hK hT hA hP hD hS (isC := []) (by decide) rfl U hU hW⟩)⟩ rfl rfl hl.1 rfl (lv_room (Nat.le_of_ble_eq_true rfl)) dX8_times_33 ⟨Nat.le_of_ble_eq_true rfl, Nat.le_of_ble_eq_true rfl⟩) hA hP hD hS [] [] rfl rfl (by decide) (by decide) (fun r u H locs hpost hP hD hS => ?_)
      obtain rfl := hpost
      have hP : va_P G.1 vwCl [] H := hP
      have hD : va_D A [] := hD
      refine lv_istore_n (lv' := [(3, .int (twI (twR x k))), (2, .int (tsI x y (k + 1))), (4, .int (nI k)), (0, .int x), (1, .int y)]) hx hb dX8_times_36 rfl hl (by decide) rfl (fun ls hl => ?_)
      refine lv_iinc (v := nI (k + 1)) (lv' := [(4, .int (nI (k + 1))), (3, .int (twI (twR x k))), (2, .int (tsI x y (k + 1))), (0, .int x), (1, .int y)]) hx hb dX8_times_37 hl (k := 2) rfl (nI_add k 1) (by decide) rfl (fun ls hl => ?_)
      refine lv_goto (tgt := 7) hx hb dX8_times_40 (by decide) ?_
      exact ih (k + 1) H _ _ (by omega) (by omega) hP hD hS (lv_sub hl [0, 1, 2, 3, 4] rfl)
    · refine lv_iload_n hx hb dX8_times_25 rfl (lv_at hl 1 rfl) ?_
      refine lv_goto (tgt := 30) hx hb dX8_times_26 (by decide) ?_
      refine lv_ixor hx hb dX8_times_30 ?_
      refine lv_istore_n (lv' := [(2, .int ((tsI x y k) ^^^ (twR x k))), (4, .int (nI k)), (3, .int (twR x k)), (0, .int x), (1, .int y)]) hx hb dX8_times_31 rfl hl (by decide) rfl (fun ls hl => ?_)
      have hl : lv_has ls 5 [(2, .int (tsI x y (k + 1))), (4, .int (nI k)), (3, .int (twR x k)), (0, .int x), (1, .int y)] := by have h9 := hl; rw [ts_1 (by assumption)] at h9; exact h9
      refine lv_iload_n hx hb dX8_times_32 rfl (lv_at hl 2 rfl) ?_
      refine w_fini (wr := []) (va_runS (As := [.int (twR x k)]) (rest := []) ⟨hx, hb, hml, hown, hts⟩ (c_m_twice l G (twR x k) H.size) (va_cwS 1 hts gX8_times_X8_twice rfl rfl rfl (by decide +kernel) ⟨Nat.le_of_ble_eq_true rfl, Nat.le_of_ble_eq_true rfl⟩) ⟨wPre.blind, (fun U hU hW => ⟨rfl, w_pre hK hT hA hP hD hS (isC := []) (by decide) rfl U hU hW⟩)⟩ rfl rfl hl.1 rfl (lv_room (Nat.le_of_ble_eq_true rfl)) dX8_times_33 ⟨Nat.le_of_ble_eq_true rfl, Nat.le_of_ble_eq_true rfl⟩) hA hP hD hS [] [] rfl rfl (by decide) (by decide) (fun r u H locs hpost hP hD hS => ?_)
      obtain rfl := hpost
      have hP : va_P G.1 vwCl [] H := hP
      have hD : va_D A [] := hD
      refine lv_istore_n (lv' := [(3, .int (twI (twR x k))), (2, .int (tsI x y (k + 1))), (4, .int (nI k)), (0, .int x), (1, .int y)]) hx hb dX8_times_36 rfl hl (by decide) rfl (fun ls hl => ?_)
      refine lv_iinc (v := nI (k + 1)) (lv' := [(4, .int (nI (k + 1))), (3, .int (twI (twR x k))), (2, .int (tsI x y (k + 1))), (0, .int x), (1, .int y)]) hx hb dX8_times_37 hl (k := 2) rfl (nI_add k 1) (by decide) rfl (fun ls hl => ?_)
      refine lv_goto (tgt := 7) hx hb dX8_times_40 (by decide) ?_
      exact ih (k + 1) H _ _ (by omega) (by omega) hP hD hS (lv_sub hl [0, 1, 2, 3, 4] rfl)

set_option maxHeartbeats 4000000 in
set_option maxRecDepth 100000 in
theorem c_m_addKey (l : Launch) (G : wG) (h : Nat) (a : Nat → Nat) (rd mn tp os : Nat) (ty : Int32) (sz : Nat) (b bn d : Nat) (X fb fr : Nat → Int32) (q : Nat) (hd : d + 16 ≤ bn) (hbn : bn < 2 ^ 20) (hq : q ≤ 14) : CMv l G yX8_addKey wsX8_addKey 0 0 0 0 [.ref h, .ref b, .int (nI d), .int (nI q)] [(h, .inr (7, mO a rd mn tp os ty sz)), (a 16, .inl (G.2.2.1, 240, .inl fr)), (b, .inl (G.2.2.1, bn, .inl (fa d 16 X fb)))] (fun (_ : Unit) => True) (fun _ => [(h, .inr (7, mO a rd mn tp os ty sz)), (a 16, .inl (G.2.2.1, 240, .inl fr)), (b, .inl (G.2.2.1, bn, .inl (fa d 16 (mAk fr q X) fb)))]) := by
  refine CMv.start cX8_addKey 5 (by decide) rfl (Nat.le_of_ble_eq_true rfl) ?_
  intro p e s m below meth c A Q ls H locs hx hb hml hown hnm hts hK hT hA hP hD hS hl hret
  have hinX8 : ∀ w ∈ u_ws RX8 TX8 35, w ∈ wsX8_addKey := by decide +kernel
  have hl : lv_has ls 5 [(0, .ref h), (1, .ref b), (2, .int (nI d)), (3, .int (nI q))] := hl
  refine lv_iconst (v := nI 0) hx hb dX8_addKey_0 (by decide) ?_
  refine lv_istore (lv' := [(4, .int (nI 0)), (0, .ref h), (1, .ref b), (2, .int (nI d)), (3, .int (nI q))]) hx hb dX8_addKey_1 hl (by decide) rfl (fun ls hl => ?_)
  refine w_loop (ι := Nat) (fun k => 16 - k) (fun k => k ≤ 16) (fun k => [(h, .inr (7, mO a rd mn tp os ty sz)), (a 16, .inl (G.2.2.1, 240, .inl fr)), (b, .inl (G.2.2.1, bn, .inl (fa d k (mAk fr q X) (fa d 16 X fb))))]) (fun k => [(4, .int (nI k)), (0, .ref h), (1, .ref b), (2, .int (nI d)), (3, .int (nI q))]) 0 (by omega) (by simp only [fa_0]; exact hP) (by simp only [fa_0]; exact hD) hS hl ?_
  intro k H locs ls hk hP hD hS hl ih
  have hk : k ≤ 16 := hk
  have hP : va_P G.1 vwCl [(h, .inr (7, mO a rd mn tp os ty sz)), (a 16, .inl (G.2.2.1, 240, .inl fr)), (b, .inl (G.2.2.1, bn, .inl (fa d k (mAk fr q X) (fa d 16 X fb))))] H := hP
  have hD : va_D A [(h, .inr (7, mO a rd mn tp os ty sz)), (a 16, .inl (G.2.2.1, 240, .inl fr)), (b, .inl (G.2.2.1, bn, .inl (fa d k (mAk fr q X) (fa d 16 X fb))))] := hD
  have hl : lv_has ls 5 [(4, .int (nI k)), (0, .ref h), (1, .ref b), (2, .int (nI d)), (3, .int (nI q))] := hl
  refine lv_iload hx hb dX8_addKey_3 (lv_at hl 0 rfl) ?_
  refine lv_bipush (v := nI 16) hx hb dX8_addKey_5 (by decide) ?_
  refine w_icmpN_ge (tgt := 38) hx hb (by omega) (by omega) dX8_addKey_7 (by decide) (fun h1 => ?_) (fun h1 => ?_)
  · obtain rfl : 16 = k := Eq.symm (show k = 16 from by omega)
    exact hret () H _ 38 ls dX8_addKey_38 (trivial) (by have h9 : va_P G.1 vwCl [(h, .inr (7, mO a rd mn tp os ty sz)), (a 16, .inl (G.2.2.1, 240, .inl fr)), (b, .inl (G.2.2.1, bn, .inl (fa d 16 (mAk fr q X) (fa d 16 X fb))))] H := (hP.sub [0, 1, 2] rfl); rw [fa_fa] at h9; exact h9) (by have h9 : va_D A [(h, .inr (7, mO a rd mn tp os ty sz)), (a 16, .inl (G.2.2.1, 240, .inl fr)), (b, .inl (G.2.2.1, bn, .inl (fa d 16 (mAk fr q X) (fa d 16 X fb))))] := (hD.sub [0, 1, 2] (by decide) rfl); rw [fa_fa] at h9; exact h9) hS
  · refine lv_aload_n hx hb dX8_addKey_10 rfl (lv_at hl 2 rfl) ?_
    refine lv_iload_n hx hb dX8_addKey_11 rfl (lv_at hl 3 rfl) ?_
    refine lv_iload hx hb dX8_addKey_12 (lv_at hl 0 rfl) ?_
    refine w_iaddN hx hb dX8_addKey_14 ?_
    refine lv_dup2_11 hx hb dX8_addKey_15 rfl rfl ?_
    refine w_bald hx hb hK hP 2 rfl (by omega) (by omega) dX8_addKey_16 ?_
    refine w_top (X k) (by rw [fa_out (Or.inr (by omega)), fa_at (by omega)]) ?_
    refine lv_aload_n hx hb dX8_addKey_17 rfl (lv_at hl 1 rfl) ?_
    refine va_get (D := G.1) (ci := 7) (v := .ref (a 16)) (C := RX8) (T := TX8) (N := 35) hx hb hts hinX8 hown hK hP 0 rfl rfl 16 (by decide) (hts (.fieldLink RX8 66 "CipherBoxModel" "roundKey" "[B") (by decide +kernel)) (fun _ h9 => h9) rfl dX8_addKey_18 ?_
    refine lv_bipush (v := nI 16) hx hb dX8_addKey_21 (by decide) ?_
    refine lv_iload_n hx hb dX8_addKey_23 rfl (lv_at hl 4 rfl) ?_
    refine w_imulN hx hb dX8_addKey_24 ?_
    refine lv_iload hx hb dX8_addKey_25 (lv_at hl 0 rfl) ?_
    refine w_iaddN hx hb dX8_addKey_27 ?_
    refine w_bald hx hb hK hP 1 rfl (by omega) (by omega) dX8_addKey_28 ?_
    refine lv_ixor hx hb dX8_addKey_29 ?_
    refine lv_i2b (v := bN ((X k) ^^^ (fr ((16 * q) + k)))) hx hb dX8_addKey_30 rfl ?_
    refine w_bast hx hb hK hP hD hS 2 rfl (by omega) (by omega) (fa d (k + 1) (mAk fr q X) (fa d 16 X fb)) (by rw [bN_bN]; exact fa_s rfl) dX8_addKey_31 (fun H locs hP hD hS => ?_)
    have hP : va_P G.1 vwCl [(h, .inr (7, mO a rd mn tp os ty sz)), (a 16, .inl (G.2.2.1, 240, .inl fr)), (b, .inl (G.2.2.1, bn, .inl (fa d (k + 1) (mAk fr q X) (fa d 16 X fb))))] H := hP
    have hD : va_D A [(h, .inr (7, mO a rd mn tp os ty sz)), (a 16, .inl (G.2.2.1, 240, .inl fr)), (b, .inl (G.2.2.1, bn, .inl (fa d (k + 1) (mAk fr q X) (fa d 16 X fb))))] := hD
    refine lv_iinc (v := nI (k + 1)) (lv' := [(4, .int (nI (k + 1))), (0, .ref h), (1, .ref b), (2, .int (nI d)), (3, .int (nI q))]) hx hb dX8_addKey_32 hl (k := 0) rfl (nI_add k 1) (by decide) rfl (fun ls hl => ?_)
    refine lv_goto (tgt := 3) hx hb dX8_addKey_35 (by decide) ?_
    exact ih (k + 1) H _ _ (by omega) (by omega) hP hD hS (lv_sub hl [0, 1, 2, 3, 4] rfl)

set_option maxHeartbeats 4000000 in
set_option maxRecDepth 100000 in
theorem c_m_mixColumns (l : Launch) (G : wG) (h : Nat) (a : Nat → Nat) (rd mn tp os : Nat) (ty : Int32) (sz : Nat) (b bn d : Nat) (X fb fc : Nat → Int32) (pp qq rr ss : Int32) (hd : d + 16 ≤ bn) (hbn : bn < 2 ^ 20) : CMv l G yX8_mixColumns wsX8_mixColumns 2 44 0 0 [.ref h, .ref b, .int (nI d), .int pp, .int qq, .int rr, .int ss] [(h, .inr (7, mO a rd mn tp os ty sz)), (a 18, .inl (G.2.2.1, 16, .inl fc)), (b, .inl (G.2.2.1, bn, .inl (fa d 16 X fb)))] (fun (_ : Unit) => True) (fun _ => [(h, .inr (7, mO a rd mn tp os ty sz)), (a 18, .inl (G.2.2.1, 16, .inl (mMx pp qq rr ss X))), (b, .inl (G.2.2.1, bn, .inl (fa d 16 (fun j_ => bN (mMx pp qq rr ss X j_)) fb)))]) := by
  refine CMv.start cX8_mixColumns 10 (by decide) rfl (Nat.le_of_ble_eq_true rfl) ?_
  intro p e s m below meth c A Q ls H locs hx hb hml hown hnm hts hK hT hA hP hD hS hl hret
  have hinX8 : ∀ w ∈ u_ws RX8 TX8 35, w ∈ wsX8_mixColumns := by decide +kernel
  have hl : lv_has ls 10 [(0, .ref h), (1, .ref b), (2, .int (nI d)), (3, .int pp), (4, .int qq), (5, .int rr), (6, .int ss)] := hl
  refine lv_iconst (v := nI 0) hx hb dX8_mixColumns_0 (by decide) ?_
  refine lv_istore (lv' := [(7, .int (nI 0)), (0, .ref h), (1, .ref b), (2, .int (nI d)), (3, .int pp), (4, .int qq), (5, .int rr), (6, .int ss)]) hx hb dX8_mixColumns_1 hl (by decide) rfl (fun ls hl => ?_)
  refine w_loop (ι := Nat) (fun i => 4 - i) (fun i => i ≤ 4) (fun i => [(h, .inr (7, mO a rd mn tp os ty sz)), (a 18, .inl (G.2.2.1, 16, .inl (fl (4 * i) (mMx pp qq rr ss X) fc))), (b, .inl (G.2.2.1, bn, .inl (fa d 16 X fb)))]) (fun i => [(7, .int (nI (4 * i))), (0, .ref h), (1, .ref b), (2, .int (nI d)), (3, .int pp), (4, .int qq), (5, .int rr), (6, .int ss)]) 0 (by omega) (by simp only [Nat.mul_zero, fl_0]; exact hP) (by simp only [Nat.mul_zero, fl_0]; exact hD) hS hl ?_
  intro i H locs ls hi hP hD hS hl ihi
  have hi : i ≤ 4 := hi
  have hP : va_P G.1 vwCl [(h, .inr (7, mO a rd mn tp os ty sz)), (a 18, .inl (G.2.2.1, 16, .inl (fl (4 * i) (mMx pp qq rr ss X) fc))), (b, .inl (G.2.2.1, bn, .inl (fa d 16 X fb)))] H := hP
  have hD : va_D A [(h, .inr (7, mO a rd mn tp os ty sz)), (a 18, .inl (G.2.2.1, 16, .inl (fl (4 * i) (mMx pp qq rr ss X) fc))), (b, .inl (G.2.2.1, bn, .inl (fa d 16 X fb)))] := hD
  have hl : lv_has ls 10 [(7, .int (nI (4 * i))), (0, .ref h), (1, .ref b), (2, .int (nI d)), (3, .int pp), (4, .int qq), (5, .int rr), (6, .int ss)] := hl
  refine lv_iload hx hb dX8_mixColumns_3 (lv_at hl 0 rfl) ?_
  refine lv_bipush (v := nI 16) hx hb dX8_mixColumns_5 (by decide) ?_
  refine w_icmpN_ge (tgt := 132) hx hb (by omega) (by omega) dX8_mixColumns_7 (by decide) (fun h1 => ?_) (fun h1 => ?_)
  · obtain rfl : 4 = i := Eq.symm (show i = 4 from by omega)
    have hP := w_ext (fl (4 * 4) (mMx pp qq rr ss X) fc) (mMx pp qq rr ss X) 1 hP rfl (fun j hj => fl_in (by omega))
    have hD := hD.set (p := 1) (e := .inl (G.2.2.1, 16, .inl (mMx pp qq rr ss X))) rfl
    have hP : va_P G.1 vwCl [(h, .inr (7, mO a rd mn tp os ty sz)), (a 18, .inl (G.2.2.1, 16, .inl (mMx pp qq rr ss X))), (b, .inl (G.2.2.1, bn, .inl (fa d 16 X fb)))] H := hP
    have hD : va_D A [(h, .inr (7, mO a rd mn tp os ty sz)), (a 18, .inl (G.2.2.1, 16, .inl (mMx pp qq rr ss X))), (b, .inl (G.2.2.1, bn, .inl (fa d 16 X fb)))] := hD
    refine lv_iconst (v := nI 0) hx hb dX8_mixColumns_132 (by decide) ?_
    refine lv_istore (lv' := [(7, .int (nI 0)), (0, .ref h), (1, .ref b), (2, .int (nI d)), (3, .int pp), (4, .int qq), (5, .int rr), (6, .int ss)]) hx hb dX8_mixColumns_133 hl (by decide) rfl (fun ls hl => ?_)
    refine w_loop (ι := Nat) (fun k3 => 16 - k3) (fun k3 => k3 ≤ 16) (fun k3 => [(h, .inr (7, mO a rd mn tp os ty sz)), (a 18, .inl (G.2.2.1, 16, .inl (mMx pp qq rr ss X))), (b, .inl (G.2.2.1, bn, .inl (fa d k3 (fun j_ => bN (mMx pp qq rr ss X j_)) (fa d 16 X fb))))]) (fun k3 => [(7, .int (nI k3)), (0, .ref h), (1, .ref b), (2, .int (nI d)), (3, .int pp), (4, .int qq), (5, .int rr), (6, .int ss)]) 0 (by omega) (by simp only [fa_0]; exact hP) (by simp only [fa_0]; exact hD) hS hl ?_
    intro k3 H locs ls hk3 hP hD hS hl ih3
    have hk3 : k3 ≤ 16 := hk3
    have hP : va_P G.1 vwCl [(h, .inr (7, mO a rd mn tp os ty sz)), (a 18, .inl (G.2.2.1, 16, .inl (mMx pp qq rr ss X))), (b, .inl (G.2.2.1, bn, .inl (fa d k3 (fun j_ => bN (mMx pp qq rr ss X j_)) (fa d 16 X fb))))] H := hP
    have hD : va_D A [(h, .inr (7, mO a rd mn tp os ty sz)), (a 18, .inl (G.2.2.1, 16, .inl (mMx pp qq rr ss X))), (b, .inl (G.2.2.1, bn, .inl (fa d k3 (fun j_ => bN (mMx pp qq rr ss X j_)) (fa d 16 X fb))))] := hD
    have hl : lv_has ls 10 [(7, .int (nI k3)), (0, .ref h), (1, .ref b), (2, .int (nI d)), (3, .int pp), (4, .int qq), (5, .int rr), (6, .int ss)] := hl
    refine lv_iload hx hb dX8_mixColumns_135 (lv_at hl 0 rfl) ?_
    refine lv_bipush (v := nI 16) hx hb dX8_mixColumns_137 (by decide) ?_
    refine w_icmpN_ge (tgt := 161) hx hb (by omega) (by omega) dX8_mixColumns_139 (by decide) (fun h2 => ?_) (fun h2 => ?_)
    · obtain rfl : 16 = k3 := Eq.symm (show k3 = 16 from by omega)
      exact hret () H _ 161 ls dX8_mixColumns_161 (trivial) (by have h9 : va_P G.1 vwCl [(h, .inr (7, mO a rd mn tp os ty sz)), (a 18, .inl (G.2.2.1, 16, .inl (mMx pp qq rr ss X))), (b, .inl (G.2.2.1, bn, .inl (fa d 16 (fun j_ => bN (mMx pp qq rr ss X j_)) (fa d 16 X fb))))] H := (hP.sub [0, 1, 2] rfl); rw [fa_fa] at h9; exact h9) (by have h9 : va_D A [(h, .inr (7, mO a rd mn tp os ty sz)), (a 18, .inl (G.2.2.1, 16, .inl (mMx pp qq rr ss X))), (b, .inl (G.2.2.1, bn, .inl (fa d 16 (fun j_ => bN (mMx pp qq rr ss X j_)) (fa d 16 X fb))))] := (hD.sub [0, 1, 2] (by decide) rfl); rw [fa_fa] at h9; exact h9) hS
    · refine lv_aload_n hx hb dX8_mixColumns_142 rfl (lv_at hl 2 rfl) ?_
      refine lv_iload_n hx hb dX8_mixColumns_143 rfl (lv_at hl 3 rfl) ?_
      refine lv_iload hx hb dX8_mixColumns_144 (lv_at hl 0 rfl) ?_
      refine w_iaddN hx hb dX8_mixColumns_146 ?_
      refine lv_aload_n hx hb dX8_mixColumns_147 rfl (lv_at hl 1 rfl) ?_
      refine va_get (D := G.1) (ci := 7) (v := .ref (a 18)) (C := RX8) (T := TX8) (N := 35) hx hb hts hinX8 hown hK hP 0 rfl rfl 18 (by decide) (hts (.fieldLink RX8 74 "CipherBoxModel" "cell" "[B") (by decide +kernel)) (fun _ h9 => h9) rfl dX8_mixColumns_148 ?_
      refine lv_iload hx hb dX8_mixColumns_151 (lv_at hl 0 rfl) ?_
      refine w_bald hx hb hK hP 1 rfl (by omega) (by omega) dX8_mixColumns_153 ?_
      refine w_bast hx hb hK hP hD hS 2 rfl (by omega) (by omega) (fa d (k3 + 1) (fun j_ => bN (mMx pp qq rr ss X j_)) (fa d 16 X fb)) (fa_s rfl) dX8_mixColumns_154 (fun H locs hP hD hS => ?_)
      have hP : va_P G.1 vwCl [(h, .inr (7, mO a rd mn tp os ty sz)), (a 18, .inl (G.2.2.1, 16, .inl (mMx pp qq rr ss X))), (b, .inl (G.2.2.1, bn, .inl (fa d (k3 + 1) (fun j_ => bN (mMx pp qq rr ss X j_)) (fa d 16 X fb))))] H := hP
      have hD : va_D A [(h, .inr (7, mO a rd mn tp os ty sz)), (a 18, .inl (G.2.2.1, 16, .inl (mMx pp qq rr ss X))), (b, .inl (G.2.2.1, bn, .inl (fa d (k3 + 1) (fun j_ => bN (mMx pp qq rr ss X j_)) (fa d 16 X fb))))] := hD
      refine lv_iinc (v := nI (k3 + 1)) (lv' := [(7, .int (nI (k3 + 1))), (0, .ref h), (1, .ref b), (2, .int (nI d)), (3, .int pp), (4, .int qq), (5, .int rr), (6, .int ss)]) hx hb dX8_mixColumns_155 hl (k := 0) rfl (nI_add k3 1) (by decide) rfl (fun ls hl => ?_)
      refine lv_goto (tgt := 135) hx hb dX8_mixColumns_158 (by decide) ?_
      exact ih3 (k3 + 1) H _ _ (by omega) (by omega) hP hD hS (lv_sub hl [0, 1, 2, 3, 4, 5, 6, 7] rfl)
  · refine lv_iconst (v := nI 0) hx hb dX8_mixColumns_10 (by decide) ?_
    refine lv_istore (lv' := [(8, .int (nI 0)), (7, .int (nI (4 * i))), (0, .ref h), (1, .ref b), (2, .int (nI d)), (3, .int pp), (4, .int qq), (5, .int rr), (6, .int ss)]) hx hb dX8_mixColumns_11 hl (by decide) rfl (fun ls hl => ?_)
    refine w_loop (ι := Nat) (fun k => 4 - k) (fun k => k ≤ 4) (fun k => [(h, .inr (7, mO a rd mn tp os ty sz)), (a 18, .inl (G.2.2.1, 16, .inl (fl (4 * i + k) (mMx pp qq rr ss X) fc))), (b, .inl (G.2.2.1, bn, .inl (fa d 16 X fb)))]) (fun k => [(8, .int (nI k)), (7, .int (nI (4 * i))), (0, .ref h), (1, .ref b), (2, .int (nI d)), (3, .int pp), (4, .int qq), (5, .int rr), (6, .int ss)]) 0 (by omega) hP hD hS hl ?_
    intro k H locs ls hk hP hD hS hl ih
    have hk : k ≤ 4 := hk
    have hP : va_P G.1 vwCl [(h, .inr (7, mO a rd mn tp os ty sz)), (a 18, .inl (G.2.2.1, 16, .inl (fl (4 * i + k) (mMx pp qq rr ss X) fc))), (b, .inl (G.2.2.1, bn, .inl (fa d 16 X fb)))] H := hP
    have hD : va_D A [(h, .inr (7, mO a rd mn tp os ty sz)), (a 18, .inl (G.2.2.1, 16, .inl (fl (4 * i + k) (mMx pp qq rr ss X) fc))), (b, .inl (G.2.2.1, bn, .inl (fa d 16 X fb)))] := hD
    have hl : lv_has ls 10 [(8, .int (nI k)), (7, .int (nI (4 * i))), (0, .ref h), (1, .ref b), (2, .int (nI d)), (3, .int pp), (4, .int qq), (5, .int rr), (6, .int ss)] := hl
    refine lv_iload hx hb dX8_mixColumns_13 (lv_at hl 0 rfl) ?_
    refine lv_iconst (v := nI 4) hx hb dX8_mixColumns_15 (by decide) ?_
    refine w_icmpN_ge (tgt := 126) hx hb (by omega) (by omega) dX8_mixColumns_16 (by decide) (fun h3 => ?_) (fun h3 => ?_)
    · obtain rfl : 4 = k := Eq.symm (show k = 4 from by omega)
      refine lv_iinc (v := nI (4 * i + 4)) (lv' := [(7, .int (nI (4 * i + 4))), (8, .int (nI 4)), (0, .ref h), (1, .ref b), (2, .int (nI d)), (3, .int pp), (4, .int qq), (5, .int rr), (6, .int ss)]) hx hb dX8_mixColumns_126 hl (k := 1) rfl (nI_add (4 * i) 4) (by decide) rfl (fun ls hl => ?_)
      refine lv_goto (tgt := 3) hx hb dX8_mixColumns_129 (by decide) ?_
      exact ihi (i + 1) H _ _ (by omega) (by omega) hP hD hS (lv_sub hl [0, 2, 3, 4, 5, 6, 7, 8] rfl)
    · refine lv_aload_n hx hb dX8_mixColumns_19 rfl (lv_at hl 3 rfl) ?_
      refine lv_iload_n hx hb dX8_mixColumns_20 rfl (lv_at hl 4 rfl) ?_
      refine lv_iload hx hb dX8_mixColumns_21 (lv_at hl 1 rfl) ?_
      refine w_iaddN hx hb dX8_mixColumns_23 ?_
      refine lv_iload hx hb dX8_mixColumns_24 (lv_at hl 0 rfl) ?_
      refine w_iaddN hx hb dX8_mixColumns_26 ?_
      refine w_bald hx hb hK hP 2 rfl (by omega) (by omega) dX8_mixColumns_27 ?_
      refine w_top (X (4 * i + k)) (by rw [show (d + 4 * i) + k = d + (4 * i + k) by omega]; exact fa_at (by omega)) ?_
      refine lv_sipush (v := nI 255) hx hb dX8_mixColumns_28 (by decide) ?_
      refine lv_iand hx hb dX8_mixColumns_31 ?_
      refine lv_iload_n hx hb dX8_mixColumns_32 rfl (lv_at hl 5 rfl) ?_
      refine w_fini (wr := [(h, .inr (7, mO a rd mn tp os ty sz)), (a 18, .inl (G.2.2.1, 16, .inl (fl (4 * i + k) (mMx pp qq rr ss X) fc))), (b, .inl (G.2.2.1, bn, .inl (fa d 16 X fb)))]) (va_runS (As := [.int ((X (4 * i + k)) &&& (nI 255)), .int pp]) (rest := []) ⟨hx, hb, hml, hown, hts⟩ (c_m_times l G ((X (4 * i + k)) &&& (nI 255)) pp H.size) (va_cwS 2 hts gX8_mixColumns_X8_times rfl rfl rfl (by decide +kernel) ⟨Nat.le_of_ble_eq_true rfl, Nat.le_of_ble_eq_true rfl⟩) ⟨wPre.blind, (fun U hU hW => ⟨rfl, w_pre hK hT hA hP hD hS (isC := []) (by decide) rfl U hU hW⟩)⟩ rfl rfl hl.1 rfl (lv_room (Nat.le_of_ble_eq_true rfl)) dX8_mixColumns_33 ⟨Nat.le_of_ble_eq_true rfl, Nat.le_of_ble_eq_true rfl⟩) hA hP hD hS [] [0, 1, 2] rfl rfl (by decide) (by decide) (fun r u H locs hpost hP hD hS => ?_)
      obtain rfl := hpost
      have hP : va_P G.1 vwCl [(h, .inr (7, mO a rd mn tp os ty sz)), (a 18, .inl (G.2.2.1, 16, .inl (fl (4 * i + k) (mMx pp qq rr ss X) fc))), (b, .inl (G.2.2.1, bn, .inl (fa d 16 X fb)))] H := hP
      have hD : va_D A [(h, .inr (7, mO a rd mn tp os ty sz)), (a 18, .inl (G.2.2.1, 16, .inl (fl (4 * i + k) (mMx pp qq rr ss X) fc))), (b, .inl (G.2.2.1, bn, .inl (fa d 16 X fb)))] := hD
      refine lv_aload_n hx hb dX8_mixColumns_36 rfl (lv_at hl 3 rfl) ?_
      refine lv_iload_n hx hb dX8_mixColumns_37 rfl (lv_at hl 4 rfl) ?_
      refine lv_iload hx hb dX8_mixColumns_38 (lv_at hl 1 rfl) ?_
      refine w_iaddN hx hb dX8_mixColumns_40 ?_
      refine lv_iload hx hb dX8_mixColumns_41 (lv_at hl 0 rfl) ?_
      refine lv_iconst (v := nI 1) hx hb dX8_mixColumns_43 (by decide) ?_
      refine w_iaddN hx hb dX8_mixColumns_44 ?_
      refine lv_iconst (v := nI 4) hx hb dX8_mixColumns_45 (by decide) ?_
      refine w_iremN hx hb (by omega) (by omega) (by omega) dX8_mixColumns_46 ?_
      refine w_iaddN hx hb dX8_mixColumns_47 ?_
      refine w_bald hx hb hK hP 2 rfl (by omega) (by omega) dX8_mixColumns_48 ?_
      refine w_top (X (4 * i + (k + 1) % 4)) (by rw [show (d + 4 * i) + (k + 1) % 4 = d + (4 * i + (k + 1) % 4) by omega]; exact fa_at (by omega)) ?_
      refine lv_sipush (v := nI 255) hx hb dX8_mixColumns_49 (by decide) ?_
      refine lv_iand hx hb dX8_mixColumns_52 ?_
      refine lv_iload hx hb dX8_mixColumns_53 (lv_at hl 6 rfl) ?_
      refine w_fini (wr := [(h, .inr (7, mO a rd mn tp os ty sz)), (a 18, .inl (G.2.2.1, 16, .inl (fl (4 * i + k) (mMx pp qq rr ss X) fc))), (b, .inl (G.2.2.1, bn, .inl (fa d 16 X fb)))]) (va_runS (As := [.int ((X (4 * i + (k + 1) % 4)) &&& (nI 255)), .int qq]) (rest := [.int (tmI ((X (4 * i + k)) &&& (nI 255)) pp)]) ⟨hx, hb, hml, hown, hts⟩ (c_m_times l G ((X (4 * i + (k + 1) % 4)) &&& (nI 255)) qq H.size) (va_cwS 2 hts gX8_mixColumns_X8_times rfl rfl rfl (by decide +kernel) ⟨Nat.le_of_ble_eq_true rfl, Nat.le_of_ble_eq_true rfl⟩) ⟨wPre.blind, (fun U hU hW => ⟨rfl, w_pre hK hT hA hP hD hS (isC := []) (by decide) rfl U hU hW⟩)⟩ rfl rfl hl.1 rfl (lv_room (Nat.le_of_ble_eq_true rfl)) dX8_mixColumns_55 ⟨Nat.le_of_ble_eq_true rfl, Nat.le_of_ble_eq_true rfl⟩) hA hP hD hS [] [0, 1, 2] rfl rfl (by decide) (by decide) (fun r u H locs hpost hP hD hS => ?_)
      obtain rfl := hpost
      have hP : va_P G.1 vwCl [(h, .inr (7, mO a rd mn tp os ty sz)), (a 18, .inl (G.2.2.1, 16, .inl (fl (4 * i + k) (mMx pp qq rr ss X) fc))), (b, .inl (G.2.2.1, bn, .inl (fa d 16 X fb)))] H := hP
      have hD : va_D A [(h, .inr (7, mO a rd mn tp os ty sz)), (a 18, .inl (G.2.2.1, 16, .inl (fl (4 * i + k) (mMx pp qq rr ss X) fc))), (b, .inl (G.2.2.1, bn, .inl (fa d 16 X fb)))] := hD
      refine lv_ixor hx hb dX8_mixColumns_58 ?_
      refine lv_aload_n hx hb dX8_mixColumns_59 rfl (lv_at hl 3 rfl) ?_
      refine lv_iload_n hx hb dX8_mixColumns_60 rfl (lv_at hl 4 rfl) ?_
      refine lv_iload hx hb dX8_mixColumns_61 (lv_at hl 1 rfl) ?_
      refine w_iaddN hx hb dX8_mixColumns_63 ?_
      refine lv_iload hx hb dX8_mixColumns_64 (lv_at hl 0 rfl) ?_
      refine lv_iconst (v := nI 2) hx hb dX8_mixColumns_66 (by decide) ?_
      refine w_iaddN hx hb dX8_mixColumns_67 ?_
      refine lv_iconst (v := nI 4) hx hb dX8_mixColumns_68 (by decide) ?_
      refine w_iremN hx hb (by omega) (by omega) (by omega) dX8_mixColumns_69 ?_
      refine w_iaddN hx hb dX8_mixColumns_70 ?_
      refine w_bald hx hb hK hP 2 rfl (by omega) (by omega) dX8_mixColumns_71 ?_
      refine w_top (X (4 * i + (k + 2) % 4)) (by rw [show (d + 4 * i) + (k + 2) % 4 = d + (4 * i + (k + 2) % 4) by omega]; exact fa_at (by omega)) ?_
      refine lv_sipush (v := nI 255) hx hb dX8_mixColumns_72 (by decide) ?_
      refine lv_iand hx hb dX8_mixColumns_75 ?_
      refine lv_iload hx hb dX8_mixColumns_76 (lv_at hl 7 rfl) ?_
      refine w_fini (wr := [(h, .inr (7, mO a rd mn tp os ty sz)), (a 18, .inl (G.2.2.1, 16, .inl (fl (4 * i + k) (mMx pp qq rr ss X) fc))), (b, .inl (G.2.2.1, bn, .inl (fa d 16 X fb)))]) (va_runS (As := [.int ((X (4 * i + (k + 2) % 4)) &&& (nI 255)), .int rr]) (rest := [.int ((tmI ((X (4 * i + k)) &&& (nI 255)) pp) ^^^ (tmI ((X (4 * i + (k + 1) % 4)) &&& (nI 255)) qq))]) ⟨hx, hb, hml, hown, hts⟩ (c_m_times l G ((X (4 * i + (k + 2) % 4)) &&& (nI 255)) rr H.size) (va_cwS 2 hts gX8_mixColumns_X8_times rfl rfl rfl (by decide +kernel) ⟨Nat.le_of_ble_eq_true rfl, Nat.le_of_ble_eq_true rfl⟩) ⟨wPre.blind, (fun U hU hW => ⟨rfl, w_pre hK hT hA hP hD hS (isC := []) (by decide) rfl U hU hW⟩)⟩ rfl rfl hl.1 rfl (lv_room (Nat.le_of_ble_eq_true rfl)) dX8_mixColumns_78 ⟨Nat.le_of_ble_eq_true rfl, Nat.le_of_ble_eq_true rfl⟩) hA hP hD hS [] [0, 1, 2] rfl rfl (by decide) (by decide) (fun r u H locs hpost hP hD hS => ?_)
      obtain rfl := hpost
      have hP : va_P G.1 vwCl [(h, .inr (7, mO a rd mn tp os ty sz)), (a 18, .inl (G.2.2.1, 16, .inl (fl (4 * i + k) (mMx pp qq rr ss X) fc))), (b, .inl (G.2.2.1, bn, .inl (fa d 16 X fb)))] H := hP
      have hD : va_D A [(h, .inr (7, mO a rd mn tp os ty sz)), (a 18, .inl (G.2.2.1, 16, .inl (fl (4 * i + k) (mMx pp qq rr ss X) fc))), (b, .inl (G.2.2.1, bn, .inl (fa d 16 X fb)))] := hD
      refine lv_ixor hx hb dX8_mixColumns_81 ?_
      refine lv_aload_n hx hb dX8_mixColumns_82 rfl (lv_at hl 3 rfl) ?_
      refine lv_iload_n hx hb dX8_mixColumns_83 rfl (lv_at hl 4 rfl) ?_
      refine lv_iload hx hb dX8_mixColumns_84 (lv_at hl 1 rfl) ?_
      refine w_iaddN hx hb dX8_mixColumns_86 ?_
      refine lv_iload hx hb dX8_mixColumns_87 (lv_at hl 0 rfl) ?_
      refine lv_iconst (v := nI 3) hx hb dX8_mixColumns_89 (by decide) ?_
      refine w_iaddN hx hb dX8_mixColumns_90 ?_
      refine lv_iconst (v := nI 4) hx hb dX8_mixColumns_91 (by decide) ?_
      refine w_iremN hx hb (by omega) (by omega) (by omega) dX8_mixColumns_92 ?_
      refine w_iaddN hx hb dX8_mixColumns_93 ?_
      refine w_bald hx hb hK hP 2 rfl (by omega) (by omega) dX8_mixColumns_94 ?_
      refine w_top (X (4 * i + (k + 3) % 4)) (by rw [show (d + 4 * i) + (k + 3) % 4 = d + (4 * i + (k + 3) % 4) by omega]; exact fa_at (by omega)) ?_
      refine lv_sipush (v := nI 255) hx hb dX8_mixColumns_95 (by decide) ?_
      refine lv_iand hx hb dX8_mixColumns_98 ?_
      refine lv_iload hx hb dX8_mixColumns_99 (lv_at hl 8 rfl) ?_
      refine w_fini (wr := [(h, .inr (7, mO a rd mn tp os ty sz)), (a 18, .inl (G.2.2.1, 16, .inl (fl (4 * i + k) (mMx pp qq rr ss X) fc))), (b, .inl (G.2.2.1, bn, .inl (fa d 16 X fb)))]) (va_runS (As := [.int ((X (4 * i + (k + 3) % 4)) &&& (nI 255)), .int ss]) (rest := [.int (((tmI ((X (4 * i + k)) &&& (nI 255)) pp) ^^^ (tmI ((X (4 * i + (k + 1) % 4)) &&& (nI 255)) qq)) ^^^ (tmI ((X (4 * i + (k + 2) % 4)) &&& (nI 255)) rr))]) ⟨hx, hb, hml, hown, hts⟩ (c_m_times l G ((X (4 * i + (k + 3) % 4)) &&& (nI 255)) ss H.size) (va_cwS 2 hts gX8_mixColumns_X8_times rfl rfl rfl (by decide +kernel) ⟨Nat.le_of_ble_eq_true rfl, Nat.le_of_ble_eq_true rfl⟩) ⟨wPre.blind, (fun U hU hW => ⟨rfl, w_pre hK hT hA hP hD hS (isC := []) (by decide) rfl U hU hW⟩)⟩ rfl rfl hl.1 rfl (lv_room (Nat.le_of_ble_eq_true rfl)) dX8_mixColumns_101 ⟨Nat.le_of_ble_eq_true rfl, Nat.le_of_ble_eq_true rfl⟩) hA hP hD hS [] [0, 1, 2] rfl rfl (by decide) (by decide) (fun r u H locs hpost hP hD hS => ?_)
      obtain rfl := hpost
      have hP : va_P G.1 vwCl [(h, .inr (7, mO a rd mn tp os ty sz)), (a 18, .inl (G.2.2.1, 16, .inl (fl (4 * i + k) (mMx pp qq rr ss X) fc))), (b, .inl (G.2.2.1, bn, .inl (fa d 16 X fb)))] H := hP
      have hD : va_D A [(h, .inr (7, mO a rd mn tp os ty sz)), (a 18, .inl (G.2.2.1, 16, .inl (fl (4 * i + k) (mMx pp qq rr ss X) fc))), (b, .inl (G.2.2.1, bn, .inl (fa d 16 X fb)))] := hD
      refine lv_ixor hx hb dX8_mixColumns_104 ?_
      refine lv_istore (lv' := [(9, .int ((((tmI ((X (4 * i + k)) &&& (nI 255)) pp) ^^^ (tmI ((X (4 * i + (k + 1) % 4)) &&& (nI 255)) qq)) ^^^ (tmI ((X (4 * i + (k + 2) % 4)) &&& (nI 255)) rr)) ^^^ (tmI ((X (4 * i + (k + 3) % 4)) &&& (nI 255)) ss))), (8, .int (nI k)), (7, .int (nI (4 * i))), (0, .ref h), (1, .ref b), (2, .int (nI d)), (3, .int pp), (4, .int qq), (5, .int rr), (6, .int ss)]) hx hb dX8_mixColumns_105 hl (by decide) rfl (fun ls hl => ?_)
      refine lv_aload_n hx hb dX8_mixColumns_107 rfl (lv_at hl 3 rfl) ?_
      refine va_get (D := G.1) (ci := 7) (v := .ref (a 18)) (C := RX8) (T := TX8) (N := 35) hx hb hts hinX8 hown hK hP 0 rfl rfl 18 (by decide) (hts (.fieldLink RX8 74 "CipherBoxModel" "cell" "[B") (by decide +kernel)) (fun _ h9 => h9) rfl dX8_mixColumns_108 ?_
      refine lv_iload hx hb dX8_mixColumns_111 (lv_at hl 2 rfl) ?_
      refine lv_iload hx hb dX8_mixColumns_113 (lv_at hl 1 rfl) ?_
      refine w_iaddN hx hb dX8_mixColumns_115 ?_
      refine lv_iload hx hb dX8_mixColumns_116 (lv_at hl 0 rfl) ?_
      refine lv_i2b (v := bN ((((tmI ((X (4 * i + k)) &&& (nI 255)) pp) ^^^ (tmI ((X (4 * i + (k + 1) % 4)) &&& (nI 255)) qq)) ^^^ (tmI ((X (4 * i + (k + 2) % 4)) &&& (nI 255)) rr)) ^^^ (tmI ((X (4 * i + (k + 3) % 4)) &&& (nI 255)) ss))) hx hb dX8_mixColumns_118 rfl ?_
      refine w_bast hx hb hK hP hD hS 1 rfl (by omega) (by omega) (fl (4 * i + (k + 1)) (mMx pp qq rr ss X) fc) (by rw [bN_bN]; exact fl_s (k := 4 * i + k) (by rw [mMx_i (by omega)]; rfl)) dX8_mixColumns_119 (fun H locs hP hD hS => ?_)
      have hP : va_P G.1 vwCl [(h, .inr (7, mO a rd mn tp os ty sz)), (a 18, .inl (G.2.2.1, 16, .inl (fl (4 * i + (k + 1)) (mMx pp qq rr ss X) fc))), (b, .inl (G.2.2.1, bn, .inl (fa d 16 X fb)))] H := hP
      have hD : va_D A [(h, .inr (7, mO a rd mn tp os ty sz)), (a 18, .inl (G.2.2.1, 16, .inl (fl (4 * i + (k + 1)) (mMx pp qq rr ss X) fc))), (b, .inl (G.2.2.1, bn, .inl (fa d 16 X fb)))] := hD
      refine lv_iinc (v := nI (k + 1)) (lv' := [(8, .int (nI (k + 1))), (9, .int ((((tmI ((X (4 * i + k)) &&& (nI 255)) pp) ^^^ (tmI ((X (4 * i + (k + 1) % 4)) &&& (nI 255)) qq)) ^^^ (tmI ((X (4 * i + (k + 2) % 4)) &&& (nI 255)) rr)) ^^^ (tmI ((X (4 * i + (k + 3) % 4)) &&& (nI 255)) ss))), (7, .int (nI (4 * i))), (0, .ref h), (1, .ref b), (2, .int (nI d)), (3, .int pp), (4, .int qq), (5, .int rr), (6, .int ss)]) hx hb dX8_mixColumns_120 hl (k := 1) rfl (nI_add k 1) (by decide) rfl (fun ls hl => ?_)
      refine lv_goto (tgt := 13) hx hb dX8_mixColumns_123 (by decide) ?_
      exact ih (k + 1) H _ _ (by omega) (by omega) hP hD hS (lv_sub hl [0, 2, 3, 4, 5, 6, 7, 8, 9] rfl)

set_option maxHeartbeats 4000000 in
set_option maxRecDepth 100000 in
theorem c_m_aesT (l : Launch) (G : wG) (h : Nat) (a : Nat → Nat) (rd mn tp os : Nat) (ty : Int32) (sz : Nat) (b bn d : Nat) (X fb fr fs fc : Nat → Int32) (hd : d + 16 ≤ bn) (hbn : bn < 2 ^ 20) (hr : 1 ≤ rd ∧ rd ≤ 14) : CMv l G yX8_aes wsX8_aes 3 73 0 0 [.ref h, .ref b, .int (nI d), .int (nI 0)] [(h, .inr (7, mO a rd mn tp os ty sz)), (a 16, .inl (G.2.2.1, 240, .inl fr)), (a 8, .inl (G.2.1, 256, .inl fs)), (a 18, .inl (G.2.2.1, 16, .inl fc)), (b, .inl (G.2.2.1, bn, .inl (fa d 16 X fb)))] (fun (u : Nat → Int32) => True) (fun c2 => [(h, .inr (7, mO a rd mn tp os ty sz)), (a 16, .inl (G.2.2.1, 240, .inl fr)), (a 8, .inl (G.2.1, 256, .inl fs)), (a 18, .inl (G.2.2.1, 16, .inl c2)), (b, .inl (G.2.2.1, bn, .inl (fa d 16 (mT fr fs rd X) fb)))]) := by
  refine CMv.start cX8_aes 6 (by decide) rfl (Nat.le_of_ble_eq_true rfl) ?_
  intro p e s m below meth c A Q ls H locs hx hb hml hown hnm hts hK hT hA hP hD hS hl hret
  have hinX8 : ∀ w ∈ u_ws RX8 TX8 35, w ∈ wsX8_aes := by decide +kernel
  have hl : lv_has ls 6 [(0, .ref h), (1, .ref b), (2, .int (nI d)), (3, .int (nI 0))] := hl
  refine lv_iload_n hx hb dX8_aes_0 rfl (lv_at hl 3 rfl) ?_
  refine w_ifN_eq (tgt := 139) hx hb (by omega) dX8_aes_1 (by decide) (fun h1 => ?_) (fun h1 => ?_)
  · refine lv_aload_n hx hb dX8_aes_139 rfl (lv_at hl 0 rfl) ?_
    refine lv_aload_n hx hb dX8_aes_140 rfl (lv_at hl 1 rfl) ?_
    refine lv_iload_n hx hb dX8_aes_141 rfl (lv_at hl 2 rfl) ?_
    refine lv_iconst (v := nI 0) hx hb dX8_aes_142 (by decide) ?_
    refine w_finv (wr := [(a 8, .inl (G.2.1, 256, .inl fs)), (a 18, .inl (G.2.2.1, 16, .inl fc))]) (va_runV (As := [.ref b, .int (nI d), .int (nI 0)]) (rest := []) ⟨hx, hb, hml, hown, hts⟩ (c_m_addKey l G h a rd mn tp os ty sz b bn d X fb fr 0 (by omega) (by omega) (by omega) H.size) (cwV 3 hts gX8_aes_X8_addKey rfl rfl rfl (by decide +kernel) ⟨Nat.le_of_ble_eq_true rfl, Nat.le_of_ble_eq_true rfl⟩) ⟨wPre.blind, (va_recv hK hP (ci := 7) (q0 := 0) rfl rfl), (fun U hU hW => ⟨rfl, w_pre hK hT hA hP hD hS (isC := [0, 1, 4]) (by decide) rfl U hU hW⟩)⟩ rfl rfl hl.1 rfl (lv_room (Nat.le_of_ble_eq_true rfl)) dX8_aes_143 ⟨Nat.le_of_ble_eq_true rfl, Nat.le_of_ble_eq_true rfl⟩) hA hP hD hS [0, 1, 4] [2, 3] rfl rfl (by decide) (by decide) (fun u H locs hpost hP hD hS => ?_)
    have hP : va_P G.1 vwCl [(a 8, .inl (G.2.1, 256, .inl fs)), (a 18, .inl (G.2.2.1, 16, .inl fc)), (h, .inr (7, mO a rd mn tp os ty sz)), (a 16, .inl (G.2.2.1, 240, .inl fr)), (b, .inl (G.2.2.1, bn, .inl (fa d 16 (mAk fr 0 X) fb)))] H := hP
    have hD : va_D A [(a 8, .inl (G.2.1, 256, .inl fs)), (a 18, .inl (G.2.2.1, 16, .inl fc)), (h, .inr (7, mO a rd mn tp os ty sz)), (a 16, .inl (G.2.2.1, 240, .inl fr)), (b, .inl (G.2.2.1, bn, .inl (fa d 16 (mAk fr 0 X) fb)))] := hD
    refine lv_iconst (v := nI 1) hx hb dX8_aes_146 (by decide) ?_
    refine lv_istore (lv' := [(4, .int (nI 1)), (0, .ref h), (1, .ref b), (2, .int (nI d)), (3, .int (nI 0))]) hx hb dX8_aes_147 hl (by decide) rfl (fun ls hl => ?_)
    refine w_loop (ι := Nat × (Nat → Int32)) (fun x9 => match x9 with | ⟨r, fc⟩ => rd + 1 - r) (fun x9 => match x9 with | ⟨r, fc⟩ => r ≤ rd) (fun x9 => match x9 with | ⟨r, fc⟩ => [(a 8, .inl (G.2.1, 256, .inl fs)), (a 18, .inl (G.2.2.1, 16, .inl fc)), (h, .inr (7, mO a rd mn tp os ty sz)), (a 16, .inl (G.2.2.1, 240, .inl fr)), (b, .inl (G.2.2.1, bn, .inl (fa d 16 (if r < rd then mGo fr fs X r else mT fr fs rd X) fb)))]) (fun x9 => match x9 with | ⟨r, fc⟩ => [(4, .int (nI (r + 1))), (0, .ref h), (1, .ref b), (2, .int (nI d)), (3, .int (nI 0))]) ⟨0, fc⟩ (Nat.zero_le _) (by simp only []; rw [if_pos (by omega)]; exact hP) (by simp only []; rw [if_pos (by omega)]; exact hD) hS hl ?_
    rintro ⟨r, fc⟩ H locs ls hk hP hD hS hl ih
    have hk : r ≤ rd := hk
    have hP : va_P G.1 vwCl [(a 8, .inl (G.2.1, 256, .inl fs)), (a 18, .inl (G.2.2.1, 16, .inl fc)), (h, .inr (7, mO a rd mn tp os ty sz)), (a 16, .inl (G.2.2.1, 240, .inl fr)), (b, .inl (G.2.2.1, bn, .inl (fa d 16 (if r < rd then mGo fr fs X r else mT fr fs rd X) fb)))] H := hP
    have hD : va_D A [(a 8, .inl (G.2.1, 256, .inl fs)), (a 18, .inl (G.2.2.1, 16, .inl fc)), (h, .inr (7, mO a rd mn tp os ty sz)), (a 16, .inl (G.2.2.1, 240, .inl fr)), (b, .inl (G.2.2.1, bn, .inl (fa d 16 (if r < rd then mGo fr fs X r else mT fr fs rd X) fb)))] := hD
    have hl : lv_has ls 6 [(4, .int (nI (r + 1))), (0, .ref h), (1, .ref b), (2, .int (nI d)), (3, .int (nI 0))] := hl
    refine lv_iload hx hb dX8_aes_149 (lv_at hl 0 rfl) ?_
    refine lv_aload_n hx hb dX8_aes_151 rfl (lv_at hl 1 rfl) ?_
    refine va_get (D := G.1) (ci := 7) (v := .int (nI rd)) (C := RX8) (T := TX8) (N := 35) hx hb hts hinX8 hown hK hP 2 rfl rfl 17 (by decide) (hts (.fieldLink RX8 62 "CipherBoxModel" "aesRounds" "I") (by decide +kernel)) (fun _ h9 => h9) rfl dX8_aes_152 ?_
    refine w_icmpN_gt (tgt := 269) hx hb (by omega) (by omega) dX8_aes_155 (by decide) (fun h2 => ?_) (fun h2 => ?_)
    · exact hret fc H _ 269 ls dX8_aes_269 (trivial) (by have h9 : va_P G.1 vwCl [(h, .inr (7, mO a rd mn tp os ty sz)), (a 16, .inl (G.2.2.1, 240, .inl fr)), (a 8, .inl (G.2.1, 256, .inl fs)), (a 18, .inl (G.2.2.1, 16, .inl fc)), (b, .inl (G.2.2.1, bn, .inl (fa d 16 (if r < rd then mGo fr fs X r else mT fr fs rd X) fb)))] H := (hP.sub [2, 3, 0, 1, 4] rfl); rw [if_neg (by omega)] at h9; exact h9) (by have h9 : va_D A [(h, .inr (7, mO a rd mn tp os ty sz)), (a 16, .inl (G.2.2.1, 240, .inl fr)), (a 8, .inl (G.2.1, 256, .inl fs)), (a 18, .inl (G.2.2.1, 16, .inl fc)), (b, .inl (G.2.2.1, bn, .inl (fa d 16 (if r < rd then mGo fr fs X r else mT fr fs rd X) fb)))] := (hD.sub [2, 3, 0, 1, 4] (by decide) rfl); rw [if_neg (by omega)] at h9; exact h9) hS
    · have hrr : r < rd := by omega
      have hP : va_P G.1 vwCl [(a 8, .inl (G.2.1, 256, .inl fs)), (a 18, .inl (G.2.2.1, 16, .inl fc)), (h, .inr (7, mO a rd mn tp os ty sz)), (a 16, .inl (G.2.2.1, 240, .inl fr)), (b, .inl (G.2.2.1, bn, .inl (fa d 16 (mGo fr fs X r) fb)))] H := by have h9 := hP; rw [if_pos hrr] at h9; exact h9
      have hD : va_D A [(a 8, .inl (G.2.1, 256, .inl fs)), (a 18, .inl (G.2.2.1, 16, .inl fc)), (h, .inr (7, mO a rd mn tp os ty sz)), (a 16, .inl (G.2.2.1, 240, .inl fr)), (b, .inl (G.2.2.1, bn, .inl (fa d 16 (mGo fr fs X r) fb)))] := by have h9 := hD; rw [if_pos hrr] at h9; exact h9
      refine lv_iconst (v := nI 0) hx hb dX8_aes_158 (by decide) ?_
      refine lv_istore (lv' := [(5, .int (nI 0)), (4, .int (nI (r + 1))), (0, .ref h), (1, .ref b), (2, .int (nI d)), (3, .int (nI 0))]) hx hb dX8_aes_159 hl (by decide) rfl (fun ls hl => ?_)
      refine w_loop (ι := Nat) (fun k => 16 - k) (fun k => k ≤ 16) (fun k => [(a 8, .inl (G.2.1, 256, .inl fs)), (a 18, .inl (G.2.2.1, 16, .inl (fl k (mSS fs (mGo fr fs X r)) fc))), (h, .inr (7, mO a rd mn tp os ty sz)), (a 16, .inl (G.2.2.1, 240, .inl fr)), (b, .inl (G.2.2.1, bn, .inl (fa d 16 (mGo fr fs X r) fb)))]) (fun k => [(5, .int (nI k)), (4, .int (nI (r + 1))), (0, .ref h), (1, .ref b), (2, .int (nI d)), (3, .int (nI 0))]) 0 (by omega) (by simp only [fl_0]; exact hP) (by simp only [fl_0]; exact hD) hS hl ?_
      intro k H locs ls hk hP hD hS hl ihk
      have hk : k ≤ 16 := hk
      have hP : va_P G.1 vwCl [(a 8, .inl (G.2.1, 256, .inl fs)), (a 18, .inl (G.2.2.1, 16, .inl (fl k (mSS fs (mGo fr fs X r)) fc))), (h, .inr (7, mO a rd mn tp os ty sz)), (a 16, .inl (G.2.2.1, 240, .inl fr)), (b, .inl (G.2.2.1, bn, .inl (fa d 16 (mGo fr fs X r) fb)))] H := hP
      have hD : va_D A [(a 8, .inl (G.2.1, 256, .inl fs)), (a 18, .inl (G.2.2.1, 16, .inl (fl k (mSS fs (mGo fr fs X r)) fc))), (h, .inr (7, mO a rd mn tp os ty sz)), (a 16, .inl (G.2.2.1, 240, .inl fr)), (b, .inl (G.2.2.1, bn, .inl (fa d 16 (mGo fr fs X r) fb)))] := hD
      have hl : lv_has ls 6 [(5, .int (nI k)), (4, .int (nI (r + 1))), (0, .ref h), (1, .ref b), (2, .int (nI d)), (3, .int (nI 0))] := hl
      refine lv_iload hx hb dX8_aes_161 (lv_at hl 0 rfl) ?_
      refine lv_bipush (v := nI 16) hx hb dX8_aes_163 (by decide) ?_
      refine w_icmpN_ge (tgt := 207) hx hb (by omega) (by omega) dX8_aes_165 (by decide) (fun h3 => ?_) (fun h3 => ?_)
      · obtain rfl : 16 = k := Eq.symm (show k = 16 from by omega)
        have hP := w_ext (fl 16 (mSS fs (mGo fr fs X r)) fc) ((mSS fs (mGo fr fs X r))) 1 hP rfl (fun j hj => fl_in (by omega))
        have hD := hD.set (p := 1) (e := .inl (G.2.2.1, 16, .inl (mSS fs (mGo fr fs X r)))) rfl
        have hP : va_P G.1 vwCl [(a 8, .inl (G.2.1, 256, .inl fs)), (a 18, .inl (G.2.2.1, 16, .inl (mSS fs (mGo fr fs X r)))), (h, .inr (7, mO a rd mn tp os ty sz)), (a 16, .inl (G.2.2.1, 240, .inl fr)), (b, .inl (G.2.2.1, bn, .inl (fa d 16 (mGo fr fs X r) fb)))] H := hP
        have hD : va_D A [(a 8, .inl (G.2.1, 256, .inl fs)), (a 18, .inl (G.2.2.1, 16, .inl (mSS fs (mGo fr fs X r)))), (h, .inr (7, mO a rd mn tp os ty sz)), (a 16, .inl (G.2.2.1, 240, .inl fr)), (b, .inl (G.2.2.1, bn, .inl (fa d 16 (mGo fr fs X r) fb)))] := hD
        refine lv_iconst (v := nI 0) hx hb dX8_aes_207 (by decide) ?_
        refine lv_istore (lv' := [(5, .int (nI 0)), (4, .int (nI (r + 1))), (0, .ref h), (1, .ref b), (2, .int (nI d)), (3, .int (nI 0))]) hx hb dX8_aes_208 hl (by decide) rfl (fun ls hl => ?_)
        refine w_loop (ι := Nat) (fun k2 => 16 - k2) (fun k2 => k2 ≤ 16) (fun k2 => [(a 8, .inl (G.2.1, 256, .inl fs)), (a 18, .inl (G.2.2.1, 16, .inl (mSS fs (mGo fr fs X r)))), (h, .inr (7, mO a rd mn tp os ty sz)), (a 16, .inl (G.2.2.1, 240, .inl fr)), (b, .inl (G.2.2.1, bn, .inl (fa d k2 (fun j_ => bN ((mSS fs (mGo fr fs X r)) j_)) (fa d 16 (mGo fr fs X r) fb))))]) (fun k2 => [(5, .int (nI k2)), (4, .int (nI (r + 1))), (0, .ref h), (1, .ref b), (2, .int (nI d)), (3, .int (nI 0))]) 0 (by omega) (by simp only [fa_0]; exact hP) (by simp only [fa_0]; exact hD) hS hl ?_
        intro k2 H locs ls hk2 hP hD hS hl ih2
        have hk2 : k2 ≤ 16 := hk2
        have hP : va_P G.1 vwCl [(a 8, .inl (G.2.1, 256, .inl fs)), (a 18, .inl (G.2.2.1, 16, .inl (mSS fs (mGo fr fs X r)))), (h, .inr (7, mO a rd mn tp os ty sz)), (a 16, .inl (G.2.2.1, 240, .inl fr)), (b, .inl (G.2.2.1, bn, .inl (fa d k2 (fun j_ => bN ((mSS fs (mGo fr fs X r)) j_)) (fa d 16 (mGo fr fs X r) fb))))] H := hP
        have hD : va_D A [(a 8, .inl (G.2.1, 256, .inl fs)), (a 18, .inl (G.2.2.1, 16, .inl (mSS fs (mGo fr fs X r)))), (h, .inr (7, mO a rd mn tp os ty sz)), (a 16, .inl (G.2.2.1, 240, .inl fr)), (b, .inl (G.2.2.1, bn, .inl (fa d k2 (fun j_ => bN ((mSS fs (mGo fr fs X r)) j_)) (fa d 16 (mGo fr fs X r) fb))))] := hD
        have hl : lv_has ls 6 [(5, .int (nI k2)), (4, .int (nI (r + 1))), (0, .ref h), (1, .ref b), (2, .int (nI d)), (3, .int (nI 0))] := hl
        refine lv_iload hx hb dX8_aes_210 (lv_at hl 0 rfl) ?_
        refine lv_bipush (v := nI 16) hx hb dX8_aes_212 (by decide) ?_
        refine w_icmpN_ge (tgt := 236) hx hb (by omega) (by omega) dX8_aes_214 (by decide) (fun h4 => ?_) (fun h4 => ?_)
        · obtain rfl : 16 = k2 := Eq.symm (show k2 = 16 from by omega)
          have hP : va_P G.1 vwCl [(a 8, .inl (G.2.1, 256, .inl fs)), (a 18, .inl (G.2.2.1, 16, .inl (mSS fs (mGo fr fs X r)))), (h, .inr (7, mO a rd mn tp os ty sz)), (a 16, .inl (G.2.2.1, 240, .inl fr)), (b, .inl (G.2.2.1, bn, .inl (fa d 16 (fun j_ => bN ((mSS fs (mGo fr fs X r)) j_)) fb)))] H := by have h9 := hP; rw [fa_fa] at h9; exact h9
          have hD : va_D A [(a 8, .inl (G.2.1, 256, .inl fs)), (a 18, .inl (G.2.2.1, 16, .inl (mSS fs (mGo fr fs X r)))), (h, .inr (7, mO a rd mn tp os ty sz)), (a 16, .inl (G.2.2.1, 240, .inl fr)), (b, .inl (G.2.2.1, bn, .inl (fa d 16 (fun j_ => bN ((mSS fs (mGo fr fs X r)) j_)) fb)))] := by have h9 := hD; rw [fa_fa] at h9; exact h9
          refine lv_iload hx hb dX8_aes_236 (lv_at hl 1 rfl) ?_
          refine lv_aload_n hx hb dX8_aes_238 rfl (lv_at hl 2 rfl) ?_
          refine va_get (D := G.1) (ci := 7) (v := .int (nI rd)) (C := RX8) (T := TX8) (N := 35) hx hb hts hinX8 hown hK hP 2 rfl rfl 17 (by decide) (hts (.fieldLink RX8 62 "CipherBoxModel" "aesRounds" "I") (by decide +kernel)) (fun _ h9 => h9) rfl dX8_aes_239 ?_
          refine w_icmpN_ge (tgt := 255) hx hb (by omega) (by omega) dX8_aes_242 (by decide) (fun h5 => ?_) (fun h5 => ?_)
          · refine lv_aload_n hx hb dX8_aes_255 rfl (lv_at hl 2 rfl) ?_
            refine lv_aload_n hx hb dX8_aes_256 rfl (lv_at hl 3 rfl) ?_
            refine lv_iload_n hx hb dX8_aes_257 rfl (lv_at hl 4 rfl) ?_
            refine lv_iload hx hb dX8_aes_258 (lv_at hl 1 rfl) ?_
            refine w_finv (wr := [(a 8, .inl (G.2.1, 256, .inl fs)), (a 18, .inl (G.2.2.1, 16, .inl (mSS fs (mGo fr fs X r))))]) (va_runV (As := [.ref b, .int (nI d), .int (nI (r + 1))]) (rest := []) ⟨hx, hb, hml, hown, hts⟩ (c_m_addKey l G h a rd mn tp os ty sz b bn d (fun j_ => bN ((mSS fs (mGo fr fs X r)) j_)) fb fr (r + 1) (by omega) (by omega) (by omega) H.size) (cwV 3 hts gX8_aes_X8_addKey rfl rfl rfl (by decide +kernel) ⟨Nat.le_of_ble_eq_true rfl, Nat.le_of_ble_eq_true rfl⟩) ⟨wPre.blind, (va_recv hK hP (ci := 7) (q0 := 2) rfl rfl), (fun U hU hW => ⟨rfl, w_pre hK hT hA hP hD hS (isC := [2, 3, 4]) (by decide) rfl U hU hW⟩)⟩ rfl rfl hl.1 rfl (lv_room (Nat.le_of_ble_eq_true rfl)) dX8_aes_260 ⟨Nat.le_of_ble_eq_true rfl, Nat.le_of_ble_eq_true rfl⟩) hA hP hD hS [2, 3, 4] [0, 1] rfl rfl (by decide) (by decide) (fun u H locs hpost hP hD hS => ?_)
            have hP : va_P G.1 vwCl [(a 8, .inl (G.2.1, 256, .inl fs)), (a 18, .inl (G.2.2.1, 16, .inl (mSS fs (mGo fr fs X r)))), (h, .inr (7, mO a rd mn tp os ty sz)), (a 16, .inl (G.2.2.1, 240, .inl fr)), (b, .inl (G.2.2.1, bn, .inl (fa d 16 (mAk fr (r + 1) (fun j_ => bN ((mSS fs (mGo fr fs X r)) j_))) fb)))] H := hP
            have hD : va_D A [(a 8, .inl (G.2.1, 256, .inl fs)), (a 18, .inl (G.2.2.1, 16, .inl (mSS fs (mGo fr fs X r)))), (h, .inr (7, mO a rd mn tp os ty sz)), (a 16, .inl (G.2.2.1, 240, .inl fr)), (b, .inl (G.2.2.1, bn, .inl (fa d 16 (mAk fr (r + 1) (fun j_ => bN ((mSS fs (mGo fr fs X r)) j_))) fb)))] := hD
            have hP : va_P G.1 vwCl [(a 8, .inl (G.2.1, 256, .inl fs)), (a 18, .inl (G.2.2.1, 16, .inl (mSS fs (mGo fr fs X r)))), (h, .inr (7, mO a rd mn tp os ty sz)), (a 16, .inl (G.2.2.1, 240, .inl fr)), (b, .inl (G.2.2.1, bn, .inl (fa d 16 (if r + 1 < rd then mGo fr fs X (r + 1) else mT fr fs rd X) fb)))] H := by have h9 := hP; rw [show (mAk fr (r + 1) (fun j_ => bN ((mSS fs (mGo fr fs X r)) j_))) = (if r + 1 < rd then mGo fr fs X (r + 1) else mT fr fs rd X) from (by rw [if_neg (by omega)]; show _ = mAk fr rd (fun j => bN (mSS fs (mGo fr fs X (rd - 1)) j)); rw [show rd - 1 = r by omega, show r + 1 = rd by omega])] at h9; exact h9
            have hD : va_D A [(a 8, .inl (G.2.1, 256, .inl fs)), (a 18, .inl (G.2.2.1, 16, .inl (mSS fs (mGo fr fs X r)))), (h, .inr (7, mO a rd mn tp os ty sz)), (a 16, .inl (G.2.2.1, 240, .inl fr)), (b, .inl (G.2.2.1, bn, .inl (fa d 16 (if r + 1 < rd then mGo fr fs X (r + 1) else mT fr fs rd X) fb)))] := by have h9 := hD; rw [show (mAk fr (r + 1) (fun j_ => bN ((mSS fs (mGo fr fs X r)) j_))) = (if r + 1 < rd then mGo fr fs X (r + 1) else mT fr fs rd X) from (by rw [if_neg (by omega)]; show _ = mAk fr rd (fun j => bN (mSS fs (mGo fr fs X (rd - 1)) j)); rw [show rd - 1 = r by omega, show r + 1 = rd by omega])] at h9; exact h9
            refine lv_iinc (v := nI (r + 1 + 1)) (lv' := [(4, .int (nI (r + 1 + 1))), (5, .int (nI 16)), (0, .ref h), (1, .ref b), (2, .int (nI d)), (3, .int (nI 0))]) hx hb dX8_aes_263 hl (k := 1) rfl (nI_add (r + 1) 1) (by decide) rfl (fun ls hl => ?_)
            refine lv_goto (tgt := 149) hx hb dX8_aes_266 (by decide) ?_
            exact ih ⟨r + 1, _⟩ H _ _ (by dsimp only; omega) (by dsimp only; omega) hP hD hS (lv_sub hl [0, 2, 3, 4, 5] rfl)
          · refine lv_aload_n hx hb dX8_aes_245 rfl (lv_at hl 2 rfl) ?_
            refine lv_aload_n hx hb dX8_aes_246 rfl (lv_at hl 3 rfl) ?_
            refine lv_iload_n hx hb dX8_aes_247 rfl (lv_at hl 4 rfl) ?_
            refine lv_iconst (v := nI 2) hx hb dX8_aes_248 (by decide) ?_
            refine lv_iconst (v := nI 3) hx hb dX8_aes_249 (by decide) ?_
            refine lv_iconst (v := nI 1) hx hb dX8_aes_250 (by decide) ?_
            refine lv_iconst (v := nI 1) hx hb dX8_aes_251 (by decide) ?_
            refine w_finv (wr := [(a 8, .inl (G.2.1, 256, .inl fs)), (a 16, .inl (G.2.2.1, 240, .inl fr))]) (va_runV (As := [.ref b, .int (nI d), .int (nI 2), .int (nI 3), .int (nI 1), .int (nI 1)]) (rest := []) ⟨hx, hb, hml, hown, hts⟩ (c_m_mixColumns l G h a rd mn tp os ty sz b bn d (fun j_ => bN ((mSS fs (mGo fr fs X r)) j_)) fb (mSS fs (mGo fr fs X r)) (nI 2) (nI 3) (nI 1) (nI 1) (by omega) (by omega) H.size) (cwV 6 hts gX8_aes_X8_mixColumns rfl rfl rfl (by decide +kernel) ⟨Nat.le_of_ble_eq_true rfl, Nat.le_of_ble_eq_true rfl⟩) ⟨wPre.blind, (va_recv hK hP (ci := 7) (q0 := 2) rfl rfl), (fun U hU hW => ⟨rfl, w_pre hK hT hA hP hD hS (isC := [2, 1, 4]) (by decide) rfl U hU hW⟩)⟩ rfl rfl hl.1 rfl (lv_room (Nat.le_of_ble_eq_true rfl)) dX8_aes_252 ⟨Nat.le_of_ble_eq_true rfl, Nat.le_of_ble_eq_true rfl⟩) hA hP hD hS [2, 1, 4] [0, 3] rfl rfl (by decide) (by decide) (fun u H locs hpost hP hD hS => ?_)
            have hP : va_P G.1 vwCl [(a 8, .inl (G.2.1, 256, .inl fs)), (a 16, .inl (G.2.2.1, 240, .inl fr)), (h, .inr (7, mO a rd mn tp os ty sz)), (a 18, .inl (G.2.2.1, 16, .inl (mMx (nI 2) (nI 3) (nI 1) (nI 1) (fun j_ => bN ((mSS fs (mGo fr fs X r)) j_))))), (b, .inl (G.2.2.1, bn, .inl (fa d 16 (fun j_ => bN (mMx (nI 2) (nI 3) (nI 1) (nI 1) (fun j_ => bN ((mSS fs (mGo fr fs X r)) j_)) j_)) fb)))] H := hP
            have hD : va_D A [(a 8, .inl (G.2.1, 256, .inl fs)), (a 16, .inl (G.2.2.1, 240, .inl fr)), (h, .inr (7, mO a rd mn tp os ty sz)), (a 18, .inl (G.2.2.1, 16, .inl (mMx (nI 2) (nI 3) (nI 1) (nI 1) (fun j_ => bN ((mSS fs (mGo fr fs X r)) j_))))), (b, .inl (G.2.2.1, bn, .inl (fa d 16 (fun j_ => bN (mMx (nI 2) (nI 3) (nI 1) (nI 1) (fun j_ => bN ((mSS fs (mGo fr fs X r)) j_)) j_)) fb)))] := hD
            refine lv_aload_n hx hb dX8_aes_255 rfl (lv_at hl 2 rfl) ?_
            refine lv_aload_n hx hb dX8_aes_256 rfl (lv_at hl 3 rfl) ?_
            refine lv_iload_n hx hb dX8_aes_257 rfl (lv_at hl 4 rfl) ?_
            refine lv_iload hx hb dX8_aes_258 (lv_at hl 1 rfl) ?_
            refine w_finv (wr := [(a 8, .inl (G.2.1, 256, .inl fs)), (a 18, .inl (G.2.2.1, 16, .inl (mMx (nI 2) (nI 3) (nI 1) (nI 1) (fun j_ => bN ((mSS fs (mGo fr fs X r)) j_)))))]) (va_runV (As := [.ref b, .int (nI d), .int (nI (r + 1))]) (rest := []) ⟨hx, hb, hml, hown, hts⟩ (c_m_addKey l G h a rd mn tp os ty sz b bn d (fun j_ => bN (mMx (nI 2) (nI 3) (nI 1) (nI 1) (fun j_ => bN ((mSS fs (mGo fr fs X r)) j_)) j_)) fb fr (r + 1) (by omega) (by omega) (by omega) H.size) (cwV 3 hts gX8_aes_X8_addKey rfl rfl rfl (by decide +kernel) ⟨Nat.le_of_ble_eq_true rfl, Nat.le_of_ble_eq_true rfl⟩) ⟨wPre.blind, (va_recv hK hP (ci := 7) (q0 := 2) rfl rfl), (fun U hU hW => ⟨rfl, w_pre hK hT hA hP hD hS (isC := [2, 1, 4]) (by decide) rfl U hU hW⟩)⟩ rfl rfl hl.1 rfl (lv_room (Nat.le_of_ble_eq_true rfl)) dX8_aes_260 ⟨Nat.le_of_ble_eq_true rfl, Nat.le_of_ble_eq_true rfl⟩) hA hP hD hS [2, 1, 4] [0, 3] rfl rfl (by decide) (by decide) (fun u H locs hpost hP hD hS => ?_)
            have hP : va_P G.1 vwCl [(a 8, .inl (G.2.1, 256, .inl fs)), (a 18, .inl (G.2.2.1, 16, .inl (mMx (nI 2) (nI 3) (nI 1) (nI 1) (fun j_ => bN ((mSS fs (mGo fr fs X r)) j_))))), (h, .inr (7, mO a rd mn tp os ty sz)), (a 16, .inl (G.2.2.1, 240, .inl fr)), (b, .inl (G.2.2.1, bn, .inl (fa d 16 (mAk fr (r + 1) (fun j_ => bN (mMx (nI 2) (nI 3) (nI 1) (nI 1) (fun j_ => bN ((mSS fs (mGo fr fs X r)) j_)) j_))) fb)))] H := hP
            have hD : va_D A [(a 8, .inl (G.2.1, 256, .inl fs)), (a 18, .inl (G.2.2.1, 16, .inl (mMx (nI 2) (nI 3) (nI 1) (nI 1) (fun j_ => bN ((mSS fs (mGo fr fs X r)) j_))))), (h, .inr (7, mO a rd mn tp os ty sz)), (a 16, .inl (G.2.2.1, 240, .inl fr)), (b, .inl (G.2.2.1, bn, .inl (fa d 16 (mAk fr (r + 1) (fun j_ => bN (mMx (nI 2) (nI 3) (nI 1) (nI 1) (fun j_ => bN ((mSS fs (mGo fr fs X r)) j_)) j_))) fb)))] := hD
            have hP : va_P G.1 vwCl [(a 8, .inl (G.2.1, 256, .inl fs)), (a 18, .inl (G.2.2.1, 16, .inl (mMx (nI 2) (nI 3) (nI 1) (nI 1) (fun j_ => bN ((mSS fs (mGo fr fs X r)) j_))))), (h, .inr (7, mO a rd mn tp os ty sz)), (a 16, .inl (G.2.2.1, 240, .inl fr)), (b, .inl (G.2.2.1, bn, .inl (fa d 16 (if r + 1 < rd then mGo fr fs X (r + 1) else mT fr fs rd X) fb)))] H := by have h9 := hP; rw [show (mAk fr (r + 1) (fun j_ => bN (mMx (nI 2) (nI 3) (nI 1) (nI 1) (fun j_ => bN ((mSS fs (mGo fr fs X r)) j_)) j_))) = (if r + 1 < rd then mGo fr fs X (r + 1) else mT fr fs rd X) from (by rw [if_pos (by omega)]; rfl)] at h9; exact h9
            have hD : va_D A [(a 8, .inl (G.2.1, 256, .inl fs)), (a 18, .inl (G.2.2.1, 16, .inl (mMx (nI 2) (nI 3) (nI 1) (nI 1) (fun j_ => bN ((mSS fs (mGo fr fs X r)) j_))))), (h, .inr (7, mO a rd mn tp os ty sz)), (a 16, .inl (G.2.2.1, 240, .inl fr)), (b, .inl (G.2.2.1, bn, .inl (fa d 16 (if r + 1 < rd then mGo fr fs X (r + 1) else mT fr fs rd X) fb)))] := by have h9 := hD; rw [show (mAk fr (r + 1) (fun j_ => bN (mMx (nI 2) (nI 3) (nI 1) (nI 1) (fun j_ => bN ((mSS fs (mGo fr fs X r)) j_)) j_))) = (if r + 1 < rd then mGo fr fs X (r + 1) else mT fr fs rd X) from (by rw [if_pos (by omega)]; rfl)] at h9; exact h9
            refine lv_iinc (v := nI (r + 1 + 1)) (lv' := [(4, .int (nI (r + 1 + 1))), (5, .int (nI 16)), (0, .ref h), (1, .ref b), (2, .int (nI d)), (3, .int (nI 0))]) hx hb dX8_aes_263 hl (k := 1) rfl (nI_add (r + 1) 1) (by decide) rfl (fun ls hl => ?_)
            refine lv_goto (tgt := 149) hx hb dX8_aes_266 (by decide) ?_
            exact ih ⟨r + 1, _⟩ H _ _ (by dsimp only; omega) (by dsimp only; omega) hP hD hS (lv_sub hl [0, 2, 3, 4, 5] rfl)
        · refine lv_aload_n hx hb dX8_aes_217 rfl (lv_at hl 3 rfl) ?_
          refine lv_iload_n hx hb dX8_aes_218 rfl (lv_at hl 4 rfl) ?_
          refine lv_iload hx hb dX8_aes_219 (lv_at hl 0 rfl) ?_
          refine w_iaddN hx hb dX8_aes_221 ?_
          refine lv_aload_n hx hb dX8_aes_222 rfl (lv_at hl 2 rfl) ?_
          refine va_get (D := G.1) (ci := 7) (v := .ref (a 18)) (C := RX8) (T := TX8) (N := 35) hx hb hts hinX8 hown hK hP 2 rfl rfl 18 (by decide) (hts (.fieldLink RX8 74 "CipherBoxModel" "cell" "[B") (by decide +kernel)) (fun _ h9 => h9) rfl dX8_aes_223 ?_
          refine lv_iload hx hb dX8_aes_226 (lv_at hl 0 rfl) ?_
          refine w_bald hx hb hK hP 1 rfl (by omega) (by omega) dX8_aes_228 ?_
          refine w_bast hx hb hK hP hD hS 4 rfl (by omega) (by omega) (fa d (k2 + 1) (fun j_ => bN ((mSS fs (mGo fr fs X r)) j_)) (fa d 16 (mGo fr fs X r) fb)) (fa_s rfl) dX8_aes_229 (fun H locs hP hD hS => ?_)
          have hP : va_P G.1 vwCl [(a 8, .inl (G.2.1, 256, .inl fs)), (a 18, .inl (G.2.2.1, 16, .inl (mSS fs (mGo fr fs X r)))), (h, .inr (7, mO a rd mn tp os ty sz)), (a 16, .inl (G.2.2.1, 240, .inl fr)), (b, .inl (G.2.2.1, bn, .inl (fa d (k2 + 1) (fun j_ => bN ((mSS fs (mGo fr fs X r)) j_)) (fa d 16 (mGo fr fs X r) fb))))] H := hP
          have hD : va_D A [(a 8, .inl (G.2.1, 256, .inl fs)), (a 18, .inl (G.2.2.1, 16, .inl (mSS fs (mGo fr fs X r)))), (h, .inr (7, mO a rd mn tp os ty sz)), (a 16, .inl (G.2.2.1, 240, .inl fr)), (b, .inl (G.2.2.1, bn, .inl (fa d (k2 + 1) (fun j_ => bN ((mSS fs (mGo fr fs X r)) j_)) (fa d 16 (mGo fr fs X r) fb))))] := hD
          refine lv_iinc (v := nI (k2 + 1)) (lv' := [(5, .int (nI (k2 + 1))), (4, .int (nI (r + 1))), (0, .ref h), (1, .ref b), (2, .int (nI d)), (3, .int (nI 0))]) hx hb dX8_aes_230 hl (k := 0) rfl (nI_add k2 1) (by decide) rfl (fun ls hl => ?_)
          refine lv_goto (tgt := 210) hx hb dX8_aes_233 (by decide) ?_
          exact ih2 (k2 + 1) H _ _ (by omega) (by omega) hP hD hS (lv_sub hl [0, 1, 2, 3, 4, 5] rfl)
      · refine lv_aload_n hx hb dX8_aes_168 rfl (lv_at hl 2 rfl) ?_
        refine va_get (D := G.1) (ci := 7) (v := .ref (a 18)) (C := RX8) (T := TX8) (N := 35) hx hb hts hinX8 hown hK hP 2 rfl rfl 18 (by decide) (hts (.fieldLink RX8 74 "CipherBoxModel" "cell" "[B") (by decide +kernel)) (fun _ h9 => h9) rfl dX8_aes_169 ?_
        refine lv_iload hx hb dX8_aes_172 (lv_at hl 0 rfl) ?_
        refine lv_aload_n hx hb dX8_aes_174 rfl (lv_at hl 2 rfl) ?_
        refine va_get (D := G.1) (ci := 7) (v := .ref (a 8)) (C := RX8) (T := TX8) (N := 35) hx hb hts hinX8 hown hK hP 2 rfl rfl 8 (by decide) (hts (.fieldLink RX8 56 "CipherBoxModel" "sbox" "[I") (by decide +kernel)) (fun _ h9 => h9) rfl dX8_aes_175 ?_
        refine lv_aload_n hx hb dX8_aes_178 rfl (lv_at hl 3 rfl) ?_
        refine lv_iload_n hx hb dX8_aes_179 rfl (lv_at hl 4 rfl) ?_
        refine lv_iload hx hb dX8_aes_180 (lv_at hl 0 rfl) ?_
        refine lv_iconst (v := nI 4) hx hb dX8_aes_182 (by decide) ?_
        refine lv_iload hx hb dX8_aes_183 (lv_at hl 0 rfl) ?_
        refine lv_iconst (v := nI 4) hx hb dX8_aes_185 (by decide) ?_
        refine w_iremN hx hb (by omega) (by omega) (by omega) dX8_aes_186 ?_
        refine w_imulN hx hb dX8_aes_187 ?_
        refine w_iaddN hx hb dX8_aes_188 ?_
        refine lv_bipush (v := nI 16) hx hb dX8_aes_189 (by decide) ?_
        refine w_iremN hx hb (by omega) (by omega) (by omega) dX8_aes_191 ?_
        refine w_iaddN hx hb dX8_aes_192 ?_
        refine w_bald hx hb hK hP 4 rfl (by omega) (by omega) dX8_aes_193 ?_
        refine w_top ((mGo fr fs X r) ((k + 4 * (k % 4)) % 16)) (fa_at (by omega)) ?_
        refine lv_sipush (v := nI 255) hx hb dX8_aes_194 (by decide) ?_
        refine lv_iand hx hb dX8_aes_197 ?_
        refine w_top (nI (un ((mGo fr fs X r) ((k + 4 * (k % 4)) % 16)) % 2 ^ 8)) (un_255 _) ?_
        refine w_iald hx hb hK hP 0 rfl (Nat.mod_lt _ (by decide)) (by omega) dX8_aes_198 ?_
        refine lv_i2b (v := bN (fs (un ((mGo fr fs X r) ((k + 4 * (k % 4)) % 16)) % 2 ^ 8))) hx hb dX8_aes_199 rfl ?_
        refine w_bast hx hb hK hP hD hS 1 rfl (by omega) (by omega) (fl (k + 1) (mSS fs (mGo fr fs X r)) fc) (by rw [bN_bN]; exact fl_s rfl) dX8_aes_200 (fun H locs hP hD hS => ?_)
        have hP : va_P G.1 vwCl [(a 8, .inl (G.2.1, 256, .inl fs)), (a 18, .inl (G.2.2.1, 16, .inl (fl (k + 1) (mSS fs (mGo fr fs X r)) fc))), (h, .inr (7, mO a rd mn tp os ty sz)), (a 16, .inl (G.2.2.1, 240, .inl fr)), (b, .inl (G.2.2.1, bn, .inl (fa d 16 (mGo fr fs X r) fb)))] H := hP
        have hD : va_D A [(a 8, .inl (G.2.1, 256, .inl fs)), (a 18, .inl (G.2.2.1, 16, .inl (fl (k + 1) (mSS fs (mGo fr fs X r)) fc))), (h, .inr (7, mO a rd mn tp os ty sz)), (a 16, .inl (G.2.2.1, 240, .inl fr)), (b, .inl (G.2.2.1, bn, .inl (fa d 16 (mGo fr fs X r) fb)))] := hD
        refine lv_iinc (v := nI (k + 1)) (lv' := [(5, .int (nI (k + 1))), (4, .int (nI (r + 1))), (0, .ref h), (1, .ref b), (2, .int (nI d)), (3, .int (nI 0))]) hx hb dX8_aes_201 hl (k := 0) rfl (nI_add k 1) (by decide) rfl (fun ls hl => ?_)
        refine lv_goto (tgt := 161) hx hb dX8_aes_204 (by decide) ?_
        exact ihk (k + 1) H _ _ (by omega) (by omega) hP hD hS (lv_sub hl [0, 1, 2, 3, 4, 5] rfl)
  · exact absurd rfl h1
