/-! Row: bytes in a row of n places, z of them used, f what they hold -/
def rAt (f : Nat → Int32) (z k : Nat) : Int32 := if k < z then f k else 0
theorem rAt_in {f : Nat → Int32} {z k : Nat} (h : k < z) : rAt f z k = f k := by simp [rAt, h]
theorem rAt_out {f : Nat → Int32} {z k : Nat} (h : z ≤ k) : rAt f z k = 0 := by simp [rAt, Nat.not_lt.mpr h]
def wAt (f : Nat → Int32) (z k : Nat) : Int32 := (((rAt f z k <<< (nI 24 &&& 31)) ||| (rAt f z (k + 1) <<< (nI 16 &&& 31))) ||| (rAt f z (k + 2) <<< (nI 8 &&& 31))) ||| rAt f z (k + 3)
def lAt (f : Nat → Int32) (z k : Nat) : Int64 := (lsl (wAt f z k).toInt64 (nI 32)) ||| ((wAt f z (k + 4)).toInt64 &&& lN 4294967295)
def q4 (a b c d : Int32) : Nat → Int32 := fun j => match j with
  | 0 => a
  | 1 => b
  | 2 => c
  | _ => d
theorem upd4 {f : Nat → Int32} {z : Nat} {a b c d : Int32} : upd (upd (upd (upd f z a) (z + 1) b) ((z + 1) + 1) c) (((z + 1) + 1) + 1) d = fa z 4 (q4 a b c d) f := by
  funext j
  simp only [upd, fa]
  by_cases h : z ≤ j ∧ j < z + 4
  · rw [if_pos h]
    rcases (show j = z ∨ j = z + 1 ∨ j = z + 2 ∨ j = z + 3 by omega) with r | r | r | r
    · subst r
      rw [if_neg (by omega), if_neg (by omega), if_neg (by omega), if_pos rfl, show j - j = 0 by omega]; rfl
    · subst r
      rw [if_neg (by omega), if_neg (by omega), if_pos rfl, show z + 1 - z = 1 by omega]; rfl
    · subst r
      rw [if_neg (by omega), if_pos rfl, show z + 2 - z = 2 by omega]; rfl
    · subst r
      rw [if_pos rfl, show z + 3 - z = 3 by omega]; rfl
  · rw [if_neg h, if_neg (by omega), if_neg (by omega), if_neg (by omega), if_neg (by omega)]
/-- the four bytes of a word, the highest first -/
def wB (w : Int32) : Nat → Int32 := q4 (ush w (nI 24) &&& nI 255) (ush w (nI 16) &&& nI 255) (ush w (nI 8) &&& nI 255) (w &&& nI 255)
theorem z255 : (nI 0 &&& nI 255 : Int32) = 0 := by decide
/-- how many 0s are wanting to a multiple of B -/
def pdN (B q : Nat) : Nat := (B - q % B) % B
theorem pdN_neg {B q : Nat} (hB : B = 8 ∨ B = 16 ∨ B = 64) (hq : q < 2 ^ 31) : (-(nI q)) &&& nI (B - 1) = nI (pdN B q) := by
  have hn : (-(nI q)).toBitVec.toNat = (2 ^ 32 - q) % 2 ^ 32 := by
    show (-(BitVec.ofNat 32 q)).toNat = _
    rw [BitVec.toNat_neg, BitVec.toNat_ofNat, Nat.mod_eq_of_lt (show q < 2 ^ 32 by omega)]
  rcases hB with rfl | rfl | rfl
  · rw [pk_and (-(nI q)) 3 (by decide), hn]; congr 1; unfold pdN; omega
  · rw [pk_and (-(nI q)) 4 (by decide), hn]; congr 1; unfold pdN; omega
  · rw [pk_and (-(nI q)) 6 (by decide), hn]; congr 1; unfold pdN; omega
/-- the place behind the last one that is not 0 -/
def lnz (f : Nat → Int32) : Nat → Nat
  | 0 => 0
  | k + 1 => if f k = 0 then lnz f k else k + 1
theorem lnz_0 {f : Nat → Int32} {k : Nat} (hk : 0 < k) (h : f (k - 1) = 0) : lnz f k = lnz f (k - 1) := by
  obtain ⟨j, rfl⟩ : ∃ j, k = j + 1 := ⟨k - 1, by omega⟩
  simp only [Nat.add_sub_cancel] at h ⊢
  simp [lnz, h]
theorem lnz_n {f : Nat → Int32} {k : Nat} (hk : 0 < k) (h : ¬ f (k - 1) = 0) : lnz f k = k := by
  obtain ⟨j, rfl⟩ : ∃ j, k = j + 1 := ⟨k - 1, by omega⟩
  simp only [Nat.add_sub_cancel] at h
  simp [lnz, h]
theorem sub1_dec {k : Nat} (h : 0 < k) : nI k - nI 1 + (-1) = nI (k - 1) - nI 1 := by
  rw [pk_sub (show 1 ≤ k from h), Int32.sub_eq_add_neg]
  congr 1
theorem sub1_neg {k : Nat} (hk : k < 2 ^ 30) : nI k - nI 1 < 0 → k = 0 := by
  intro h
  rcases Nat.eq_zero_or_pos k with q | q
  · exact q
  · rw [pk_sub (show 1 ≤ k by omega)] at h
    exact absurd h (nI_pos (by omega))
set_option maxHeartbeats 4000000 in
set_option maxRecDepth 100000 in
theorem c_Row_size (l : Launch) (G : wG) (h b n z : Nat) (f : Nat → Int32)  : CMi l G yX5_size wsX5_size 0 0 [.ref h] [(h, .inr (4, [.ref b, .int (nI z)])), (b, .inl (G.2.1, n, .inl f))] (fun r (_ : Unit) => r = nI z) (fun _ => [(h, .inr (4, [.ref b, .int (nI z)])), (b, .inl (G.2.1, n, .inl f))]) := by
  refine CMi.start cX5_size 1 .int (by decide) rfl (Nat.le_of_ble_eq_true rfl) (fun r u h => vp_nar_int r) ?_
  intro p e s m below meth c A Q ls H locs hx hb hml hown hts hK hT hA hP hD hS hl hret
  have hinX5 : ∀ w ∈ u_ws RX5 TX5 2, w ∈ wsX5_size := by decide +kernel
  have hl : lv_has ls 1 [(0, .ref h)] := hl
  refine lv_aload_n hx hb dX5_size_0 rfl (lv_at hl 0 rfl) ?_
  refine va_get (D := G.1) (ci := 4) (v := .int (nI z)) (C := RX5) (T := TX5) (N := 2) hx hb hts hinX5 hown hK hP 0 rfl rfl 1 (by decide) (hts (.fieldLink RX5 21 "CipherBox$Row" "size" "I") (by decide +kernel)) (fun _ h9 => h9) rfl dX5_size_1 ?_
  exact hret (nI z) () H _ 4 ls dX5_size_4 (rfl) (hP.sub [0, 1] rfl) (hD.sub [0, 1] (by decide) rfl) hS

set_option maxHeartbeats 4000000 in
set_option maxRecDepth 100000 in
theorem c_Row_room (l : Launch) (G : wG) (h b n z : Nat) (f : Nat → Int32) (hz : z ≤ n) (hn : n < 2 ^ 31) : CMi l G yX5_room wsX5_room 0 0 [.ref h] [(h, .inr (4, [.ref b, .int (nI z)])), (b, .inl (G.2.1, n, .inl f))] (fun r (_ : Unit) => r = nI (n - z)) (fun _ => [(h, .inr (4, [.ref b, .int (nI z)])), (b, .inl (G.2.1, n, .inl f))]) := by
  refine CMi.start cX5_room 1 .int (by decide) rfl (Nat.le_of_ble_eq_true rfl) (fun r u h => vp_nar_int r) ?_
  intro p e s m below meth c A Q ls H locs hx hb hml hown hts hK hT hA hP hD hS hl hret
  have hinX5 : ∀ w ∈ u_ws RX5 TX5 2, w ∈ wsX5_room := by decide +kernel
  have hl : lv_has ls 1 [(0, .ref h)] := hl
  refine lv_aload_n hx hb dX5_room_0 rfl (lv_at hl 0 rfl) ?_
  refine va_get (D := G.1) (ci := 4) (v := .ref b) (C := RX5) (T := TX5) (N := 2) hx hb hts hinX5 hown hK hP 0 rfl rfl 0 (by decide) (hts (.fieldLink RX5 15 "CipherBox$Row" "bytes" "[I") (by decide +kernel)) (fun _ h9 => h9) rfl dX5_room_1 ?_
  refine w_alenI hx hb hK hP 1 rfl dX5_room_4 ?_
  refine lv_aload_n hx hb dX5_room_5 rfl (lv_at hl 0 rfl) ?_
  refine va_get (D := G.1) (ci := 4) (v := .int (nI z)) (C := RX5) (T := TX5) (N := 2) hx hb hts hinX5 hown hK hP 0 rfl rfl 1 (by decide) (hts (.fieldLink RX5 21 "CipherBox$Row" "size" "I") (by decide +kernel)) (fun _ h9 => h9) rfl dX5_room_6 ?_
  refine w_isubN hx hb (by omega) dX5_room_9 ?_
  exact hret (nI (n - z)) () H _ 10 ls dX5_room_10 (rfl) (hP.sub [0, 1] rfl) (hD.sub [0, 1] (by decide) rfl) hS

set_option maxHeartbeats 4000000 in
set_option maxRecDepth 100000 in
theorem c_Row_at (l : Launch) (G : wG) (h b n z : Nat) (f : Nat → Int32) (k : Nat) (hz : z ≤ n) (hn : n < 2 ^ 31) (hk : k < 2 ^ 31) : CMi l G yX5_at wsX5_at 0 0 [.ref h, .int (nI k)] [(h, .inr (4, [.ref b, .int (nI z)])), (b, .inl (G.2.1, n, .inl f))] (fun r (_ : Unit) => r = rAt f z k) (fun _ => [(h, .inr (4, [.ref b, .int (nI z)])), (b, .inl (G.2.1, n, .inl f))]) := by
  refine CMi.start cX5_at 2 .int (by decide) rfl (Nat.le_of_ble_eq_true rfl) (fun r u h => vp_nar_int r) ?_
  intro p e s m below meth c A Q ls H locs hx hb hml hown hts hK hT hA hP hD hS hl hret
  have hinX5 : ∀ w ∈ u_ws RX5 TX5 2, w ∈ wsX5_at := by decide +kernel
  have hl : lv_has ls 2 [(0, .ref h), (1, .int (nI k))] := hl
  refine lv_iload_n hx hb dX5_at_0 rfl (lv_at hl 1 rfl) ?_
  refine lv_if_lt (tgt := 21) hx hb dX5_at_1 (by decide) (fun h1 => ?_) (fun h1 => ?_)
  · exact absurd h1 (nI_pos hk)
  · refine lv_iload_n hx hb dX5_at_4 rfl (lv_at hl 1 rfl) ?_
    refine lv_aload_n hx hb dX5_at_5 rfl (lv_at hl 0 rfl) ?_
    refine va_get (D := G.1) (ci := 4) (v := .int (nI z)) (C := RX5) (T := TX5) (N := 2) hx hb hts hinX5 hown hK hP 0 rfl rfl 1 (by decide) (hts (.fieldLink RX5 21 "CipherBox$Row" "size" "I") (by decide +kernel)) (fun _ h9 => h9) rfl dX5_at_6 ?_
    refine w_icmpN_ge (tgt := 21) hx hb (by omega) (by omega) dX5_at_9 (by decide) (fun h2 => ?_) (fun h2 => ?_)
    · refine lv_iconst (v := nI 0) hx hb dX5_at_21 (by decide) ?_
      exact hret (nI 0) () H _ 22 ls dX5_at_22 (by rw [rAt_out (by omega)]; exact nI_0) (hP.sub [0, 1] rfl) (hD.sub [0, 1] (by decide) rfl) hS
    · refine lv_aload_n hx hb dX5_at_12 rfl (lv_at hl 0 rfl) ?_
      refine va_get (D := G.1) (ci := 4) (v := .ref b) (C := RX5) (T := TX5) (N := 2) hx hb hts hinX5 hown hK hP 0 rfl rfl 0 (by decide) (hts (.fieldLink RX5 15 "CipherBox$Row" "bytes" "[I") (by decide +kernel)) (fun _ h9 => h9) rfl dX5_at_13 ?_
      refine lv_iload_n hx hb dX5_at_16 rfl (lv_at hl 1 rfl) ?_
      refine w_iald hx hb hK hP 1 rfl (by omega) (by omega) dX5_at_17 ?_
      refine lv_goto (tgt := 22) hx hb dX5_at_18 (by decide) ?_
      exact hret (f k) () H _ 22 ls dX5_at_22 (by rw [rAt_in (by omega)]) (hP.sub [0, 1] rfl) (hD.sub [0, 1] (by decide) rfl) hS

set_option maxHeartbeats 4000000 in
set_option maxRecDepth 100000 in
theorem c_Row_wordAt (l : Launch) (G : wG) (h b n z : Nat) (f : Nat → Int32) (k : Nat) (hz : z ≤ n) (hn : n < 2 ^ 31) (hk : k < 2 ^ 30) : CMi l G yX5_wordAt wsX5_wordAt 1 21 [.ref h, .int (nI k)] [(h, .inr (4, [.ref b, .int (nI z)])), (b, .inl (G.2.1, n, .inl f))] (fun r (_ : Unit) => r = wAt f z k) (fun _ => [(h, .inr (4, [.ref b, .int (nI z)])), (b, .inl (G.2.1, n, .inl f))]) := by
  refine CMi.start cX5_wordAt 2 .int (by decide) rfl (Nat.le_of_ble_eq_true rfl) (fun r u h => vp_nar_int r) ?_
  intro p e s m below meth c A Q ls H locs hx hb hml hown hts hK hT hA hP hD hS hl hret
  have hl : lv_has ls 2 [(0, .ref h), (1, .int (nI k))] := hl
  refine lv_aload_n hx hb dX5_wordAt_0 rfl (lv_at hl 0 rfl) ?_
  refine lv_iload_n hx hb dX5_wordAt_1 rfl (lv_at hl 1 rfl) ?_
  refine w_fini (wr := []) (va_runV (As := [.int (nI k)]) (rest := []) ⟨hx, hb, hml, hown, hts⟩ (c_Row_at l G h b n z f k (by omega) (by omega) (by omega) H.size) (cwV 1 hts gX5_wordAt_X5_at rfl rfl rfl (by decide +kernel) ⟨Nat.le_of_ble_eq_true rfl, Nat.le_of_ble_eq_true rfl⟩) ⟨wPre.blind, (va_recv hK hP (ci := 4) (q0 := 0) rfl rfl), (fun U hU hW => ⟨rfl, w_pre hK hT hA hP hD hS (isC := [0, 1]) (by decide) rfl U hU hW⟩)⟩ rfl rfl hl.1 rfl (lv_room (Nat.le_of_ble_eq_true rfl)) dX5_wordAt_2 ⟨Nat.le_of_ble_eq_true rfl, Nat.le_of_ble_eq_true rfl⟩) hA hP hD hS [0, 1] [] rfl rfl (by decide) (by decide) (fun r u H locs hpost hP hD hS => ?_)
  obtain rfl := hpost
  have hP : va_P G.1 vwCl [(h, .inr (4, [.ref b, .int (nI z)])), (b, .inl (G.2.1, n, .inl f))] H := hP
  have hD : va_D A [(h, .inr (4, [.ref b, .int (nI z)])), (b, .inl (G.2.1, n, .inl f))] := hD
  refine lv_bipush (v := nI 24) hx hb dX5_wordAt_5 (by decide) ?_
  refine lv_ishl hx hb dX5_wordAt_7 ?_
  refine lv_aload_n hx hb dX5_wordAt_8 rfl (lv_at hl 0 rfl) ?_
  refine lv_iload_n hx hb dX5_wordAt_9 rfl (lv_at hl 1 rfl) ?_
  refine lv_iconst (v := nI 1) hx hb dX5_wordAt_10 (by decide) ?_
  refine w_iaddN hx hb dX5_wordAt_11 ?_
  refine w_fini (wr := []) (va_runV (As := [.int (nI (k + 1))]) (rest := [.int ((rAt f z k) <<< ((nI 24) &&& 31))]) ⟨hx, hb, hml, hown, hts⟩ (c_Row_at l G h b n z f (k + 1) (by omega) (by omega) (by omega) H.size) (cwV 1 hts gX5_wordAt_X5_at rfl rfl rfl (by decide +kernel) ⟨Nat.le_of_ble_eq_true rfl, Nat.le_of_ble_eq_true rfl⟩) ⟨wPre.blind, (va_recv hK hP (ci := 4) (q0 := 0) rfl rfl), (fun U hU hW => ⟨rfl, w_pre hK hT hA hP hD hS (isC := [0, 1]) (by decide) rfl U hU hW⟩)⟩ rfl rfl hl.1 rfl (lv_room (Nat.le_of_ble_eq_true rfl)) dX5_wordAt_12 ⟨Nat.le_of_ble_eq_true rfl, Nat.le_of_ble_eq_true rfl⟩) hA hP hD hS [0, 1] [] rfl rfl (by decide) (by decide) (fun r u H locs hpost hP hD hS => ?_)
  obtain rfl := hpost
  have hP : va_P G.1 vwCl [(h, .inr (4, [.ref b, .int (nI z)])), (b, .inl (G.2.1, n, .inl f))] H := hP
  have hD : va_D A [(h, .inr (4, [.ref b, .int (nI z)])), (b, .inl (G.2.1, n, .inl f))] := hD
  refine lv_bipush (v := nI 16) hx hb dX5_wordAt_15 (by decide) ?_
  refine lv_ishl hx hb dX5_wordAt_17 ?_
  refine lv_ior hx hb dX5_wordAt_18 ?_
  refine lv_aload_n hx hb dX5_wordAt_19 rfl (lv_at hl 0 rfl) ?_
  refine lv_iload_n hx hb dX5_wordAt_20 rfl (lv_at hl 1 rfl) ?_
  refine lv_iconst (v := nI 2) hx hb dX5_wordAt_21 (by decide) ?_
  refine w_iaddN hx hb dX5_wordAt_22 ?_
  refine w_fini (wr := []) (va_runV (As := [.int (nI (k + 2))]) (rest := [.int (((rAt f z k) <<< ((nI 24) &&& 31)) ||| ((rAt f z (k + 1)) <<< ((nI 16) &&& 31)))]) ⟨hx, hb, hml, hown, hts⟩ (c_Row_at l G h b n z f (k + 2) (by omega) (by omega) (by omega) H.size) (cwV 1 hts gX5_wordAt_X5_at rfl rfl rfl (by decide +kernel) ⟨Nat.le_of_ble_eq_true rfl, Nat.le_of_ble_eq_true rfl⟩) ⟨wPre.blind, (va_recv hK hP (ci := 4) (q0 := 0) rfl rfl), (fun U hU hW => ⟨rfl, w_pre hK hT hA hP hD hS (isC := [0, 1]) (by decide) rfl U hU hW⟩)⟩ rfl rfl hl.1 rfl (lv_room (Nat.le_of_ble_eq_true rfl)) dX5_wordAt_23 ⟨Nat.le_of_ble_eq_true rfl, Nat.le_of_ble_eq_true rfl⟩) hA hP hD hS [0, 1] [] rfl rfl (by decide) (by decide) (fun r u H locs hpost hP hD hS => ?_)
  obtain rfl := hpost
  have hP : va_P G.1 vwCl [(h, .inr (4, [.ref b, .int (nI z)])), (b, .inl (G.2.1, n, .inl f))] H := hP
  have hD : va_D A [(h, .inr (4, [.ref b, .int (nI z)])), (b, .inl (G.2.1, n, .inl f))] := hD
  refine lv_bipush (v := nI 8) hx hb dX5_wordAt_26 (by decide) ?_
  refine lv_ishl hx hb dX5_wordAt_28 ?_
  refine lv_ior hx hb dX5_wordAt_29 ?_
  refine lv_aload_n hx hb dX5_wordAt_30 rfl (lv_at hl 0 rfl) ?_
  refine lv_iload_n hx hb dX5_wordAt_31 rfl (lv_at hl 1 rfl) ?_
  refine lv_iconst (v := nI 3) hx hb dX5_wordAt_32 (by decide) ?_
  refine w_iaddN hx hb dX5_wordAt_33 ?_
  refine w_fini (wr := []) (va_runV (As := [.int (nI (k + 3))]) (rest := [.int ((((rAt f z k) <<< ((nI 24) &&& 31)) ||| ((rAt f z (k + 1)) <<< ((nI 16) &&& 31))) ||| ((rAt f z (k + 2)) <<< ((nI 8) &&& 31)))]) ⟨hx, hb, hml, hown, hts⟩ (c_Row_at l G h b n z f (k + 3) (by omega) (by omega) (by omega) H.size) (cwV 1 hts gX5_wordAt_X5_at rfl rfl rfl (by decide +kernel) ⟨Nat.le_of_ble_eq_true rfl, Nat.le_of_ble_eq_true rfl⟩) ⟨wPre.blind, (va_recv hK hP (ci := 4) (q0 := 0) rfl rfl), (fun U hU hW => ⟨rfl, w_pre hK hT hA hP hD hS (isC := [0, 1]) (by decide) rfl U hU hW⟩)⟩ rfl rfl hl.1 rfl (lv_room (Nat.le_of_ble_eq_true rfl)) dX5_wordAt_34 ⟨Nat.le_of_ble_eq_true rfl, Nat.le_of_ble_eq_true rfl⟩) hA hP hD hS [0, 1] [] rfl rfl (by decide) (by decide) (fun r u H locs hpost hP hD hS => ?_)
  obtain rfl := hpost
  have hP : va_P G.1 vwCl [(h, .inr (4, [.ref b, .int (nI z)])), (b, .inl (G.2.1, n, .inl f))] H := hP
  have hD : va_D A [(h, .inr (4, [.ref b, .int (nI z)])), (b, .inl (G.2.1, n, .inl f))] := hD
  refine lv_ior hx hb dX5_wordAt_37 ?_
  exact hret (((((rAt f z k) <<< ((nI 24) &&& 31)) ||| ((rAt f z (k + 1)) <<< ((nI 16) &&& 31))) ||| ((rAt f z (k + 2)) <<< ((nI 8) &&& 31))) ||| (rAt f z (k + 3))) () H _ 38 ls dX5_wordAt_38 (rfl) (hP.sub [0, 1] rfl) (hD.sub [0, 1] (by decide) rfl) hS

set_option maxHeartbeats 4000000 in
set_option maxRecDepth 100000 in
theorem c_Row_longAt (l : Launch) (G : wG) (h b n z : Nat) (f : Nat → Int32) (k : Nat) (hz : z ≤ n) (hn : n < 2 ^ 31) (hk : k < 2 ^ 29) : CMl l G yX5_longAt wsX5_longAt 2 42 [.ref h, .int (nI k)] [(h, .inr (4, [.ref b, .int (nI z)])), (b, .inl (G.2.1, n, .inl f))] (fun r (_ : Unit) => r = lAt f z k) (fun _ => [(h, .inr (4, [.ref b, .int (nI z)])), (b, .inl (G.2.1, n, .inl f))]) := by
  refine CMl.start cX5_longAt 2 (by decide) rfl (Nat.le_of_ble_eq_true rfl) ?_
  intro p e s m below meth c A Q ls H locs hx hb hml hown hts hK hT hA hP hD hS hl hret
  have hl : lv_has ls 2 [(0, .ref h), (1, .int (nI k))] := hl
  refine lv_aload_n hx hb dX5_longAt_0 rfl (lv_at hl 0 rfl) ?_
  refine lv_iload_n hx hb dX5_longAt_1 rfl (lv_at hl 1 rfl) ?_
  refine w_fini (wr := []) (va_runV (As := [.int (nI k)]) (rest := []) ⟨hx, hb, hml, hown, hts⟩ (c_Row_wordAt l G h b n z f k (by omega) (by omega) (by omega) H.size) (cwV 1 hts gX5_longAt_X5_wordAt rfl rfl rfl (by decide +kernel) ⟨Nat.le_of_ble_eq_true rfl, Nat.le_of_ble_eq_true rfl⟩) ⟨wPre.blind, (va_recv hK hP (ci := 4) (q0 := 0) rfl rfl), (fun U hU hW => ⟨rfl, w_pre hK hT hA hP hD hS (isC := [0, 1]) (by decide) rfl U hU hW⟩)⟩ rfl rfl hl.1 rfl (lv_room (Nat.le_of_ble_eq_true rfl)) dX5_longAt_2 ⟨Nat.le_of_ble_eq_true rfl, Nat.le_of_ble_eq_true rfl⟩) hA hP hD hS [0, 1] [] rfl rfl (by decide) (by decide) (fun r u H locs hpost hP hD hS => ?_)
  obtain rfl := hpost
  have hP : va_P G.1 vwCl [(h, .inr (4, [.ref b, .int (nI z)])), (b, .inl (G.2.1, n, .inl f))] H := hP
  have hD : va_D A [(h, .inr (4, [.ref b, .int (nI z)])), (b, .inl (G.2.1, n, .inl f))] := hD
  refine lv_i2l (v := ((wAt f z k)).toInt64) hx hb dX5_longAt_5 rfl ?_
  refine lv_bipush (v := nI 32) hx hb dX5_longAt_6 (by decide) ?_
  refine lv_lshl (v := lsl (((wAt f z k)).toInt64) (nI 32)) hx hb dX5_longAt_8 rfl ?_
  refine lv_aload_n hx hb dX5_longAt_9 rfl (lv_at hl 0 rfl) ?_
  refine lv_iload_n hx hb dX5_longAt_10 rfl (lv_at hl 1 rfl) ?_
  refine lv_iconst (v := nI 4) hx hb dX5_longAt_11 (by decide) ?_
  refine w_iaddN hx hb dX5_longAt_12 ?_
  refine w_fini (wr := []) (va_runV (As := [.int (nI (k + 4))]) (rest := [.long (lsl (((wAt f z k)).toInt64) (nI 32))]) ⟨hx, hb, hml, hown, hts⟩ (c_Row_wordAt l G h b n z f (k + 4) (by omega) (by omega) (by omega) H.size) (cwV 1 hts gX5_longAt_X5_wordAt rfl rfl rfl (by decide +kernel) ⟨Nat.le_of_ble_eq_true rfl, Nat.le_of_ble_eq_true rfl⟩) ⟨wPre.blind, (va_recv hK hP (ci := 4) (q0 := 0) rfl rfl), (fun U hU hW => ⟨rfl, w_pre hK hT hA hP hD hS (isC := [0, 1]) (by decide) rfl U hU hW⟩)⟩ rfl rfl hl.1 rfl (lv_room (Nat.le_of_ble_eq_true rfl)) dX5_longAt_13 ⟨Nat.le_of_ble_eq_true rfl, Nat.le_of_ble_eq_true rfl⟩) hA hP hD hS [0, 1] [] rfl rfl (by decide) (by decide) (fun r u H locs hpost hP hD hS => ?_)
  obtain rfl := hpost
  have hP : va_P G.1 vwCl [(h, .inr (4, [.ref b, .int (nI z)])), (b, .inl (G.2.1, n, .inl f))] H := hP
  have hD : va_D A [(h, .inr (4, [.ref b, .int (nI z)])), (b, .inl (G.2.1, n, .inl f))] := hD
  refine lv_i2l (v := ((wAt f z (k + 4))).toInt64) hx hb dX5_longAt_16 rfl ?_
  refine lv_ldc2 hx hb hown (hts (.constantLong RX5 32 (4294967295)) (by decide +kernel)) dX5_longAt_17 ?_
  refine w_topl (lN 4294967295) (by decide) ?_
  refine lv_land hx hb dX5_longAt_20 ?_
  refine lv_lor hx hb dX5_longAt_21 ?_
  exact hret ((lsl (((wAt f z k)).toInt64) (nI 32)) ||| ((((wAt f z (k + 4))).toInt64) &&& (lN 4294967295))) () H _ 22 ls dX5_longAt_22 (rfl) (hP.sub [0, 1] rfl) (hD.sub [0, 1] (by decide) rfl) hS

set_option maxHeartbeats 4000000 in
set_option maxRecDepth 100000 in
theorem c_Row_add (l : Launch) (G : wG) (h b n z : Nat) (f : Nat → Int32) (v : Int32) (hz : z < n) (hn : n < 2 ^ 31) : CMv l G yX5_add wsX5_add 0 0 0 0 [.ref h, .int v] [(h, .inr (4, [.ref b, .int (nI z)])), (b, .inl (G.2.1, n, .inl f))] (fun (_ : Unit) => True) (fun _ => [(h, .inr (4, [.ref b, .int (nI (z + 1))])), (b, .inl (G.2.1, n, .inl (upd f z (v &&& nI 255))))]) := by
  refine CMv.start cX5_add 2 (by decide) rfl (Nat.le_of_ble_eq_true rfl) ?_
  intro p e s m below meth c A Q ls H locs hx hb hml hown hnm hts hK hT hA hP hD hS hl hret
  have hinX5 : ∀ w ∈ u_ws RX5 TX5 2, w ∈ wsX5_add := by decide +kernel
  have hl : lv_has ls 2 [(0, .ref h), (1, .int v)] := hl
  refine lv_aload_n hx hb dX5_add_0 rfl (lv_at hl 0 rfl) ?_
  refine va_get (D := G.1) (ci := 4) (v := .int (nI z)) (C := RX5) (T := TX5) (N := 2) hx hb hts hinX5 hown hK hP 0 rfl rfl 1 (by decide) (hts (.fieldLink RX5 21 "CipherBox$Row" "size" "I") (by decide +kernel)) (fun _ h9 => h9) rfl dX5_add_1 ?_
  refine lv_aload_n hx hb dX5_add_4 rfl (lv_at hl 0 rfl) ?_
  refine va_get (D := G.1) (ci := 4) (v := .ref b) (C := RX5) (T := TX5) (N := 2) hx hb hts hinX5 hown hK hP 0 rfl rfl 0 (by decide) (hts (.fieldLink RX5 15 "CipherBox$Row" "bytes" "[I") (by decide +kernel)) (fun _ h9 => h9) rfl dX5_add_5 ?_
  refine w_alenI hx hb hK hP 1 rfl dX5_add_8 ?_
  refine w_icmpN_ge (tgt := 36) hx hb (by omega) (by omega) dX5_add_9 (by decide) (fun h1 => ?_) (fun h1 => ?_)
  · exact absurd h1 (by omega)
  · refine lv_aload_n hx hb dX5_add_12 rfl (lv_at hl 0 rfl) ?_
    refine va_get (D := G.1) (ci := 4) (v := .ref b) (C := RX5) (T := TX5) (N := 2) hx hb hts hinX5 hown hK hP 0 rfl rfl 0 (by decide) (hts (.fieldLink RX5 15 "CipherBox$Row" "bytes" "[I") (by decide +kernel)) (fun _ h9 => h9) rfl dX5_add_13 ?_
    refine lv_aload_n hx hb dX5_add_16 rfl (lv_at hl 0 rfl) ?_
    refine va_get (D := G.1) (ci := 4) (v := .int (nI z)) (C := RX5) (T := TX5) (N := 2) hx hb hts hinX5 hown hK hP 0 rfl rfl 1 (by decide) (hts (.fieldLink RX5 21 "CipherBox$Row" "size" "I") (by decide +kernel)) (fun _ h9 => h9) rfl dX5_add_17 ?_
    refine lv_iload_n hx hb dX5_add_20 rfl (lv_at hl 1 rfl) ?_
    refine lv_sipush (v := nI 255) hx hb dX5_add_21 (by decide) ?_
    refine lv_iand hx hb dX5_add_24 ?_
    refine w_iast hx hb hK hP hD hS 1 rfl (by omega) (by omega) (upd f z (v &&& (nI 255))) (rfl) dX5_add_25 (fun H locs hP hD hS => ?_)
    have hP : va_P G.1 vwCl [(h, .inr (4, [.ref b, .int (nI z)])), (b, .inl (G.2.1, n, .inl (upd f z (v &&& (nI 255)))))] H := hP
    have hD : va_D A [(h, .inr (4, [.ref b, .int (nI z)])), (b, .inl (G.2.1, n, .inl (upd f z (v &&& (nI 255)))))] := hD
    refine lv_aload_n hx hb dX5_add_26 rfl (lv_at hl 0 rfl) ?_
    refine lv_dup hx hb dX5_add_27 rfl ?_
    refine va_get (D := G.1) (ci := 4) (v := .int (nI z)) (C := RX5) (T := TX5) (N := 2) hx hb hts hinX5 hown hK hP 0 rfl rfl 1 (by decide) (hts (.fieldLink RX5 21 "CipherBox$Row" "size" "I") (by decide +kernel)) (fun _ h9 => h9) rfl dX5_add_28 ?_
    refine lv_iconst (v := nI 1) hx hb dX5_add_31 (by decide) ?_
    refine w_iaddN hx hb dX5_add_32 ?_
    refine va_put (D := G.1) (ci := 4) (v := .int (nI (z + 1))) (ty := .int) (C := RX5) (T := TX5) (N := 2) hx hb hts hinX5 tyX5 tyX5_ok nmX5 hown hK hP hD hS 0 rfl rfl 1 (by decide) (hts (.fieldLink RX5 21 "CipherBox$Row" "size" "I") (by decide +kernel)) (fun _ h9 => h9) rfl (by decide +kernel) rfl rfl (Nat.le_of_ble_eq_true rfl) dX5_add_33 (fun H locs hP hD hS => ?_)
    have hP : va_P G.1 vwCl [(h, .inr (4, [.ref b, .int (nI (z + 1))])), (b, .inl (G.2.1, n, .inl (upd f z (v &&& (nI 255)))))] H := hP
    have hD : va_D A [(h, .inr (4, [.ref b, .int (nI (z + 1))])), (b, .inl (G.2.1, n, .inl (upd f z (v &&& (nI 255)))))] := hD
    exact hret () H _ 36 ls dX5_add_36 (trivial) (hP.sub [0, 1] rfl) (hD.sub [0, 1] (by decide) rfl) hS

set_option maxHeartbeats 4000000 in
set_option maxRecDepth 100000 in
theorem c_Row_addWord (l : Launch) (G : wG) (h b n z : Nat) (f : Nat → Int32) (v : Int32) (hz : z + 4 ≤ n) (hn : n < 2 ^ 31) : CMv l G yX5_addWord wsX5_addWord 1 21 0 0 [.ref h, .int v] [(h, .inr (4, [.ref b, .int (nI z)])), (b, .inl (G.2.1, n, .inl f))] (fun (_ : Unit) => True) (fun _ => [(h, .inr (4, [.ref b, .int (nI (z + 4))])), (b, .inl (G.2.1, n, .inl (fa z 4 (wB v) f)))]) := by
  refine CMv.start cX5_addWord 2 (by decide) rfl (Nat.le_of_ble_eq_true rfl) ?_
  intro p e s m below meth c A Q ls H locs hx hb hml hown hnm hts hK hT hA hP hD hS hl hret
  have hl : lv_has ls 2 [(0, .ref h), (1, .int v)] := hl
  refine lv_aload_n hx hb dX5_addWord_0 rfl (lv_at hl 0 rfl) ?_
  refine lv_iload_n hx hb dX5_addWord_1 rfl (lv_at hl 1 rfl) ?_
  refine lv_bipush (v := nI 24) hx hb dX5_addWord_2 (by decide) ?_
  refine lv_iushr (v := ush v (nI 24)) hx hb dX5_addWord_4 rfl ?_
  refine w_finv (wr := []) (va_runV (As := [.int (ush v (nI 24))]) (rest := []) ⟨hx, hb, hml, hown, hts⟩ (c_Row_add l G h b n z f (ush v (nI 24)) (by omega) (by omega) H.size) (cwV 1 hts gX5_addWord_X5_add rfl rfl rfl (by decide +kernel) ⟨Nat.le_of_ble_eq_true rfl, Nat.le_of_ble_eq_true rfl⟩) ⟨wPre.blind, (va_recv hK hP (ci := 4) (q0 := 0) rfl rfl), (fun U hU hW => ⟨rfl, w_pre hK hT hA hP hD hS (isC := [0, 1]) (by decide) rfl U hU hW⟩)⟩ rfl rfl hl.1 rfl (lv_room (Nat.le_of_ble_eq_true rfl)) dX5_addWord_5 ⟨Nat.le_of_ble_eq_true rfl, Nat.le_of_ble_eq_true rfl⟩) hA hP hD hS [0, 1] [] rfl rfl (by decide) (by decide) (fun u H locs hpost hP hD hS => ?_)
  have hP : va_P G.1 vwCl [(h, .inr (4, [.ref b, .int (nI (z + 1))])), (b, .inl (G.2.1, n, .inl (upd f z ((ush v (nI 24)) &&& nI 255))))] H := hP
  have hD : va_D A [(h, .inr (4, [.ref b, .int (nI (z + 1))])), (b, .inl (G.2.1, n, .inl (upd f z ((ush v (nI 24)) &&& nI 255))))] := hD
  refine lv_aload_n hx hb dX5_addWord_8 rfl (lv_at hl 0 rfl) ?_
  refine lv_iload_n hx hb dX5_addWord_9 rfl (lv_at hl 1 rfl) ?_
  refine lv_bipush (v := nI 16) hx hb dX5_addWord_10 (by decide) ?_
  refine lv_iushr (v := ush v (nI 16)) hx hb dX5_addWord_12 rfl ?_
  refine w_finv (wr := []) (va_runV (As := [.int (ush v (nI 16))]) (rest := []) ⟨hx, hb, hml, hown, hts⟩ (c_Row_add l G h b n (z + 1) (upd f z ((ush v (nI 24)) &&& nI 255)) (ush v (nI 16)) (by omega) (by omega) H.size) (cwV 1 hts gX5_addWord_X5_add rfl rfl rfl (by decide +kernel) ⟨Nat.le_of_ble_eq_true rfl, Nat.le_of_ble_eq_true rfl⟩) ⟨wPre.blind, (va_recv hK hP (ci := 4) (q0 := 0) rfl rfl), (fun U hU hW => ⟨rfl, w_pre hK hT hA hP hD hS (isC := [0, 1]) (by decide) rfl U hU hW⟩)⟩ rfl rfl hl.1 rfl (lv_room (Nat.le_of_ble_eq_true rfl)) dX5_addWord_13 ⟨Nat.le_of_ble_eq_true rfl, Nat.le_of_ble_eq_true rfl⟩) hA hP hD hS [0, 1] [] rfl rfl (by decide) (by decide) (fun u H locs hpost hP hD hS => ?_)
  have hP : va_P G.1 vwCl [(h, .inr (4, [.ref b, .int (nI ((z + 1) + 1))])), (b, .inl (G.2.1, n, .inl (upd (upd f z ((ush v (nI 24)) &&& nI 255)) (z + 1) ((ush v (nI 16)) &&& nI 255))))] H := hP
  have hD : va_D A [(h, .inr (4, [.ref b, .int (nI ((z + 1) + 1))])), (b, .inl (G.2.1, n, .inl (upd (upd f z ((ush v (nI 24)) &&& nI 255)) (z + 1) ((ush v (nI 16)) &&& nI 255))))] := hD
  refine lv_aload_n hx hb dX5_addWord_16 rfl (lv_at hl 0 rfl) ?_
  refine lv_iload_n hx hb dX5_addWord_17 rfl (lv_at hl 1 rfl) ?_
  refine lv_bipush (v := nI 8) hx hb dX5_addWord_18 (by decide) ?_
  refine lv_iushr (v := ush v (nI 8)) hx hb dX5_addWord_20 rfl ?_
  refine w_finv (wr := []) (va_runV (As := [.int (ush v (nI 8))]) (rest := []) ⟨hx, hb, hml, hown, hts⟩ (c_Row_add l G h b n ((z + 1) + 1) (upd (upd f z ((ush v (nI 24)) &&& nI 255)) (z + 1) ((ush v (nI 16)) &&& nI 255)) (ush v (nI 8)) (by omega) (by omega) H.size) (cwV 1 hts gX5_addWord_X5_add rfl rfl rfl (by decide +kernel) ⟨Nat.le_of_ble_eq_true rfl, Nat.le_of_ble_eq_true rfl⟩) ⟨wPre.blind, (va_recv hK hP (ci := 4) (q0 := 0) rfl rfl), (fun U hU hW => ⟨rfl, w_pre hK hT hA hP hD hS (isC := [0, 1]) (by decide) rfl U hU hW⟩)⟩ rfl rfl hl.1 rfl (lv_room (Nat.le_of_ble_eq_true rfl)) dX5_addWord_21 ⟨Nat.le_of_ble_eq_true rfl, Nat.le_of_ble_eq_true rfl⟩) hA hP hD hS [0, 1] [] rfl rfl (by decide) (by decide) (fun u H locs hpost hP hD hS => ?_)
  have hP : va_P G.1 vwCl [(h, .inr (4, [.ref b, .int (nI (((z + 1) + 1) + 1))])), (b, .inl (G.2.1, n, .inl (upd (upd (upd f z ((ush v (nI 24)) &&& nI 255)) (z + 1) ((ush v (nI 16)) &&& nI 255)) ((z + 1) + 1) ((ush v (nI 8)) &&& nI 255))))] H := hP
  have hD : va_D A [(h, .inr (4, [.ref b, .int (nI (((z + 1) + 1) + 1))])), (b, .inl (G.2.1, n, .inl (upd (upd (upd f z ((ush v (nI 24)) &&& nI 255)) (z + 1) ((ush v (nI 16)) &&& nI 255)) ((z + 1) + 1) ((ush v (nI 8)) &&& nI 255))))] := hD
  refine lv_aload_n hx hb dX5_addWord_24 rfl (lv_at hl 0 rfl) ?_
  refine lv_iload_n hx hb dX5_addWord_25 rfl (lv_at hl 1 rfl) ?_
  refine w_finv (wr := []) (va_runV (As := [.int v]) (rest := []) ⟨hx, hb, hml, hown, hts⟩ (c_Row_add l G h b n (((z + 1) + 1) + 1) (upd (upd (upd f z ((ush v (nI 24)) &&& nI 255)) (z + 1) ((ush v (nI 16)) &&& nI 255)) ((z + 1) + 1) ((ush v (nI 8)) &&& nI 255)) v (by omega) (by omega) H.size) (cwV 1 hts gX5_addWord_X5_add rfl rfl rfl (by decide +kernel) ⟨Nat.le_of_ble_eq_true rfl, Nat.le_of_ble_eq_true rfl⟩) ⟨wPre.blind, (va_recv hK hP (ci := 4) (q0 := 0) rfl rfl), (fun U hU hW => ⟨rfl, w_pre hK hT hA hP hD hS (isC := [0, 1]) (by decide) rfl U hU hW⟩)⟩ rfl rfl hl.1 rfl (lv_room (Nat.le_of_ble_eq_true rfl)) dX5_addWord_26 ⟨Nat.le_of_ble_eq_true rfl, Nat.le_of_ble_eq_true rfl⟩) hA hP hD hS [0, 1] [] rfl rfl (by decide) (by decide) (fun u H locs hpost hP hD hS => ?_)
  have hP : va_P G.1 vwCl [(h, .inr (4, [.ref b, .int (nI ((((z + 1) + 1) + 1) + 1))])), (b, .inl (G.2.1, n, .inl (upd (upd (upd (upd f z ((ush v (nI 24)) &&& nI 255)) (z + 1) ((ush v (nI 16)) &&& nI 255)) ((z + 1) + 1) ((ush v (nI 8)) &&& nI 255)) (((z + 1) + 1) + 1) (v &&& nI 255))))] H := hP
  have hD : va_D A [(h, .inr (4, [.ref b, .int (nI ((((z + 1) + 1) + 1) + 1))])), (b, .inl (G.2.1, n, .inl (upd (upd (upd (upd f z ((ush v (nI 24)) &&& nI 255)) (z + 1) ((ush v (nI 16)) &&& nI 255)) ((z + 1) + 1) ((ush v (nI 8)) &&& nI 255)) (((z + 1) + 1) + 1) (v &&& nI 255))))] := hD
  exact hret () H _ 29 ls dX5_addWord_29 (trivial) (by have h9 : va_P G.1 vwCl [(h, .inr (4, [.ref b, .int (nI ((((z + 1) + 1) + 1) + 1))])), (b, .inl (G.2.1, n, .inl (upd (upd (upd (upd f z ((ush v (nI 24)) &&& nI 255)) (z + 1) ((ush v (nI 16)) &&& nI 255)) ((z + 1) + 1) ((ush v (nI 8)) &&& nI 255)) (((z + 1) + 1) + 1) (v &&& nI 255))))] H := (hP.sub [0, 1] rfl); rw [upd4] at h9; exact h9) (by have h9 : va_D A [(h, .inr (4, [.ref b, .int (nI ((((z + 1) + 1) + 1) + 1))])), (b, .inl (G.2.1, n, .inl (upd (upd (upd (upd f z ((ush v (nI 24)) &&& nI 255)) (z + 1) ((ush v (nI 16)) &&& nI 255)) ((z + 1) + 1) ((ush v (nI 8)) &&& nI 255)) (((z + 1) + 1) + 1) (v &&& nI 255))))] := (hD.sub [0, 1] (by decide) rfl); rw [upd4] at h9; exact h9) hS

set_option maxHeartbeats 4000000 in
set_option maxRecDepth 100000 in
theorem c_Row_addLong (l : Launch) (G : wG) (h b n z : Nat) (f : Nat → Int32) (v : Int64) (hz : z + 8 ≤ n) (hn : n < 2 ^ 31) : CMv l G yX5_addLong wsX5_addLong 2 42 0 0 [.ref h, .long v] [(h, .inr (4, [.ref b, .int (nI z)])), (b, .inl (G.2.1, n, .inl f))] (fun (_ : Unit) => True) (fun _ => [(h, .inr (4, [.ref b, .int (nI (z + 8))])), (b, .inl (G.2.1, n, .inl (fa (z + 4) 4 (wB (v.toInt32)) (fa z 4 (wB ((lus v (nI 32)).toInt32)) f))))]) := by
  refine CMv.start cX5_addLong 3 (by decide) rfl (Nat.le_of_ble_eq_true rfl) ?_
  intro p e s m below meth c A Q ls H locs hx hb hml hown hnm hts hK hT hA hP hD hS hl hret
  have hl : lv_has ls 3 [(0, .ref h), (1, .long v)] := hl
  refine lv_aload_n hx hb dX5_addLong_0 rfl (lv_at hl 0 rfl) ?_
  refine lv_lload_n hx hb dX5_addLong_1 rfl (lv_at hl 1 rfl) ?_
  refine lv_bipush (v := nI 32) hx hb dX5_addLong_2 (by decide) ?_
  refine lv_lushr (v := lus v (nI 32)) hx hb dX5_addLong_4 rfl ?_
  refine lv_l2i (v := ((lus v (nI 32))).toInt32) hx hb dX5_addLong_5 rfl ?_
  refine w_finv (wr := []) (va_runV (As := [.int (((lus v (nI 32))).toInt32)]) (rest := []) ⟨hx, hb, hml, hown, hts⟩ (c_Row_addWord l G h b n z f (((lus v (nI 32))).toInt32) (by omega) (by omega) H.size) (cwV 1 hts gX5_addLong_X5_addWord rfl rfl rfl (by decide +kernel) ⟨Nat.le_of_ble_eq_true rfl, Nat.le_of_ble_eq_true rfl⟩) ⟨wPre.blind, (va_recv hK hP (ci := 4) (q0 := 0) rfl rfl), (fun U hU hW => ⟨rfl, w_pre hK hT hA hP hD hS (isC := [0, 1]) (by decide) rfl U hU hW⟩)⟩ rfl rfl hl.1 rfl (lv_room (Nat.le_of_ble_eq_true rfl)) dX5_addLong_6 ⟨Nat.le_of_ble_eq_true rfl, Nat.le_of_ble_eq_true rfl⟩) hA hP hD hS [0, 1] [] rfl rfl (by decide) (by decide) (fun u H locs hpost hP hD hS => ?_)
  have hP : va_P G.1 vwCl [(h, .inr (4, [.ref b, .int (nI (z + 4))])), (b, .inl (G.2.1, n, .inl (fa z 4 (wB (((lus v (nI 32))).toInt32)) f)))] H := hP
  have hD : va_D A [(h, .inr (4, [.ref b, .int (nI (z + 4))])), (b, .inl (G.2.1, n, .inl (fa z 4 (wB (((lus v (nI 32))).toInt32)) f)))] := hD
  refine lv_aload_n hx hb dX5_addLong_9 rfl (lv_at hl 0 rfl) ?_
  refine lv_lload_n hx hb dX5_addLong_10 rfl (lv_at hl 1 rfl) ?_
  refine lv_l2i (v := (v).toInt32) hx hb dX5_addLong_11 rfl ?_
  refine w_finv (wr := []) (va_runV (As := [.int ((v).toInt32)]) (rest := []) ⟨hx, hb, hml, hown, hts⟩ (c_Row_addWord l G h b n (z + 4) (fa z 4 (wB (((lus v (nI 32))).toInt32)) f) ((v).toInt32) (by omega) (by omega) H.size) (cwV 1 hts gX5_addLong_X5_addWord rfl rfl rfl (by decide +kernel) ⟨Nat.le_of_ble_eq_true rfl, Nat.le_of_ble_eq_true rfl⟩) ⟨wPre.blind, (va_recv hK hP (ci := 4) (q0 := 0) rfl rfl), (fun U hU hW => ⟨rfl, w_pre hK hT hA hP hD hS (isC := [0, 1]) (by decide) rfl U hU hW⟩)⟩ rfl rfl hl.1 rfl (lv_room (Nat.le_of_ble_eq_true rfl)) dX5_addLong_12 ⟨Nat.le_of_ble_eq_true rfl, Nat.le_of_ble_eq_true rfl⟩) hA hP hD hS [0, 1] [] rfl rfl (by decide) (by decide) (fun u H locs hpost hP hD hS => ?_)
  have hP : va_P G.1 vwCl [(h, .inr (4, [.ref b, .int (nI ((z + 4) + 4))])), (b, .inl (G.2.1, n, .inl (fa (z + 4) 4 (wB ((v).toInt32)) (fa z 4 (wB (((lus v (nI 32))).toInt32)) f))))] H := hP
  have hD : va_D A [(h, .inr (4, [.ref b, .int (nI ((z + 4) + 4))])), (b, .inl (G.2.1, n, .inl (fa (z + 4) 4 (wB ((v).toInt32)) (fa z 4 (wB (((lus v (nI 32))).toInt32)) f))))] := hD
  exact hret () H _ 15 ls dX5_addLong_15 (trivial) (hP.sub [0, 1] rfl) (hD.sub [0, 1] (by decide) rfl) hS

set_option maxHeartbeats 4000000 in
set_option maxRecDepth 100000 in
theorem c_Row_addZeros (l : Launch) (G : wG) (h b n z : Nat) (f : Nat → Int32) (q : Nat) (hz : z + q ≤ n) (hn : n < 2 ^ 31) : CMv l G yX5_addZeros wsX5_addZeros 1 21 0 0 [.ref h, .int (nI q)] [(h, .inr (4, [.ref b, .int (nI z)])), (b, .inl (G.2.1, n, .inl f))] (fun (_ : Unit) => True) (fun _ => [(h, .inr (4, [.ref b, .int (nI (z + q))])), (b, .inl (G.2.1, n, .inl (fa z q (fun _ => 0) f)))]) := by
  refine CMv.start cX5_addZeros 3 (by decide) rfl (Nat.le_of_ble_eq_true rfl) ?_
  intro p e s m below meth c A Q ls H locs hx hb hml hown hnm hts hK hT hA hP hD hS hl hret
  have hl : lv_has ls 3 [(0, .ref h), (1, .int (nI q))] := hl
  refine lv_iconst (v := nI 0) hx hb dX5_addZeros_0 (by decide) ?_
  refine lv_istore_n (lv' := [(2, .int (nI 0)), (0, .ref h), (1, .int (nI q))]) hx hb dX5_addZeros_1 rfl hl (by decide) rfl (fun ls hl => ?_)
  refine w_loop (ι := Nat) (fun k => q - k) (fun k => k ≤ q) (fun k => [(h, .inr (4, [.ref b, .int (nI (z + k))])), (b, .inl (G.2.1, n, .inl (fa z k (fun _ => 0) f)))]) (fun k => [(2, .int (nI k)), (0, .ref h), (1, .int (nI q))]) 0 (by omega) (by simp only [fa_0, Nat.add_zero]; exact hP) (by simp only [fa_0, Nat.add_zero]; exact hD) hS hl ?_
  intro k H locs ls hk hP hD hS hl ih
  have hk : k ≤ q := hk
  have hP : va_P G.1 vwCl [(h, .inr (4, [.ref b, .int (nI (z + k))])), (b, .inl (G.2.1, n, .inl (fa z k (fun _ => 0) f)))] H := hP
  have hD : va_D A [(h, .inr (4, [.ref b, .int (nI (z + k))])), (b, .inl (G.2.1, n, .inl (fa z k (fun _ => 0) f)))] := hD
  have hl : lv_has ls 3 [(2, .int (nI k)), (0, .ref h), (1, .int (nI q))] := hl
  refine lv_iload_n hx hb dX5_addZeros_2 rfl (lv_at hl 0 rfl) ?_
  refine lv_iload_n hx hb dX5_addZeros_3 rfl (lv_at hl 2 rfl) ?_
  refine w_icmpN_ge (tgt := 18) hx hb (by omega) (by omega) dX5_addZeros_4 (by decide) (fun h1 => ?_) (fun h1 => ?_)
  · obtain rfl : k = q := by omega
    exact hret () H _ 18 ls dX5_addZeros_18 (trivial) (hP.sub [0, 1] rfl) (hD.sub [0, 1] (by decide) rfl) hS
  · refine lv_aload_n hx hb dX5_addZeros_7 rfl (lv_at hl 1 rfl) ?_
    refine lv_iconst (v := nI 0) hx hb dX5_addZeros_8 (by decide) ?_
    refine w_finv (wr := []) (va_runV (As := [.int (nI 0)]) (rest := []) ⟨hx, hb, hml, hown, hts⟩ (c_Row_add l G h b n (z + k) (fa z k (fun _ => 0) f) (nI 0) (by omega) (by omega) H.size) (cwV 1 hts gX5_addZeros_X5_add rfl rfl rfl (by decide +kernel) ⟨Nat.le_of_ble_eq_true rfl, Nat.le_of_ble_eq_true rfl⟩) ⟨wPre.blind, (va_recv hK hP (ci := 4) (q0 := 0) rfl rfl), (fun U hU hW => ⟨rfl, w_pre hK hT hA hP hD hS (isC := [0, 1]) (by decide) rfl U hU hW⟩)⟩ rfl rfl hl.1 rfl (lv_room (Nat.le_of_ble_eq_true rfl)) dX5_addZeros_9 ⟨Nat.le_of_ble_eq_true rfl, Nat.le_of_ble_eq_true rfl⟩) hA hP hD hS [0, 1] [] rfl rfl (by decide) (by decide) (fun u H locs hpost hP hD hS => ?_)
    have hP : va_P G.1 vwCl [(h, .inr (4, [.ref b, .int (nI ((z + k) + 1))])), (b, .inl (G.2.1, n, .inl (fa z (k + 1) (fun _ => 0) f)))] H := by have h9 := hP; rw [fa_s (g := fun _ => 0) z255] at h9; exact h9
    have hD : va_D A [(h, .inr (4, [.ref b, .int (nI ((z + k) + 1))])), (b, .inl (G.2.1, n, .inl (fa z (k + 1) (fun _ => 0) f)))] := by have h9 := hD; rw [fa_s (g := fun _ => 0) z255] at h9; exact h9
    refine lv_iinc (v := nI (k + 1)) (lv' := [(2, .int (nI (k + 1))), (0, .ref h), (1, .int (nI q))]) hx hb dX5_addZeros_12 hl (k := 0) rfl (nI_add k 1) (by decide) rfl (fun ls hl => ?_)
    refine lv_goto (tgt := 2) hx hb dX5_addZeros_15 (by decide) ?_
    exact ih (k + 1) H _ _ (by omega) (by omega) hP hD hS (lv_sub hl [0, 1, 2] rfl)

set_option maxHeartbeats 4000000 in
set_option maxRecDepth 100000 in
theorem c_Row_addFirst (l : Launch) (G : wG) (h b n z : Nat) (f : Nat → Int32) (o ob on oz : Nat) (g : Nat → Int32) (q : Nat) (hz : z + q ≤ n) (hn : n < 2 ^ 31) (hoz : oz ≤ on) (hon : on < 2 ^ 31) (hq : q ≤ oz) (hg : ∀ j, j < oz → g j &&& nI 255 = g j) : CMv l G yX5_addFirst wsX5_addFirst 1 21 0 0 [.ref h, .ref o, .int (nI q)] [(h, .inr (4, [.ref b, .int (nI z)])), (b, .inl (G.2.1, n, .inl f)), (o, .inr (4, [.ref ob, .int (nI oz)])), (ob, .inl (G.2.1, on, .inl g))] (fun (_ : Unit) => True) (fun _ => [(h, .inr (4, [.ref b, .int (nI (z + q))])), (b, .inl (G.2.1, n, .inl (fa z q g f))), (o, .inr (4, [.ref ob, .int (nI oz)])), (ob, .inl (G.2.1, on, .inl g))]) := by
  refine CMv.start cX5_addFirst 4 (by decide) rfl (Nat.le_of_ble_eq_true rfl) ?_
  intro p e s m below meth c A Q ls H locs hx hb hml hown hnm hts hK hT hA hP hD hS hl hret
  have hl : lv_has ls 4 [(0, .ref h), (1, .ref o), (2, .int (nI q))] := hl
  refine lv_iconst (v := nI 0) hx hb dX5_addFirst_0 (by decide) ?_
  refine lv_istore_n (lv' := [(3, .int (nI 0)), (0, .ref h), (1, .ref o), (2, .int (nI q))]) hx hb dX5_addFirst_1 rfl hl (by decide) rfl (fun ls hl => ?_)
  refine w_loop (ι := Nat) (fun k => q - k) (fun k => k ≤ q) (fun k => [(h, .inr (4, [.ref b, .int (nI (z + k))])), (b, .inl (G.2.1, n, .inl (fa z k g f))), (o, .inr (4, [.ref ob, .int (nI oz)])), (ob, .inl (G.2.1, on, .inl g))]) (fun k => [(3, .int (nI k)), (0, .ref h), (1, .ref o), (2, .int (nI q))]) 0 (by omega) (by simp only [fa_0, Nat.add_zero]; exact hP) (by simp only [fa_0, Nat.add_zero]; exact hD) hS hl ?_
  intro k H locs ls hk hP hD hS hl ih
  have hk : k ≤ q := hk
  have hP : va_P G.1 vwCl [(h, .inr (4, [.ref b, .int (nI (z + k))])), (b, .inl (G.2.1, n, .inl (fa z k g f))), (o, .inr (4, [.ref ob, .int (nI oz)])), (ob, .inl (G.2.1, on, .inl g))] H := hP
  have hD : va_D A [(h, .inr (4, [.ref b, .int (nI (z + k))])), (b, .inl (G.2.1, n, .inl (fa z k g f))), (o, .inr (4, [.ref ob, .int (nI oz)])), (ob, .inl (G.2.1, on, .inl g))] := hD
  have hl : lv_has ls 4 [(3, .int (nI k)), (0, .ref h), (1, .ref o), (2, .int (nI q))] := hl
  refine lv_iload_n hx hb dX5_addFirst_2 rfl (lv_at hl 0 rfl) ?_
  refine lv_iload_n hx hb dX5_addFirst_3 rfl (lv_at hl 3 rfl) ?_
  refine w_icmpN_ge (tgt := 22) hx hb (by omega) (by omega) dX5_addFirst_4 (by decide) (fun h1 => ?_) (fun h1 => ?_)
  · obtain rfl : k = q := by omega
    exact hret () H _ 22 ls dX5_addFirst_22 (trivial) (hP.sub [0, 1, 2, 3] rfl) (hD.sub [0, 1, 2, 3] (by decide) rfl) hS
  · refine lv_aload_n hx hb dX5_addFirst_7 rfl (lv_at hl 1 rfl) ?_
    refine lv_aload_n hx hb dX5_addFirst_8 rfl (lv_at hl 2 rfl) ?_
    refine lv_iload_n hx hb dX5_addFirst_9 rfl (lv_at hl 0 rfl) ?_
    refine w_fini (wr := [(h, .inr (4, [.ref b, .int (nI (z + k))])), (b, .inl (G.2.1, n, .inl (fa z k g f)))]) (va_runV (As := [.int (nI k)]) (rest := [.ref h]) ⟨hx, hb, hml, hown, hts⟩ (c_Row_at l G o ob on oz g k (by omega) (by omega) (by omega) H.size) (cwV 1 hts gX5_addFirst_X5_at rfl rfl rfl (by decide +kernel) ⟨Nat.le_of_ble_eq_true rfl, Nat.le_of_ble_eq_true rfl⟩) ⟨wPre.blind, (va_recv hK hP (ci := 4) (q0 := 2) rfl rfl), (fun U hU hW => ⟨rfl, w_pre hK hT hA hP hD hS (isC := [2, 3]) (by decide) rfl U hU hW⟩)⟩ rfl rfl hl.1 rfl (lv_room (Nat.le_of_ble_eq_true rfl)) dX5_addFirst_10 ⟨Nat.le_of_ble_eq_true rfl, Nat.le_of_ble_eq_true rfl⟩) hA hP hD hS [2, 3] [0, 1] rfl rfl (by decide) (by decide) (fun r u H locs hpost hP hD hS => ?_)
    obtain rfl := hpost
    have hP : va_P G.1 vwCl [(h, .inr (4, [.ref b, .int (nI (z + k))])), (b, .inl (G.2.1, n, .inl (fa z k g f))), (o, .inr (4, [.ref ob, .int (nI oz)])), (ob, .inl (G.2.1, on, .inl g))] H := hP
    have hD : va_D A [(h, .inr (4, [.ref b, .int (nI (z + k))])), (b, .inl (G.2.1, n, .inl (fa z k g f))), (o, .inr (4, [.ref ob, .int (nI oz)])), (ob, .inl (G.2.1, on, .inl g))] := hD
    refine w_finv (wr := [(o, .inr (4, [.ref ob, .int (nI oz)])), (ob, .inl (G.2.1, on, .inl g))]) (va_runV (As := [.int (rAt g oz k)]) (rest := []) ⟨hx, hb, hml, hown, hts⟩ (c_Row_add l G h b n (z + k) (fa z k g f) (rAt g oz k) (by omega) (by omega) H.size) (cwV 1 hts gX5_addFirst_X5_add rfl rfl rfl (by decide +kernel) ⟨Nat.le_of_ble_eq_true rfl, Nat.le_of_ble_eq_true rfl⟩) ⟨wPre.blind, (va_recv hK hP (ci := 4) (q0 := 0) rfl rfl), (fun U hU hW => ⟨rfl, w_pre hK hT hA hP hD hS (isC := [0, 1]) (by decide) rfl U hU hW⟩)⟩ rfl rfl hl.1 rfl (lv_room (Nat.le_of_ble_eq_true rfl)) dX5_addFirst_13 ⟨Nat.le_of_ble_eq_true rfl, Nat.le_of_ble_eq_true rfl⟩) hA hP hD hS [0, 1] [2, 3] rfl rfl (by decide) (by decide) (fun u H locs hpost hP hD hS => ?_)
    have hP : va_P G.1 vwCl [(o, .inr (4, [.ref ob, .int (nI oz)])), (ob, .inl (G.2.1, on, .inl g)), (h, .inr (4, [.ref b, .int (nI ((z + k) + 1))])), (b, .inl (G.2.1, n, .inl (fa z (k + 1) g f)))] H := by have h9 := hP; rw [fa_s (show rAt g oz k &&& nI 255 = g k by rw [rAt_in (by omega)]; exact hg k (by omega))] at h9; exact h9
    have hD : va_D A [(o, .inr (4, [.ref ob, .int (nI oz)])), (ob, .inl (G.2.1, on, .inl g)), (h, .inr (4, [.ref b, .int (nI ((z + k) + 1))])), (b, .inl (G.2.1, n, .inl (fa z (k + 1) g f)))] := by have h9 := hD; rw [fa_s (show rAt g oz k &&& nI 255 = g k by rw [rAt_in (by omega)]; exact hg k (by omega))] at h9; exact h9
    refine lv_iinc (v := nI (k + 1)) (lv' := [(3, .int (nI (k + 1))), (0, .ref h), (1, .ref o), (2, .int (nI q))]) hx hb dX5_addFirst_16 hl (k := 0) rfl (nI_add k 1) (by decide) rfl (fun ls hl => ?_)
    refine lv_goto (tgt := 2) hx hb dX5_addFirst_19 (by decide) ?_
    exact ih (k + 1) H _ _ (by omega) (by omega) (hP.sub [2, 3, 0, 1] rfl) (hD.sub [2, 3, 0, 1] (by decide) rfl) hS (lv_sub hl [0, 1, 2, 3] rfl)

set_option maxHeartbeats 4000000 in
set_option maxRecDepth 100000 in
theorem c_Row_addPadding (l : Launch) (G : wG) (h b n z : Nat) (f : Nat → Int32) (B : Nat) (hz : (z + 1) + pdN B (z + 1) ≤ n) (hn : n < 2 ^ 31) (hB : B = 8 ∨ B = 16 ∨ B = 64) : CMv l G yX5_addPadding wsX5_addPadding 2 43 0 0 [.ref h, .int (nI B)] [(h, .inr (4, [.ref b, .int (nI z)])), (b, .inl (G.2.1, n, .inl f))] (fun (_ : Unit) => True) (fun _ => [(h, .inr (4, [.ref b, .int (nI ((z + 1) + pdN B (z + 1)))])), (b, .inl (G.2.1, n, .inl (fa (z + 1) (pdN B (z + 1)) (fun _ => 0) (upd f z (nI 128)))))]) := by
  refine CMv.start cX5_addPadding 2 (by decide) rfl (Nat.le_of_ble_eq_true rfl) ?_
  intro p e s m below meth c A Q ls H locs hx hb hml hown hnm hts hK hT hA hP hD hS hl hret
  have hinX5 : ∀ w ∈ u_ws RX5 TX5 2, w ∈ wsX5_addPadding := by decide +kernel
  have hl : lv_has ls 2 [(0, .ref h), (1, .int (nI B))] := hl
  refine lv_aload_n hx hb dX5_addPadding_0 rfl (lv_at hl 0 rfl) ?_
  refine lv_sipush (v := nI 128) hx hb dX5_addPadding_1 (by decide) ?_
  refine w_finv (wr := []) (va_runV (As := [.int (nI 128)]) (rest := []) ⟨hx, hb, hml, hown, hts⟩ (c_Row_add l G h b n z f (nI 128) (by omega) (by omega) H.size) (cwV 1 hts gX5_addPadding_X5_add rfl rfl rfl (by decide +kernel) ⟨Nat.le_of_ble_eq_true rfl, Nat.le_of_ble_eq_true rfl⟩) ⟨wPre.blind, (va_recv hK hP (ci := 4) (q0 := 0) rfl rfl), (fun U hU hW => ⟨rfl, w_pre hK hT hA hP hD hS (isC := [0, 1]) (by decide) rfl U hU hW⟩)⟩ rfl rfl hl.1 rfl (lv_room (Nat.le_of_ble_eq_true rfl)) dX5_addPadding_4 ⟨Nat.le_of_ble_eq_true rfl, Nat.le_of_ble_eq_true rfl⟩) hA hP hD hS [0, 1] [] rfl rfl (by decide) (by decide) (fun u H locs hpost hP hD hS => ?_)
  have hP : va_P G.1 vwCl [(h, .inr (4, [.ref b, .int (nI (z + 1))])), (b, .inl (G.2.1, n, .inl (upd f z (nI 128))))] H := by have h9 := hP; rw [show (nI 128 &&& nI 255 : Int32) = nI 128 by decide] at h9; exact h9
  have hD : va_D A [(h, .inr (4, [.ref b, .int (nI (z + 1))])), (b, .inl (G.2.1, n, .inl (upd f z (nI 128))))] := by have h9 := hD; rw [show (nI 128 &&& nI 255 : Int32) = nI 128 by decide] at h9; exact h9
  refine lv_aload_n hx hb dX5_addPadding_7 rfl (lv_at hl 0 rfl) ?_
  refine lv_aload_n hx hb dX5_addPadding_8 rfl (lv_at hl 0 rfl) ?_
  refine va_get (D := G.1) (ci := 4) (v := .int (nI (z + 1))) (C := RX5) (T := TX5) (N := 2) hx hb hts hinX5 hown hK hP 0 rfl rfl 1 (by decide) (hts (.fieldLink RX5 21 "CipherBox$Row" "size" "I") (by decide +kernel)) (fun _ h9 => h9) rfl dX5_addPadding_9 ?_
  refine lv_ineg hx hb dX5_addPadding_12 ?_
  refine lv_iload_n hx hb dX5_addPadding_13 rfl (lv_at hl 1 rfl) ?_
  refine lv_iconst (v := nI 1) hx hb dX5_addPadding_14 (by decide) ?_
  refine w_isubN hx hb (by omega) dX5_addPadding_15 ?_
  refine lv_iand hx hb dX5_addPadding_16 ?_
  refine w_top (nI (pdN B (z + 1))) (pdN_neg hB (by omega)) ?_
  refine w_finv (wr := []) (va_runV (As := [.int (nI (pdN B (z + 1)))]) (rest := []) ⟨hx, hb, hml, hown, hts⟩ (c_Row_addZeros l G h b n (z + 1) (upd f z (nI 128)) (pdN B (z + 1)) (by omega) (by omega) H.size) (cwV 1 hts gX5_addPadding_X5_addZeros rfl rfl rfl (by decide +kernel) ⟨Nat.le_of_ble_eq_true rfl, Nat.le_of_ble_eq_true rfl⟩) ⟨wPre.blind, (va_recv hK hP (ci := 4) (q0 := 0) rfl rfl), (fun U hU hW => ⟨rfl, w_pre hK hT hA hP hD hS (isC := [0, 1]) (by decide) rfl U hU hW⟩)⟩ rfl rfl hl.1 rfl (lv_room (Nat.le_of_ble_eq_true rfl)) dX5_addPadding_17 ⟨Nat.le_of_ble_eq_true rfl, Nat.le_of_ble_eq_true rfl⟩) hA hP hD hS [0, 1] [] rfl rfl (by decide) (by decide) (fun u H locs hpost hP hD hS => ?_)
  have hP : va_P G.1 vwCl [(h, .inr (4, [.ref b, .int (nI ((z + 1) + (pdN B (z + 1))))])), (b, .inl (G.2.1, n, .inl (fa (z + 1) (pdN B (z + 1)) (fun _ => 0) (upd f z (nI 128)))))] H := hP
  have hD : va_D A [(h, .inr (4, [.ref b, .int (nI ((z + 1) + (pdN B (z + 1))))])), (b, .inl (G.2.1, n, .inl (fa (z + 1) (pdN B (z + 1)) (fun _ => 0) (upd f z (nI 128)))))] := hD
  exact hret () H _ 20 ls dX5_addPadding_20 (trivial) (hP.sub [0, 1] rfl) (hD.sub [0, 1] (by decide) rfl) hS

set_option maxHeartbeats 4000000 in
set_option maxRecDepth 100000 in
theorem c_Row_cut (l : Launch) (G : wG) (h b n z : Nat) (f : Nat → Int32) (k : Nat) (hz : z ≤ n) (hn : n < 2 ^ 31) (hk : k < 2 ^ 31) : CMv l G yX5_cut wsX5_cut 0 0 0 0 [.ref h, .int (nI k)] [(h, .inr (4, [.ref b, .int (nI z)])), (b, .inl (G.2.1, n, .inl f))] (fun (_ : Unit) => True) (fun _ => [(h, .inr (4, [.ref b, .int (nI (min k z))])), (b, .inl (G.2.1, n, .inl f))]) := by
  refine CMv.start cX5_cut 2 (by decide) rfl (Nat.le_of_ble_eq_true rfl) ?_
  intro p e s m below meth c A Q ls H locs hx hb hml hown hnm hts hK hT hA hP hD hS hl hret
  have hinX5 : ∀ w ∈ u_ws RX5 TX5 2, w ∈ wsX5_cut := by decide +kernel
  have hl : lv_has ls 2 [(0, .ref h), (1, .int (nI k))] := hl
  refine lv_iload_n hx hb dX5_cut_0 rfl (lv_at hl 1 rfl) ?_
  refine lv_if_lt (tgt := 17) hx hb dX5_cut_1 (by decide) (fun h1 => ?_) (fun h1 => ?_)
  · exact absurd h1 (nI_pos hk)
  · refine lv_iload_n hx hb dX5_cut_4 rfl (lv_at hl 1 rfl) ?_
    refine lv_aload_n hx hb dX5_cut_5 rfl (lv_at hl 0 rfl) ?_
    refine va_get (D := G.1) (ci := 4) (v := .int (nI z)) (C := RX5) (T := TX5) (N := 2) hx hb hts hinX5 hown hK hP 0 rfl rfl 1 (by decide) (hts (.fieldLink RX5 21 "CipherBox$Row" "size" "I") (by decide +kernel)) (fun _ h9 => h9) rfl dX5_cut_6 ?_
    refine w_icmpN_ge (tgt := 17) hx hb (by omega) (by omega) dX5_cut_9 (by decide) (fun h2 => ?_) (fun h2 => ?_)
    · exact hret () H _ 17 ls dX5_cut_17 (trivial) (by rw [show min k z = z by omega]; exact (hP.sub [0, 1] rfl)) (by rw [show min k z = z by omega]; exact (hD.sub [0, 1] (by decide) rfl)) hS
    · refine lv_aload_n hx hb dX5_cut_12 rfl (lv_at hl 0 rfl) ?_
      refine lv_iload_n hx hb dX5_cut_13 rfl (lv_at hl 1 rfl) ?_
      refine va_put (D := G.1) (ci := 4) (v := .int (nI k)) (ty := .int) (C := RX5) (T := TX5) (N := 2) hx hb hts hinX5 tyX5 tyX5_ok nmX5 hown hK hP hD hS 0 rfl rfl 1 (by decide) (hts (.fieldLink RX5 21 "CipherBox$Row" "size" "I") (by decide +kernel)) (fun _ h9 => h9) rfl (by decide +kernel) rfl rfl (Nat.le_of_ble_eq_true rfl) dX5_cut_14 (fun H locs hP hD hS => ?_)
      have hP : va_P G.1 vwCl [(h, .inr (4, [.ref b, .int (nI k)])), (b, .inl (G.2.1, n, .inl f))] H := hP
      have hD : va_D A [(h, .inr (4, [.ref b, .int (nI k)])), (b, .inl (G.2.1, n, .inl f))] := hD
      exact hret () H _ 17 ls dX5_cut_17 (trivial) (by rw [show min k z = k by omega]; exact (hP.sub [0, 1] rfl)) (by rw [show min k z = k by omega]; exact (hD.sub [0, 1] (by decide) rfl)) hS

set_option maxHeartbeats 4000000 in
set_option maxRecDepth 100000 in
theorem c_Row_become (l : Launch) (G : wG) (h b n z : Nat) (f : Nat → Int32) (o ob on oz : Nat) (g : Nat → Int32) (hz : z ≤ n) (hn : n < 2 ^ 31) (hoz : oz ≤ on) (hon : on < 2 ^ 31) (hq : oz ≤ n) (hg : ∀ j, j < oz → g j &&& nI 255 = g j) : CMv l G yX5_become wsX5_become 2 44 0 0 [.ref h, .ref o] [(h, .inr (4, [.ref b, .int (nI z)])), (b, .inl (G.2.1, n, .inl f)), (o, .inr (4, [.ref ob, .int (nI oz)])), (ob, .inl (G.2.1, on, .inl g))] (fun (_ : Unit) => True) (fun _ => [(h, .inr (4, [.ref b, .int (nI oz)])), (b, .inl (G.2.1, n, .inl (fa 0 oz g f))), (o, .inr (4, [.ref ob, .int (nI oz)])), (ob, .inl (G.2.1, on, .inl g))]) := by
  refine CMv.start cX5_become 2 (by decide) rfl (Nat.le_of_ble_eq_true rfl) ?_
  intro p e s m below meth c A Q ls H locs hx hb hml hown hnm hts hK hT hA hP hD hS hl hret
  have hl : lv_has ls 2 [(0, .ref h), (1, .ref o)] := hl
  refine lv_aload_n hx hb dX5_become_0 rfl (lv_at hl 0 rfl) ?_
  refine lv_iconst (v := nI 0) hx hb dX5_become_1 (by decide) ?_
  refine w_finv (wr := [(o, .inr (4, [.ref ob, .int (nI oz)])), (ob, .inl (G.2.1, on, .inl g))]) (va_runV (As := [.int (nI 0)]) (rest := []) ⟨hx, hb, hml, hown, hts⟩ (c_Row_cut l G h b n z f 0 (by omega) (by omega) (by omega) H.size) (cwV 1 hts gX5_become_X5_cut rfl rfl rfl (by decide +kernel) ⟨Nat.le_of_ble_eq_true rfl, Nat.le_of_ble_eq_true rfl⟩) ⟨wPre.blind, (va_recv hK hP (ci := 4) (q0 := 0) rfl rfl), (fun U hU hW => ⟨rfl, w_pre hK hT hA hP hD hS (isC := [0, 1]) (by decide) rfl U hU hW⟩)⟩ rfl rfl hl.1 rfl (lv_room (Nat.le_of_ble_eq_true rfl)) dX5_become_2 ⟨Nat.le_of_ble_eq_true rfl, Nat.le_of_ble_eq_true rfl⟩) hA hP hD hS [0, 1] [2, 3] rfl rfl (by decide) (by decide) (fun u H locs hpost hP hD hS => ?_)
  have hP : va_P G.1 vwCl [(o, .inr (4, [.ref ob, .int (nI oz)])), (ob, .inl (G.2.1, on, .inl g)), (h, .inr (4, [.ref b, .int (nI 0)])), (b, .inl (G.2.1, n, .inl f))] H := by have h9 := hP; rw [Nat.zero_min] at h9; exact h9
  have hD : va_D A [(o, .inr (4, [.ref ob, .int (nI oz)])), (ob, .inl (G.2.1, on, .inl g)), (h, .inr (4, [.ref b, .int (nI 0)])), (b, .inl (G.2.1, n, .inl f))] := by have h9 := hD; rw [Nat.zero_min] at h9; exact h9
  refine lv_aload_n hx hb dX5_become_5 rfl (lv_at hl 0 rfl) ?_
  refine lv_aload_n hx hb dX5_become_6 rfl (lv_at hl 1 rfl) ?_
  refine lv_aload_n hx hb dX5_become_7 rfl (lv_at hl 1 rfl) ?_
  refine w_fini (wr := [(h, .inr (4, [.ref b, .int (nI 0)])), (b, .inl (G.2.1, n, .inl f))]) (va_runV (As := []) (rest := [.ref o, .ref h]) ⟨hx, hb, hml, hown, hts⟩ (c_Row_size l G o ob on oz g H.size) (cwV 0 hts gX5_become_X5_size rfl rfl rfl (by decide +kernel) ⟨Nat.le_of_ble_eq_true rfl, Nat.le_of_ble_eq_true rfl⟩) ⟨wPre.blind, (va_recv hK hP (ci := 4) (q0 := 0) rfl rfl), (fun U hU hW => ⟨rfl, w_pre hK hT hA hP hD hS (isC := [0, 1]) (by decide) rfl U hU hW⟩)⟩ rfl rfl hl.1 rfl (lv_room (Nat.le_of_ble_eq_true rfl)) dX5_become_8 ⟨Nat.le_of_ble_eq_true rfl, Nat.le_of_ble_eq_true rfl⟩) hA hP hD hS [0, 1] [2, 3] rfl rfl (by decide) (by decide) (fun r u H locs hpost hP hD hS => ?_)
  obtain rfl := hpost
  have hP : va_P G.1 vwCl [(h, .inr (4, [.ref b, .int (nI 0)])), (b, .inl (G.2.1, n, .inl f)), (o, .inr (4, [.ref ob, .int (nI oz)])), (ob, .inl (G.2.1, on, .inl g))] H := hP
  have hD : va_D A [(h, .inr (4, [.ref b, .int (nI 0)])), (b, .inl (G.2.1, n, .inl f)), (o, .inr (4, [.ref ob, .int (nI oz)])), (ob, .inl (G.2.1, on, .inl g))] := hD
  refine w_finv (wr := []) (va_runV (As := [.ref o, .int (nI oz)]) (rest := []) ⟨hx, hb, hml, hown, hts⟩ (c_Row_addFirst l G h b n 0 f o ob on oz g oz (by omega) (by omega) (by omega) (by omega) (by omega) hg H.size) (cwV 2 hts gX5_become_X5_addFirst rfl rfl rfl (by decide +kernel) ⟨Nat.le_of_ble_eq_true rfl, Nat.le_of_ble_eq_true rfl⟩) ⟨wPre.blind, (va_recv hK hP (ci := 4) (q0 := 0) rfl rfl), (fun U hU hW => ⟨rfl, w_pre hK hT hA hP hD hS (isC := [0, 1, 2, 3]) (by decide) rfl U hU hW⟩)⟩ rfl rfl hl.1 rfl (lv_room (Nat.le_of_ble_eq_true rfl)) dX5_become_11 ⟨Nat.le_of_ble_eq_true rfl, Nat.le_of_ble_eq_true rfl⟩) hA hP hD hS [0, 1, 2, 3] [] rfl rfl (by decide) (by decide) (fun u H locs hpost hP hD hS => ?_)
  have hP : va_P G.1 vwCl [(h, .inr (4, [.ref b, .int (nI (0 + oz))])), (b, .inl (G.2.1, n, .inl (fa 0 oz g f))), (o, .inr (4, [.ref ob, .int (nI oz)])), (ob, .inl (G.2.1, on, .inl g))] H := hP
  have hD : va_D A [(h, .inr (4, [.ref b, .int (nI (0 + oz))])), (b, .inl (G.2.1, n, .inl (fa 0 oz g f))), (o, .inr (4, [.ref ob, .int (nI oz)])), (ob, .inl (G.2.1, on, .inl g))] := hD
  exact hret () H _ 14 ls dX5_become_14 (trivial) (by have h9 : va_P G.1 vwCl [(h, .inr (4, [.ref b, .int (nI (0 + oz))])), (b, .inl (G.2.1, n, .inl (fa 0 oz g f))), (o, .inr (4, [.ref ob, .int (nI oz)])), (ob, .inl (G.2.1, on, .inl g))] H := (hP.sub [0, 1, 2, 3] rfl); rw [Nat.zero_add] at h9; exact h9) (by have h9 : va_D A [(h, .inr (4, [.ref b, .int (nI (0 + oz))])), (b, .inl (G.2.1, n, .inl (fa 0 oz g f))), (o, .inr (4, [.ref ob, .int (nI oz)])), (ob, .inl (G.2.1, on, .inl g))] := (hD.sub [0, 1, 2, 3] (by decide) rfl); rw [Nat.zero_add] at h9; exact h9) hS

set_option maxHeartbeats 4000000 in
set_option maxRecDepth 100000 in
theorem c_Row_holdsWhat (l : Launch) (G : wG) (h b n z : Nat) (f : Nat → Int32) (o ob on oz : Nat) (g : Nat → Int32) (hz : z ≤ n) (hn : n < 2 ^ 31) (hoz : oz ≤ on) (hon : on < 2 ^ 31) : CMi l G yX5_holdsWhat wsX5_holdsWhat 1 21 [.ref h, .ref o] [(h, .inr (4, [.ref b, .int (nI z)])), (b, .inl (G.2.1, n, .inl f)), (o, .inr (4, [.ref ob, .int (nI oz)])), (ob, .inl (G.2.1, on, .inl g))] (fun r (_ : Unit) => r = (if z = oz ∧ (∀ j, j < z → f j = g j) then nI 1 else nI 0)) (fun _ => [(h, .inr (4, [.ref b, .int (nI z)])), (b, .inl (G.2.1, n, .inl f)), (o, .inr (4, [.ref ob, .int (nI oz)])), (ob, .inl (G.2.1, on, .inl g))]) := by
  refine CMi.start cX5_holdsWhat 3 .boolean (by decide) rfl (Nat.le_of_ble_eq_true rfl) (fun r u h => by rw [h]; split <;> rfl) ?_
  intro p e s m below meth c A Q ls H locs hx hb hml hown hts hK hT hA hP hD hS hl hret
  have hinX5 : ∀ w ∈ u_ws RX5 TX5 2, w ∈ wsX5_holdsWhat := by decide +kernel
  have hl : lv_has ls 3 [(0, .ref h), (1, .ref o)] := hl
  refine lv_aload_n hx hb dX5_holdsWhat_0 rfl (lv_at hl 0 rfl) ?_
  refine va_get (D := G.1) (ci := 4) (v := .int (nI z)) (C := RX5) (T := TX5) (N := 2) hx hb hts hinX5 hown hK hP 0 rfl rfl 1 (by decide) (hts (.fieldLink RX5 21 "CipherBox$Row" "size" "I") (by decide +kernel)) (fun _ h9 => h9) rfl dX5_holdsWhat_1 ?_
  refine lv_aload_n hx hb dX5_holdsWhat_4 rfl (lv_at hl 1 rfl) ?_
  refine w_fini (wr := [(h, .inr (4, [.ref b, .int (nI z)])), (b, .inl (G.2.1, n, .inl f))]) (va_runV (As := []) (rest := [.int (nI z)]) ⟨hx, hb, hml, hown, hts⟩ (c_Row_size l G o ob on oz g H.size) (cwV 0 hts gX5_holdsWhat_X5_size rfl rfl rfl (by decide +kernel) ⟨Nat.le_of_ble_eq_true rfl, Nat.le_of_ble_eq_true rfl⟩) ⟨wPre.blind, (va_recv hK hP (ci := 4) (q0 := 2) rfl rfl), (fun U hU hW => ⟨rfl, w_pre hK hT hA hP hD hS (isC := [2, 3]) (by decide) rfl U hU hW⟩)⟩ rfl rfl hl.1 rfl (lv_room (Nat.le_of_ble_eq_true rfl)) dX5_holdsWhat_5 ⟨Nat.le_of_ble_eq_true rfl, Nat.le_of_ble_eq_true rfl⟩) hA hP hD hS [2, 3] [0, 1] rfl rfl (by decide) (by decide) (fun r u H locs hpost hP hD hS => ?_)
  obtain rfl := hpost
  have hP : va_P G.1 vwCl [(h, .inr (4, [.ref b, .int (nI z)])), (b, .inl (G.2.1, n, .inl f)), (o, .inr (4, [.ref ob, .int (nI oz)])), (ob, .inl (G.2.1, on, .inl g))] H := hP
  have hD : va_D A [(h, .inr (4, [.ref b, .int (nI z)])), (b, .inl (G.2.1, n, .inl f)), (o, .inr (4, [.ref ob, .int (nI oz)])), (ob, .inl (G.2.1, on, .inl g))] := hD
  refine w_icmpN_eq (tgt := 13) hx hb (by omega) (by omega) dX5_holdsWhat_8 (by decide) (fun h1 => ?_) (fun h1 => ?_)
  · refine lv_iconst (v := nI 0) hx hb dX5_holdsWhat_13 (by decide) ?_
    refine lv_istore_n (lv' := [(2, .int (nI 0)), (0, .ref h), (1, .ref o)]) hx hb dX5_holdsWhat_14 rfl hl (by decide) rfl (fun ls hl => ?_)
    refine w_loop (ι := Nat) (fun k => z - k) (fun k => k ≤ z ∧ ∀ j, j < k → f j = g j) (fun k => [(h, .inr (4, [.ref b, .int (nI z)])), (b, .inl (G.2.1, n, .inl f)), (o, .inr (4, [.ref ob, .int (nI oz)])), (ob, .inl (G.2.1, on, .inl g))]) (fun k => [(2, .int (nI k)), (0, .ref h), (1, .ref o)]) 0 (⟨Nat.zero_le _, fun j h => absurd h (Nat.not_lt_zero _)⟩) hP hD hS hl ?_
    intro k H locs ls hk hP hD hS hl ih
    have hk : k ≤ z ∧ ∀ j, j < k → f j = g j := hk
    have hk1 := hk.1
    have hP : va_P G.1 vwCl [(h, .inr (4, [.ref b, .int (nI z)])), (b, .inl (G.2.1, n, .inl f)), (o, .inr (4, [.ref ob, .int (nI oz)])), (ob, .inl (G.2.1, on, .inl g))] H := hP
    have hD : va_D A [(h, .inr (4, [.ref b, .int (nI z)])), (b, .inl (G.2.1, n, .inl f)), (o, .inr (4, [.ref ob, .int (nI oz)])), (ob, .inl (G.2.1, on, .inl g))] := hD
    have hl : lv_has ls 3 [(2, .int (nI k)), (0, .ref h), (1, .ref o)] := hl
    refine lv_iload_n hx hb dX5_holdsWhat_15 rfl (lv_at hl 0 rfl) ?_
    refine lv_aload_n hx hb dX5_holdsWhat_16 rfl (lv_at hl 1 rfl) ?_
    refine va_get (D := G.1) (ci := 4) (v := .int (nI z)) (C := RX5) (T := TX5) (N := 2) hx hb hts hinX5 hown hK hP 0 rfl rfl 1 (by decide) (hts (.fieldLink RX5 21 "CipherBox$Row" "size" "I") (by decide +kernel)) (fun _ h9 => h9) rfl dX5_holdsWhat_17 ?_
    refine w_icmpN_ge (tgt := 44) hx hb (by omega) (by omega) dX5_holdsWhat_20 (by decide) (fun h2 => ?_) (fun h2 => ?_)
    · refine lv_iconst (v := nI 1) hx hb dX5_holdsWhat_44 (by decide) ?_
      exact hret (nI 1) () H _ 45 ls dX5_holdsWhat_45 (by rw [if_pos ⟨h1, fun j hj => hk.2 j (by omega)⟩]) (hP.sub [0, 1, 2, 3] rfl) (hD.sub [0, 1, 2, 3] (by decide) rfl) hS
    · refine lv_aload_n hx hb dX5_holdsWhat_23 rfl (lv_at hl 1 rfl) ?_
      refine lv_iload_n hx hb dX5_holdsWhat_24 rfl (lv_at hl 0 rfl) ?_
      refine w_fini (wr := [(o, .inr (4, [.ref ob, .int (nI oz)])), (ob, .inl (G.2.1, on, .inl g))]) (va_runV (As := [.int (nI k)]) (rest := []) ⟨hx, hb, hml, hown, hts⟩ (c_Row_at l G h b n z f k (by omega) (by omega) (by omega) H.size) (cwV 1 hts gX5_holdsWhat_X5_at rfl rfl rfl (by decide +kernel) ⟨Nat.le_of_ble_eq_true rfl, Nat.le_of_ble_eq_true rfl⟩) ⟨wPre.blind, (va_recv hK hP (ci := 4) (q0 := 0) rfl rfl), (fun U hU hW => ⟨rfl, w_pre hK hT hA hP hD hS (isC := [0, 1]) (by decide) rfl U hU hW⟩)⟩ rfl rfl hl.1 rfl (lv_room (Nat.le_of_ble_eq_true rfl)) dX5_holdsWhat_25 ⟨Nat.le_of_ble_eq_true rfl, Nat.le_of_ble_eq_true rfl⟩) hA hP hD hS [0, 1] [2, 3] rfl rfl (by decide) (by decide) (fun r u H locs hpost hP hD hS => ?_)
      obtain rfl := hpost
      have hP : va_P G.1 vwCl [(o, .inr (4, [.ref ob, .int (nI oz)])), (ob, .inl (G.2.1, on, .inl g)), (h, .inr (4, [.ref b, .int (nI z)])), (b, .inl (G.2.1, n, .inl f))] H := hP
      have hD : va_D A [(o, .inr (4, [.ref ob, .int (nI oz)])), (ob, .inl (G.2.1, on, .inl g)), (h, .inr (4, [.ref b, .int (nI z)])), (b, .inl (G.2.1, n, .inl f))] := hD
      refine lv_aload_n hx hb dX5_holdsWhat_28 rfl (lv_at hl 2 rfl) ?_
      refine lv_iload_n hx hb dX5_holdsWhat_29 rfl (lv_at hl 0 rfl) ?_
      refine w_fini (wr := [(h, .inr (4, [.ref b, .int (nI z)])), (b, .inl (G.2.1, n, .inl f))]) (va_runV (As := [.int (nI k)]) (rest := [.int (rAt f z k)]) ⟨hx, hb, hml, hown, hts⟩ (c_Row_at l G o ob on oz g k (by omega) (by omega) (by omega) H.size) (cwV 1 hts gX5_holdsWhat_X5_at rfl rfl rfl (by decide +kernel) ⟨Nat.le_of_ble_eq_true rfl, Nat.le_of_ble_eq_true rfl⟩) ⟨wPre.blind, (va_recv hK hP (ci := 4) (q0 := 0) rfl rfl), (fun U hU hW => ⟨rfl, w_pre hK hT hA hP hD hS (isC := [0, 1]) (by decide) rfl U hU hW⟩)⟩ rfl rfl hl.1 rfl (lv_room (Nat.le_of_ble_eq_true rfl)) dX5_holdsWhat_30 ⟨Nat.le_of_ble_eq_true rfl, Nat.le_of_ble_eq_true rfl⟩) hA hP hD hS [0, 1] [2, 3] rfl rfl (by decide) (by decide) (fun r u H locs hpost hP hD hS => ?_)
      obtain rfl := hpost
      have hP : va_P G.1 vwCl [(h, .inr (4, [.ref b, .int (nI z)])), (b, .inl (G.2.1, n, .inl f)), (o, .inr (4, [.ref ob, .int (nI oz)])), (ob, .inl (G.2.1, on, .inl g))] H := hP
      have hD : va_D A [(h, .inr (4, [.ref b, .int (nI z)])), (b, .inl (G.2.1, n, .inl f)), (o, .inr (4, [.ref ob, .int (nI oz)])), (ob, .inl (G.2.1, on, .inl g))] := hD
      refine lv_icmp_eq (tgt := 38) hx hb dX5_holdsWhat_33 (by decide) (fun h3 => ?_) (fun h3 => ?_)
      · refine lv_iinc (v := nI (k + 1)) (lv' := [(2, .int (nI (k + 1))), (0, .ref h), (1, .ref o)]) hx hb dX5_holdsWhat_38 hl (k := 0) rfl (nI_add k 1) (by decide) rfl (fun ls hl => ?_)
        refine lv_goto (tgt := 15) hx hb dX5_holdsWhat_41 (by decide) ?_
        exact ih (k + 1) H _ _ (by omega) (⟨by omega, fun j hj => by
            rcases Nat.lt_or_ge j k with q | q
            · exact hk.2 j q
            · obtain rfl : j = k := by omega
              rw [rAt_in (by omega), rAt_in (by omega)] at h3
              exact h3⟩) hP hD hS (lv_sub hl [0, 1, 2] rfl)
      · refine lv_iconst (v := nI 0) hx hb dX5_holdsWhat_36 (by decide) ?_
        exact hret (nI 0) () H _ 37 ls dX5_holdsWhat_37 (by rw [if_neg (fun q => h3 (by rw [rAt_in (by omega), rAt_in (by omega)]; exact q.2 k (by omega)))]) (hP.sub [0, 1, 2, 3] rfl) (hD.sub [0, 1, 2, 3] (by decide) rfl) hS
  · refine lv_iconst (v := nI 0) hx hb dX5_holdsWhat_11 (by decide) ?_
    exact hret (nI 0) () H _ 12 ls dX5_holdsWhat_12 (by rw [if_neg (fun q => h1 q.1)]) (hP.sub [0, 1, 2, 3] rfl) (hD.sub [0, 1, 2, 3] (by decide) rfl) hS

set_option maxHeartbeats 4000000 in
set_option maxRecDepth 100000 in
theorem c_Row_lastNotZero (l : Launch) (G : wG) (h b n z : Nat) (f : Nat → Int32) (hz : z ≤ n) (hn : n < 2 ^ 30) : CMi l G yX5_lastNotZero wsX5_lastNotZero 1 21 [.ref h] [(h, .inr (4, [.ref b, .int (nI z)])), (b, .inl (G.2.1, n, .inl f))] (fun r (_ : Unit) => r = nI (lnz f z) - nI 1) (fun _ => [(h, .inr (4, [.ref b, .int (nI z)])), (b, .inl (G.2.1, n, .inl f))]) := by
  refine CMi.start cX5_lastNotZero 2 .int (by decide) rfl (Nat.le_of_ble_eq_true rfl) (fun r u h => vp_nar_int r) ?_
  intro p e s m below meth c A Q ls H locs hx hb hml hown hts hK hT hA hP hD hS hl hret
  have hinX5 : ∀ w ∈ u_ws RX5 TX5 2, w ∈ wsX5_lastNotZero := by decide +kernel
  have hl : lv_has ls 2 [(0, .ref h)] := hl
  refine lv_aload_n hx hb dX5_lastNotZero_0 rfl (lv_at hl 0 rfl) ?_
  refine va_get (D := G.1) (ci := 4) (v := .int (nI z)) (C := RX5) (T := TX5) (N := 2) hx hb hts hinX5 hown hK hP 0 rfl rfl 1 (by decide) (hts (.fieldLink RX5 21 "CipherBox$Row" "size" "I") (by decide +kernel)) (fun _ h9 => h9) rfl dX5_lastNotZero_1 ?_
  refine lv_iconst (v := nI 1) hx hb dX5_lastNotZero_4 (by decide) ?_
  refine lv_isub hx hb dX5_lastNotZero_5 ?_
  refine lv_istore_n (lv' := [(1, .int ((nI z) - (nI 1))), (0, .ref h)]) hx hb dX5_lastNotZero_6 rfl hl (by decide) rfl (fun ls hl => ?_)
  refine w_loop (ι := Nat) (fun k => k) (fun k => k ≤ z ∧ lnz f z = lnz f k) (fun k => [(h, .inr (4, [.ref b, .int (nI z)])), (b, .inl (G.2.1, n, .inl f))]) (fun k => [(1, .int (nI k - nI 1)), (0, .ref h)]) z (⟨Nat.le_refl _, rfl⟩) hP hD hS hl ?_
  intro k H locs ls hk hP hD hS hl ih
  have hk : k ≤ z ∧ lnz f z = lnz f k := hk
  have hk1 := hk.1
  have hP : va_P G.1 vwCl [(h, .inr (4, [.ref b, .int (nI z)])), (b, .inl (G.2.1, n, .inl f))] H := hP
  have hD : va_D A [(h, .inr (4, [.ref b, .int (nI z)])), (b, .inl (G.2.1, n, .inl f))] := hD
  have hl : lv_has ls 2 [(1, .int (nI k - nI 1)), (0, .ref h)] := hl
  refine lv_iload_n hx hb dX5_lastNotZero_7 rfl (lv_at hl 0 rfl) ?_
  refine lv_if_lt (tgt := 27) hx hb dX5_lastNotZero_8 (by decide) (fun h1 => ?_) (fun h1 => ?_)
  · have h0 : k = 0 := sub1_neg (by omega) h1
    refine lv_iconst (v := (-1)) hx hb dX5_lastNotZero_27 (by decide) ?_
    exact hret (-1) () H _ 28 ls dX5_lastNotZero_28 (by rw [hk.2, h0]; show (-1 : Int32) = nI 0 - nI 1; decide) (hP.sub [0, 1] rfl) (hD.sub [0, 1] (by decide) rfl) hS
  · have hpos : 0 < k := by
      rcases Nat.eq_zero_or_pos k with q | q
      · exact absurd (by rw [q]; decide) h1
      · exact q
    refine lv_aload_n hx hb dX5_lastNotZero_11 rfl (lv_at hl 1 rfl) ?_
    refine lv_iload_n hx hb dX5_lastNotZero_12 rfl (lv_at hl 0 rfl) ?_
    refine w_top (nI (k - 1)) (pk_sub (by omega)) ?_
    refine w_fini (wr := []) (va_runV (As := [.int (nI (k - 1))]) (rest := []) ⟨hx, hb, hml, hown, hts⟩ (c_Row_at l G h b n z f (k - 1) (by omega) (by omega) (by omega) H.size) (cwV 1 hts gX5_lastNotZero_X5_at rfl rfl rfl (by decide +kernel) ⟨Nat.le_of_ble_eq_true rfl, Nat.le_of_ble_eq_true rfl⟩) ⟨wPre.blind, (va_recv hK hP (ci := 4) (q0 := 0) rfl rfl), (fun U hU hW => ⟨rfl, w_pre hK hT hA hP hD hS (isC := [0, 1]) (by decide) rfl U hU hW⟩)⟩ rfl rfl hl.1 rfl (lv_room (Nat.le_of_ble_eq_true rfl)) dX5_lastNotZero_13 ⟨Nat.le_of_ble_eq_true rfl, Nat.le_of_ble_eq_true rfl⟩) hA hP hD hS [0, 1] [] rfl rfl (by decide) (by decide) (fun r u H locs hpost hP hD hS => ?_)
    obtain rfl := hpost
    have hP : va_P G.1 vwCl [(h, .inr (4, [.ref b, .int (nI z)])), (b, .inl (G.2.1, n, .inl f))] H := hP
    have hD : va_D A [(h, .inr (4, [.ref b, .int (nI z)])), (b, .inl (G.2.1, n, .inl f))] := hD
    refine lv_if_eq (tgt := 21) hx hb dX5_lastNotZero_16 (by decide) (fun h2 => ?_) (fun h2 => ?_)
    · have h2 : f (k - 1) = 0 := by rw [rAt_in (by omega)] at h2; exact h2
      obtain ⟨x3, ex3⟩ : ∃ y : Int32, y = nI k - nI 1 + -1 := ⟨_, rfl⟩
      refine lv_iinc (v := x3) (lv' := [(1, .int x3), (0, .ref h)]) hx hb dX5_lastNotZero_21 hl (k := 0) rfl (by rw [ex3]; rfl) (by decide) rfl (fun ls hl => ?_)
      have hl : lv_has ls 2 [(1, .int (nI (k - 1) - nI 1)), (0, .ref h)] := by have h9 := hl; rw [ex3, sub1_dec hpos] at h9; exact h9
      refine lv_goto (tgt := 7) hx hb dX5_lastNotZero_24 (by decide) ?_
      exact ih (k - 1) H _ _ (by omega) (⟨by omega, hk.2.trans (lnz_0 hpos h2)⟩) hP hD hS (lv_sub hl [0, 1] rfl)
    · have h2 : ¬ f (k - 1) = 0 := by rw [rAt_in (by omega)] at h2; exact h2
      refine lv_iload_n hx hb dX5_lastNotZero_19 rfl (lv_at hl 0 rfl) ?_
      exact hret (nI k - nI 1) () H _ 20 ls dX5_lastNotZero_20 (by rw [hk.2, lnz_n hpos h2]) (hP.sub [0, 1] rfl) (hD.sub [0, 1] (by decide) rfl) hS
