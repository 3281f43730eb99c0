/-! the model's calls on the tape and the out -/
theorem dn_t {x k : Nat} (hx : x < 2 ^ 30) (h : nI x - nI (8 * k) < 0) : x < 8 * k := by
  rcases Nat.lt_or_ge x (8 * k) with q | q
  · exact q
  · rw [pk_sub q] at h
    exact absurd h (nI_pos (by omega))
theorem dn_f {x k : Nat} (hk : k < 2 ^ 20) (h : ¬ nI x - nI (8 * k) < 0) : 8 * k ≤ x := by
  rcases Nat.lt_or_ge x (8 * k) with q | q
  · exact absurd (pk_sneg (by omega) q) h
  · exact q
theorem dn_s {x k : Nat} : nI x - nI (8 * k) + (-8) = nI x - nI (8 * (k + 1)) := by
  rw [show 8 * (k + 1) = 8 * k + 8 by omega, ← nI_add, Int32.sub_eq_add_neg, Int32.sub_eq_add_neg, Int32.neg_add, Int32.sub_eq_add_neg, Int32.add_assoc]
  congr 1
/-- the four bytes of a word as the model lays them -/
def mB (v : Int32) : Nat → Int32 := fun j => bN (v >>> (nI (24 - 8 * j) &&& 31))
set_option maxHeartbeats 4000000 in
set_option maxRecDepth 100000 in
theorem c_m_putFour (l : Launch) (G : wG) (h : Nat) (a : Nat → Nat) (rd mn tp os : Nat) (ty : Int32) (sz : Nat) (ft : Nat → Int32) (v : Int32) (ht : tp + 4 ≤ 400) : CMv l G yX8_putFour wsX8_putFour 0 0 0 0 [.ref h, .int v] [(h, .inr (7, mO a rd mn tp os ty sz)), (a 27, .inl (G.2.2.1, 400, .inl ft))] (fun (_ : Unit) => True) (fun _ => [(h, .inr (7, mO a rd mn (tp + 4) os ty sz)), (a 27, .inl (G.2.2.1, 400, .inl (fa tp 4 (mB v) ft)))]) := by
  refine CMv.start cX8_putFour 3 (by decide) rfl (Nat.le_of_ble_eq_true rfl) ?_
  intro p e s m below meth c A Q ls H locs hx hb hml hown hnm hts hK hT hA hP hD hS hl hret
  have hinX8 : ∀ w ∈ u_ws RX8 TX8 35, w ∈ wsX8_putFour := by decide +kernel
  have hl : lv_has ls 3 [(0, .ref h), (1, .int v)] := hl
  refine lv_bipush (v := nI 24) hx hb dX8_putFour_0 (by decide) ?_
  refine lv_istore_n (lv' := [(2, .int (nI 24)), (0, .ref h), (1, .int v)]) hx hb dX8_putFour_2 rfl hl (by decide) rfl (fun ls hl => ?_)
  refine w_loop (ι := Nat) (fun k => 4 - k) (fun k => k ≤ 4) (fun k => [(h, .inr (7, mO a rd mn (tp + k) os ty sz)), (a 27, .inl (G.2.2.1, 400, .inl (fa tp k (mB v) ft)))]) (fun k => [(2, .int (nI 24 - nI (8 * k))), (0, .ref h), (1, .int v)]) 0 (by omega) (by simp only [fa_0, Nat.add_zero]; exact hP) (by simp only [fa_0, Nat.add_zero]; exact hD) hS (by have h9 := hl; rw [show nI 24 = nI 24 - nI (8 * 0) by decide] at h9; exact h9) ?_
  intro k H locs ls hk hP hD hS hl ih
  have hk : k ≤ 4 := hk
  have hP : va_P G.1 vwCl [(h, .inr (7, mO a rd mn (tp + k) os ty sz)), (a 27, .inl (G.2.2.1, 400, .inl (fa tp k (mB v) ft)))] H := hP
  have hD : va_D A [(h, .inr (7, mO a rd mn (tp + k) os ty sz)), (a 27, .inl (G.2.2.1, 400, .inl (fa tp k (mB v) ft)))] := hD
  have hl : lv_has ls 3 [(2, .int (nI 24 - nI (8 * k))), (0, .ref h), (1, .int v)] := hl
  refine lv_iload_n hx hb dX8_putFour_3 rfl (lv_at hl 0 rfl) ?_
  refine lv_if_lt (tgt := 36) hx hb dX8_putFour_4 (by decide) (fun h1 => ?_) (fun h1 => ?_)
  · have h9 := dn_t (by decide) h1
    obtain rfl : 4 = k := Eq.symm (show k = 4 from by omega)
    exact hret () H _ 36 ls dX8_putFour_36 (trivial) (hP.sub [0, 1] rfl) (hD.sub [0, 1] (by decide) rfl) hS
  · have h9 := dn_f (by omega) h1
    refine lv_aload_n hx hb dX8_putFour_7 rfl (lv_at hl 1 rfl) ?_
    refine va_get (D := G.1) (ci := 7) (v := .ref (a 27)) (C := RX8) (T := TX8) (N := 35) hx hb hts hinX8 hown hK hP 0 rfl rfl 27 (by decide) (hts (.fieldLink RX8 227 "CipherBoxModel" "tape" "[B") (by decide +kernel)) (fun _ h9 => h9) rfl dX8_putFour_8 ?_
    refine lv_aload_n hx hb dX8_putFour_11 rfl (lv_at hl 1 rfl) ?_
    refine va_get (D := G.1) (ci := 7) (v := .int (nI (tp + k))) (C := RX8) (T := TX8) (N := 35) hx hb hts hinX8 hown hK hP 0 rfl rfl 28 (by decide) (hts (.fieldLink RX8 245 "CipherBoxModel" "taped" "I") (by decide +kernel)) (fun _ h9 => h9) rfl dX8_putFour_12 ?_
    refine lv_iload_n hx hb dX8_putFour_15 rfl (lv_at hl 2 rfl) ?_
    refine lv_iload_n hx hb dX8_putFour_16 rfl (lv_at hl 0 rfl) ?_
    refine w_top (nI (24 - 8 * k)) (pk_sub (by omega)) ?_
    refine lv_ishr hx hb dX8_putFour_17 ?_
    refine lv_i2b (v := bN (v >>> ((nI (24 - 8 * k)) &&& 31))) hx hb dX8_putFour_18 rfl ?_
    refine w_bast hx hb hK hP hD hS 1 rfl (by omega) (by omega) (fa tp (k + 1) (mB v) ft) (by rw [bN_bN]; exact fa_s rfl) dX8_putFour_19 (fun H locs hP hD hS => ?_)
    have hP : va_P G.1 vwCl [(h, .inr (7, mO a rd mn (tp + k) os ty sz)), (a 27, .inl (G.2.2.1, 400, .inl (fa tp (k + 1) (mB v) ft)))] H := hP
    have hD : va_D A [(h, .inr (7, mO a rd mn (tp + k) os ty sz)), (a 27, .inl (G.2.2.1, 400, .inl (fa tp (k + 1) (mB v) ft)))] := hD
    refine lv_aload_n hx hb dX8_putFour_20 rfl (lv_at hl 1 rfl) ?_
    refine lv_dup hx hb dX8_putFour_21 rfl ?_
    refine va_get (D := G.1) (ci := 7) (v := .int (nI (tp + k))) (C := RX8) (T := TX8) (N := 35) hx hb hts hinX8 hown hK hP 0 rfl rfl 28 (by decide) (hts (.fieldLink RX8 245 "CipherBoxModel" "taped" "I") (by decide +kernel)) (fun _ h9 => h9) rfl dX8_putFour_22 ?_
    refine lv_iconst (v := nI 1) hx hb dX8_putFour_25 (by decide) ?_
    refine w_iaddN hx hb dX8_putFour_26 ?_
    refine va_put (D := G.1) (ci := 7) (v := .int (nI ((tp + k) + 1))) (ty := .int) (C := RX8) (T := TX8) (N := 35) hx hb hts hinX8 tyX8 tyX8_ok nmX8 hown hK hP hD hS 0 rfl rfl 28 (by decide) (hts (.fieldLink RX8 245 "CipherBoxModel" "taped" "I") (by decide +kernel)) (fun _ h9 => h9) rfl (by decide +kernel) rfl rfl (Nat.le_of_ble_eq_true rfl) dX8_putFour_27 (fun H locs hP hD hS => ?_)
    have hP : va_P G.1 vwCl [(h, .inr (7, mO a rd mn ((tp + k) + 1) os ty sz)), (a 27, .inl (G.2.2.1, 400, .inl (fa tp (k + 1) (mB v) ft)))] H := hP
    have hD : va_D A [(h, .inr (7, mO a rd mn ((tp + k) + 1) os ty sz)), (a 27, .inl (G.2.2.1, 400, .inl (fa tp (k + 1) (mB v) ft)))] := hD
    obtain ⟨x2, ex2⟩ : ∃ y : Int32, y = nI 24 - nI (8 * k) + -8 := ⟨_, rfl⟩
    refine lv_iinc (v := x2) (lv' := [(2, .int x2), (0, .ref h), (1, .int v)]) hx hb dX8_putFour_30 hl (k := 0) rfl (by rw [ex2]; rfl) (by decide) rfl (fun ls hl => ?_)
    have hl : lv_has ls 3 [(2, .int (nI 24 - nI (8 * (k + 1)))), (0, .ref h), (1, .int v)] := by have h9 := hl; rw [ex2, dn_s] at h9; exact h9
    refine lv_goto (tgt := 3) hx hb dX8_putFour_33 (by decide) ?_
    exact ih (k + 1) H _ _ (by omega) (by omega) hP hD hS (lv_sub hl [0, 1, 2] rfl)

set_option maxHeartbeats 4000000 in
set_option maxRecDepth 100000 in
theorem c_m_feed_ok (l : Launch) (G : wG) (h : Nat) (a : Nat → Nat) (rd mn tp os : Nat) (ty : Int32) (sz : Nat) (ft : Nat → Int32) (v1 v2 v3 v4 v5 : Int32) (ht : tp + 20 ≤ 400) : CMi l G yX8_feed wsX8_feed 1 22 [.ref h, .int v1, .int v2, .int v3, .int v4, .int v5] [(h, .inr (7, mO a rd mn tp os ty sz)), (a 27, .inl (G.2.2.1, 400, .inl ft))] (fun r (_ : Unit) => r = nI (tp + 20)) (fun _ => [(h, .inr (7, mO a rd mn (tp + 20) os ty sz)), (a 27, .inl (G.2.2.1, 400, .inl (fa (tp + 16) 4 (mB v5) (fa (tp + 12) 4 (mB v4) (fa (tp + 8) 4 (mB v3) (fa (tp + 4) 4 (mB v2) (fa tp 4 (mB v1) ft)))))))]) := by
  refine CMi.start cX8_feed 6 .int (by decide) rfl (Nat.le_of_ble_eq_true rfl) (fun r u h => vp_nar_int r) ?_
  intro p e s m below meth c A Q ls H locs hx hb hml hown hts hK hT hA hP hD hS hl hret
  have hinX8 : ∀ w ∈ u_ws RX8 TX8 35, w ∈ wsX8_feed := by decide +kernel
  have hl : lv_has ls 6 [(0, .ref h), (1, .int v1), (2, .int v2), (3, .int v3), (4, .int v4), (5, .int v5)] := hl
  refine lv_aload_n hx hb dX8_feed_0 rfl (lv_at hl 0 rfl) ?_
  refine va_get (D := G.1) (ci := 7) (v := .int (nI tp)) (C := RX8) (T := TX8) (N := 35) hx hb hts hinX8 hown hK hP 0 rfl rfl 28 (by decide) (hts (.fieldLink RX8 245 "CipherBoxModel" "taped" "I") (by decide +kernel)) (fun _ h9 => h9) rfl dX8_feed_1 ?_
  refine lv_bipush (v := nI 20) hx hb dX8_feed_4 (by decide) ?_
  refine w_iaddN hx hb dX8_feed_6 ?_
  refine lv_sipush (v := nI 400) hx hb dX8_feed_7 (by decide) ?_
  refine w_icmpN_le (tgt := 15) hx hb (by omega) (by omega) dX8_feed_10 (by decide) (fun h1 => ?_) (fun h1 => ?_)
  · refine lv_aload_n hx hb dX8_feed_15 rfl (lv_at hl 0 rfl) ?_
    refine lv_iload_n hx hb dX8_feed_16 rfl (lv_at hl 1 rfl) ?_
    refine w_finv (wr := []) (va_runV (As := [.int v1]) (rest := []) ⟨hx, hb, hml, hown, hts⟩ (c_m_putFour l G h a rd mn tp os ty sz ft v1 (by omega) H.size) (cwV 1 hts gX8_feed_X8_putFour rfl rfl rfl (by decide +kernel) ⟨Nat.le_of_ble_eq_true rfl, Nat.le_of_ble_eq_true rfl⟩) ⟨wPre.blind, (va_recv hK hP (ci := 7) (q0 := 0) rfl rfl), (fun U hU hW => ⟨rfl, w_pre hK hT hA hP hD hS (isC := [0, 1]) (by decide) rfl U hU hW⟩)⟩ rfl rfl hl.1 rfl (lv_room (Nat.le_of_ble_eq_true rfl)) dX8_feed_17 ⟨Nat.le_of_ble_eq_true rfl, Nat.le_of_ble_eq_true rfl⟩) hA hP hD hS [0, 1] [] rfl rfl (by decide) (by decide) (fun u H locs hpost hP hD hS => ?_)
    have hP : va_P G.1 vwCl [(h, .inr (7, mO a rd mn (tp + 4) os ty sz)), (a 27, .inl (G.2.2.1, 400, .inl (fa tp 4 (mB v1) ft)))] H := hP
    have hD : va_D A [(h, .inr (7, mO a rd mn (tp + 4) os ty sz)), (a 27, .inl (G.2.2.1, 400, .inl (fa tp 4 (mB v1) ft)))] := hD
    refine lv_aload_n hx hb dX8_feed_20 rfl (lv_at hl 0 rfl) ?_
    refine lv_iload_n hx hb dX8_feed_21 rfl (lv_at hl 2 rfl) ?_
    refine w_finv (wr := []) (va_runV (As := [.int v2]) (rest := []) ⟨hx, hb, hml, hown, hts⟩ (c_m_putFour l G h a rd mn (tp + 4) os ty sz (fa tp 4 (mB v1) ft) v2 (by omega) H.size) (cwV 1 hts gX8_feed_X8_putFour rfl rfl rfl (by decide +kernel) ⟨Nat.le_of_ble_eq_true rfl, Nat.le_of_ble_eq_true rfl⟩) ⟨wPre.blind, (va_recv hK hP (ci := 7) (q0 := 0) rfl rfl), (fun U hU hW => ⟨rfl, w_pre hK hT hA hP hD hS (isC := [0, 1]) (by decide) rfl U hU hW⟩)⟩ rfl rfl hl.1 rfl (lv_room (Nat.le_of_ble_eq_true rfl)) dX8_feed_22 ⟨Nat.le_of_ble_eq_true rfl, Nat.le_of_ble_eq_true rfl⟩) hA hP hD hS [0, 1] [] rfl rfl (by decide) (by decide) (fun u H locs hpost hP hD hS => ?_)
    have hP : va_P G.1 vwCl [(h, .inr (7, mO a rd mn ((tp + 4) + 4) os ty sz)), (a 27, .inl (G.2.2.1, 400, .inl (fa (tp + 4) 4 (mB v2) (fa tp 4 (mB v1) ft))))] H := hP
    have hD : va_D A [(h, .inr (7, mO a rd mn ((tp + 4) + 4) os ty sz)), (a 27, .inl (G.2.2.1, 400, .inl (fa (tp + 4) 4 (mB v2) (fa tp 4 (mB v1) ft))))] := hD
    refine lv_aload_n hx hb dX8_feed_25 rfl (lv_at hl 0 rfl) ?_
    refine lv_iload_n hx hb dX8_feed_26 rfl (lv_at hl 3 rfl) ?_
    refine w_finv (wr := []) (va_runV (As := [.int v3]) (rest := []) ⟨hx, hb, hml, hown, hts⟩ (c_m_putFour l G h a rd mn ((tp + 4) + 4) os ty sz (fa (tp + 4) 4 (mB v2) (fa tp 4 (mB v1) ft)) v3 (by omega) H.size) (cwV 1 hts gX8_feed_X8_putFour rfl rfl rfl (by decide +kernel) ⟨Nat.le_of_ble_eq_true rfl, Nat.le_of_ble_eq_true rfl⟩) ⟨wPre.blind, (va_recv hK hP (ci := 7) (q0 := 0) rfl rfl), (fun U hU hW => ⟨rfl, w_pre hK hT hA hP hD hS (isC := [0, 1]) (by decide) rfl U hU hW⟩)⟩ rfl rfl hl.1 rfl (lv_room (Nat.le_of_ble_eq_true rfl)) dX8_feed_27 ⟨Nat.le_of_ble_eq_true rfl, Nat.le_of_ble_eq_true rfl⟩) hA hP hD hS [0, 1] [] rfl rfl (by decide) (by decide) (fun u H locs hpost hP hD hS => ?_)
    have hP : va_P G.1 vwCl [(h, .inr (7, mO a rd mn (((tp + 4) + 4) + 4) os ty sz)), (a 27, .inl (G.2.2.1, 400, .inl (fa ((tp + 4) + 4) 4 (mB v3) (fa (tp + 4) 4 (mB v2) (fa tp 4 (mB v1) ft)))))] H := hP
    have hD : va_D A [(h, .inr (7, mO a rd mn (((tp + 4) + 4) + 4) os ty sz)), (a 27, .inl (G.2.2.1, 400, .inl (fa ((tp + 4) + 4) 4 (mB v3) (fa (tp + 4) 4 (mB v2) (fa tp 4 (mB v1) ft)))))] := hD
    refine lv_aload_n hx hb dX8_feed_30 rfl (lv_at hl 0 rfl) ?_
    refine lv_iload hx hb dX8_feed_31 (lv_at hl 4 rfl) ?_
    refine w_finv (wr := []) (va_runV (As := [.int v4]) (rest := []) ⟨hx, hb, hml, hown, hts⟩ (c_m_putFour l G h a rd mn (((tp + 4) + 4) + 4) os ty sz (fa ((tp + 4) + 4) 4 (mB v3) (fa (tp + 4) 4 (mB v2) (fa tp 4 (mB v1) ft))) v4 (by omega) H.size) (cwV 1 hts gX8_feed_X8_putFour rfl rfl rfl (by decide +kernel) ⟨Nat.le_of_ble_eq_true rfl, Nat.le_of_ble_eq_true rfl⟩) ⟨wPre.blind, (va_recv hK hP (ci := 7) (q0 := 0) rfl rfl), (fun U hU hW => ⟨rfl, w_pre hK hT hA hP hD hS (isC := [0, 1]) (by decide) rfl U hU hW⟩)⟩ rfl rfl hl.1 rfl (lv_room (Nat.le_of_ble_eq_true rfl)) dX8_feed_33 ⟨Nat.le_of_ble_eq_true rfl, Nat.le_of_ble_eq_true rfl⟩) hA hP hD hS [0, 1] [] rfl rfl (by decide) (by decide) (fun u H locs hpost hP hD hS => ?_)
    have hP : va_P G.1 vwCl [(h, .inr (7, mO a rd mn ((((tp + 4) + 4) + 4) + 4) os ty sz)), (a 27, .inl (G.2.2.1, 400, .inl (fa (((tp + 4) + 4) + 4) 4 (mB v4) (fa ((tp + 4) + 4) 4 (mB v3) (fa (tp + 4) 4 (mB v2) (fa tp 4 (mB v1) ft))))))] H := hP
    have hD : va_D A [(h, .inr (7, mO a rd mn ((((tp + 4) + 4) + 4) + 4) os ty sz)), (a 27, .inl (G.2.2.1, 400, .inl (fa (((tp + 4) + 4) + 4) 4 (mB v4) (fa ((tp + 4) + 4) 4 (mB v3) (fa (tp + 4) 4 (mB v2) (fa tp 4 (mB v1) ft))))))] := hD
    refine lv_aload_n hx hb dX8_feed_36 rfl (lv_at hl 0 rfl) ?_
    refine lv_iload hx hb dX8_feed_37 (lv_at hl 5 rfl) ?_
    refine w_finv (wr := []) (va_runV (As := [.int v5]) (rest := []) ⟨hx, hb, hml, hown, hts⟩ (c_m_putFour l G h a rd mn ((((tp + 4) + 4) + 4) + 4) os ty sz (fa (((tp + 4) + 4) + 4) 4 (mB v4) (fa ((tp + 4) + 4) 4 (mB v3) (fa (tp + 4) 4 (mB v2) (fa tp 4 (mB v1) ft)))) v5 (by omega) H.size) (cwV 1 hts gX8_feed_X8_putFour rfl rfl rfl (by decide +kernel) ⟨Nat.le_of_ble_eq_true rfl, Nat.le_of_ble_eq_true rfl⟩) ⟨wPre.blind, (va_recv hK hP (ci := 7) (q0 := 0) rfl rfl), (fun U hU hW => ⟨rfl, w_pre hK hT hA hP hD hS (isC := [0, 1]) (by decide) rfl U hU hW⟩)⟩ rfl rfl hl.1 rfl (lv_room (Nat.le_of_ble_eq_true rfl)) dX8_feed_39 ⟨Nat.le_of_ble_eq_true rfl, Nat.le_of_ble_eq_true rfl⟩) hA hP hD hS [0, 1] [] rfl rfl (by decide) (by decide) (fun u H locs hpost hP hD hS => ?_)
    have hP : va_P G.1 vwCl [(h, .inr (7, mO a rd mn (((((tp + 4) + 4) + 4) + 4) + 4) os ty sz)), (a 27, .inl (G.2.2.1, 400, .inl (fa ((((tp + 4) + 4) + 4) + 4) 4 (mB v5) (fa (((tp + 4) + 4) + 4) 4 (mB v4) (fa ((tp + 4) + 4) 4 (mB v3) (fa (tp + 4) 4 (mB v2) (fa tp 4 (mB v1) ft)))))))] H := hP
    have hD : va_D A [(h, .inr (7, mO a rd mn (((((tp + 4) + 4) + 4) + 4) + 4) os ty sz)), (a 27, .inl (G.2.2.1, 400, .inl (fa ((((tp + 4) + 4) + 4) + 4) 4 (mB v5) (fa (((tp + 4) + 4) + 4) 4 (mB v4) (fa ((tp + 4) + 4) 4 (mB v3) (fa (tp + 4) 4 (mB v2) (fa tp 4 (mB v1) ft)))))))] := hD
    refine lv_aload_n hx hb dX8_feed_42 rfl (lv_at hl 0 rfl) ?_
    refine va_get (D := G.1) (ci := 7) (v := .int (nI (((((tp + 4) + 4) + 4) + 4) + 4))) (C := RX8) (T := TX8) (N := 35) hx hb hts hinX8 hown hK hP 0 rfl rfl 28 (by decide) (hts (.fieldLink RX8 245 "CipherBoxModel" "taped" "I") (by decide +kernel)) (fun _ h9 => h9) rfl dX8_feed_43 ?_
    exact hret (nI (((((tp + 4) + 4) + 4) + 4) + 4)) () H _ 46 ls dX8_feed_46 (rfl) (hP.sub [0, 1] rfl) (hD.sub [0, 1] (by decide) rfl) hS
  · exact absurd h1 (by omega)

set_option maxHeartbeats 4000000 in
set_option maxRecDepth 100000 in
theorem c_m_feed_no (l : Launch) (G : wG) (h : Nat) (a : Nat → Nat) (rd mn tp os : Nat) (ty : Int32) (sz : Nat) (v1 v2 v3 v4 v5 : Int32) (ht : 400 < tp + 20) (ht2 : tp ≤ 400) : CMi l G yX8_feed wsX8_feed 0 0 [.ref h, .int v1, .int v2, .int v3, .int v4, .int v5] [(h, .inr (7, mO a rd mn tp os ty sz))] (fun r (_ : Unit) => r = (-1)) (fun _ => [(h, .inr (7, mO a rd mn tp os ty sz))]) := by
  refine CMi.start cX8_feed 6 .int (by decide) rfl (Nat.le_of_ble_eq_true rfl) (fun r u h => vp_nar_int r) ?_
  intro p e s m below meth c A Q ls H locs hx hb hml hown hts hK hT hA hP hD hS hl hret
  have hinX8 : ∀ w ∈ u_ws RX8 TX8 35, w ∈ wsX8_feed := by decide +kernel
  have hl : lv_has ls 6 [(0, .ref h), (1, .int v1), (2, .int v2), (3, .int v3), (4, .int v4), (5, .int v5)] := hl
  refine lv_aload_n hx hb dX8_feed_0 rfl (lv_at hl 0 rfl) ?_
  refine va_get (D := G.1) (ci := 7) (v := .int (nI tp)) (C := RX8) (T := TX8) (N := 35) hx hb hts hinX8 hown hK hP 0 rfl rfl 28 (by decide) (hts (.fieldLink RX8 245 "CipherBoxModel" "taped" "I") (by decide +kernel)) (fun _ h9 => h9) rfl dX8_feed_1 ?_
  refine lv_bipush (v := nI 20) hx hb dX8_feed_4 (by decide) ?_
  refine w_iaddN hx hb dX8_feed_6 ?_
  refine lv_sipush (v := nI 400) hx hb dX8_feed_7 (by decide) ?_
  refine w_icmpN_le (tgt := 15) hx hb (by omega) (by omega) dX8_feed_10 (by decide) (fun h1 => ?_) (fun h1 => ?_)
  · exact absurd h1 (by omega)
  · refine lv_iconst (v := (-1)) hx hb dX8_feed_13 (by decide) ?_
    exact hret (-1) () H _ 14 ls dX8_feed_14 (rfl) (hP.sub [0] rfl) (hD.sub [0] (by decide) rfl) hS

set_option maxHeartbeats 4000000 in
set_option maxRecDepth 100000 in
theorem c_m_end_ok (l : Launch) (G : wG) (h : Nat) (a : Nat → Nat) (rd mn tp os : Nat) (ty : Int32) (sz : Nat) (q : Nat) (ht : q ≤ tp) (ht2 : tp ≤ 400) : CMi l G yX8_end wsX8_end 0 0 [.ref h, .int (nI q)] [(h, .inr (7, mO a rd mn tp os ty sz))] (fun r (_ : Unit) => r = nI q) (fun _ => [(h, .inr (7, mO a rd mn q os ty sz))]) := by
  refine CMi.start cX8_end 2 .int (by decide) rfl (Nat.le_of_ble_eq_true rfl) (fun r u h => vp_nar_int r) ?_
  intro p e s m below meth c A Q ls H locs hx hb hml hown hts hK hT hA hP hD hS hl hret
  have hinX8 : ∀ w ∈ u_ws RX8 TX8 35, w ∈ wsX8_end := by decide +kernel
  have hl : lv_has ls 2 [(0, .ref h), (1, .int (nI q))] := hl
  refine lv_iload_n hx hb dX8_end_0 rfl (lv_at hl 1 rfl) ?_
  refine lv_if_lt (tgt := 12) hx hb dX8_end_1 (by decide) (fun h1 => ?_) (fun h1 => ?_)
  · exact absurd h1 (nI_pos (by omega))
  · refine lv_iload_n hx hb dX8_end_4 rfl (lv_at hl 1 rfl) ?_
    refine lv_aload_n hx hb dX8_end_5 rfl (lv_at hl 0 rfl) ?_
    refine va_get (D := G.1) (ci := 7) (v := .int (nI tp)) (C := RX8) (T := TX8) (N := 35) hx hb hts hinX8 hown hK hP 0 rfl rfl 28 (by decide) (hts (.fieldLink RX8 245 "CipherBoxModel" "taped" "I") (by decide +kernel)) (fun _ h9 => h9) rfl dX8_end_6 ?_
    refine w_icmpN_le (tgt := 14) hx hb (by omega) (by omega) dX8_end_9 (by decide) (fun h2 => ?_) (fun h2 => ?_)
    · refine lv_aload_n hx hb dX8_end_14 rfl (lv_at hl 0 rfl) ?_
      refine lv_iload_n hx hb dX8_end_15 rfl (lv_at hl 1 rfl) ?_
      refine va_put (D := G.1) (ci := 7) (v := .int (nI q)) (ty := .int) (C := RX8) (T := TX8) (N := 35) hx hb hts hinX8 tyX8 tyX8_ok nmX8 hown hK hP hD hS 0 rfl rfl 28 (by decide) (hts (.fieldLink RX8 245 "CipherBoxModel" "taped" "I") (by decide +kernel)) (fun _ h9 => h9) rfl (by decide +kernel) rfl rfl (Nat.le_of_ble_eq_true rfl) dX8_end_16 (fun H locs hP hD hS => ?_)
      have hP : va_P G.1 vwCl [(h, .inr (7, mO a rd mn q os ty sz))] H := hP
      have hD : va_D A [(h, .inr (7, mO a rd mn q os ty sz))] := hD
      refine lv_iload_n hx hb dX8_end_19 rfl (lv_at hl 1 rfl) ?_
      exact hret (nI q) () H _ 20 ls dX8_end_20 (rfl) (hP.sub [0] rfl) (hD.sub [0] (by decide) rfl) hS
    · exact absurd h2 (by omega)

set_option maxHeartbeats 4000000 in
set_option maxRecDepth 100000 in
theorem c_m_end_neg (l : Launch) (G : wG) (h : Nat) (a : Nat → Nat) (rd mn tp os : Nat) (ty : Int32) (sz : Nat) (v : Int32) (hv : v < 0) : CMi l G yX8_end wsX8_end 0 0 [.ref h, .int v] [(h, .inr (7, mO a rd mn tp os ty sz))] (fun r (_ : Unit) => r = (-1)) (fun _ => [(h, .inr (7, mO a rd mn tp os ty sz))]) := by
  refine CMi.start cX8_end 2 .int (by decide) rfl (Nat.le_of_ble_eq_true rfl) (fun r u h => vp_nar_int r) ?_
  intro p e s m below meth c A Q ls H locs hx hb hml hown hts hK hT hA hP hD hS hl hret
  have hl : lv_has ls 2 [(0, .ref h), (1, .int v)] := hl
  refine lv_iload_n hx hb dX8_end_0 rfl (lv_at hl 1 rfl) ?_
  refine lv_if_lt (tgt := 12) hx hb dX8_end_1 (by decide) (fun h1 => ?_) (fun h1 => ?_)
  · refine lv_iconst (v := (-1)) hx hb dX8_end_12 (by decide) ?_
    exact hret (-1) () H _ 13 ls dX8_end_13 (rfl) (hP.sub [0] rfl) (hD.sub [0] (by decide) rfl) hS
  · exact absurd hv h1

set_option maxHeartbeats 4000000 in
set_option maxRecDepth 100000 in
theorem c_m_end_big (l : Launch) (G : wG) (h : Nat) (a : Nat → Nat) (rd mn tp os : Nat) (ty : Int32) (sz : Nat) (q : Nat) (ht : tp < q) (ht2 : q < 2 ^ 31) : CMi l G yX8_end wsX8_end 0 0 [.ref h, .int (nI q)] [(h, .inr (7, mO a rd mn tp os ty sz))] (fun r (_ : Unit) => r = (-1)) (fun _ => [(h, .inr (7, mO a rd mn tp os ty sz))]) := by
  refine CMi.start cX8_end 2 .int (by decide) rfl (Nat.le_of_ble_eq_true rfl) (fun r u h => vp_nar_int r) ?_
  intro p e s m below meth c A Q ls H locs hx hb hml hown hts hK hT hA hP hD hS hl hret
  have hinX8 : ∀ w ∈ u_ws RX8 TX8 35, w ∈ wsX8_end := by decide +kernel
  have hl : lv_has ls 2 [(0, .ref h), (1, .int (nI q))] := hl
  refine lv_iload_n hx hb dX8_end_0 rfl (lv_at hl 1 rfl) ?_
  refine lv_if_lt (tgt := 12) hx hb dX8_end_1 (by decide) (fun h1 => ?_) (fun h1 => ?_)
  · exact absurd h1 (nI_pos (by omega))
  · refine lv_iload_n hx hb dX8_end_4 rfl (lv_at hl 1 rfl) ?_
    refine lv_aload_n hx hb dX8_end_5 rfl (lv_at hl 0 rfl) ?_
    refine va_get (D := G.1) (ci := 7) (v := .int (nI tp)) (C := RX8) (T := TX8) (N := 35) hx hb hts hinX8 hown hK hP 0 rfl rfl 28 (by decide) (hts (.fieldLink RX8 245 "CipherBoxModel" "taped" "I") (by decide +kernel)) (fun _ h9 => h9) rfl dX8_end_6 ?_
    refine w_icmpN_le (tgt := 14) hx hb (by omega) (by omega) dX8_end_9 (by decide) (fun h2 => ?_) (fun h2 => ?_)
    · exact absurd h2 (by omega)
    · refine lv_iconst (v := (-1)) hx hb dX8_end_12 (by decide) ?_
      exact hret (-1) () H _ 13 ls dX8_end_13 (rfl) (hP.sub [0] rfl) (hD.sub [0] (by decide) rfl) hS

set_option maxHeartbeats 4000000 in
set_option maxRecDepth 100000 in
theorem c_m_out_ok (l : Launch) (G : wG) (h : Nat) (a : Nat → Nat) (rd mn tp os : Nat) (ty : Int32) (sz : Nat) (fo : Nat → Int32) (q : Nat) (ht : q < os) (ht2 : os ≤ 400) : CMi l G yX8_out wsX8_out 0 0 [.ref h, .int (nI q)] [(h, .inr (7, mO a rd mn tp os ty sz)), (a 29, .inl (G.2.2.1, 416, .inl fo))] (fun r (_ : Unit) => r = fo q &&& nI 255) (fun _ => [(h, .inr (7, mO a rd mn tp os ty sz)), (a 29, .inl (G.2.2.1, 416, .inl fo))]) := by
  refine CMi.start cX8_out 2 .int (by decide) rfl (Nat.le_of_ble_eq_true rfl) (fun r u h => vp_nar_int r) ?_
  intro p e s m below meth c A Q ls H locs hx hb hml hown hts hK hT hA hP hD hS hl hret
  have hinX8 : ∀ w ∈ u_ws RX8 TX8 35, w ∈ wsX8_out := by decide +kernel
  have hl : lv_has ls 2 [(0, .ref h), (1, .int (nI q))] := hl
  refine lv_iload_n hx hb dX8_out_0 rfl (lv_at hl 1 rfl) ?_
  refine lv_if_lt (tgt := 12) hx hb dX8_out_1 (by decide) (fun h1 => ?_) (fun h1 => ?_)
  · exact absurd h1 (nI_pos (by omega))
  · refine lv_iload_n hx hb dX8_out_4 rfl (lv_at hl 1 rfl) ?_
    refine lv_aload_n hx hb dX8_out_5 rfl (lv_at hl 0 rfl) ?_
    refine va_get (D := G.1) (ci := 7) (v := .int (nI os)) (C := RX8) (T := TX8) (N := 35) hx hb hts hinX8 hown hK hP 0 rfl rfl 30 (by decide) (hts (.fieldLink RX8 251 "CipherBoxModel" "outSize" "I") (by decide +kernel)) (fun _ h9 => h9) rfl dX8_out_6 ?_
    refine w_icmpN_lt (tgt := 16) hx hb (by omega) (by omega) dX8_out_9 (by decide) (fun h2 => ?_) (fun h2 => ?_)
    · refine lv_aload_n hx hb dX8_out_16 rfl (lv_at hl 0 rfl) ?_
      refine va_get (D := G.1) (ci := 7) (v := .ref (a 29)) (C := RX8) (T := TX8) (N := 35) hx hb hts hinX8 hown hK hP 0 rfl rfl 29 (by decide) (hts (.fieldLink RX8 230 "CipherBoxModel" "out" "[B") (by decide +kernel)) (fun _ h9 => h9) rfl dX8_out_17 ?_
      refine lv_iload_n hx hb dX8_out_20 rfl (lv_at hl 1 rfl) ?_
      refine w_bald hx hb hK hP 1 rfl (by omega) (by omega) dX8_out_21 ?_
      refine lv_sipush (v := nI 255) hx hb dX8_out_22 (by decide) ?_
      refine lv_iand hx hb dX8_out_25 ?_
      exact hret ((fo q) &&& (nI 255)) () H _ 26 ls dX8_out_26 (rfl) (hP.sub [0, 1] rfl) (hD.sub [0, 1] (by decide) rfl) hS
    · exact absurd h2 (by omega)

set_option maxHeartbeats 4000000 in
set_option maxRecDepth 100000 in
theorem c_m_out_neg (l : Launch) (G : wG) (h : Nat) (a : Nat → Nat) (rd mn tp os : Nat) (ty : Int32) (sz : Nat) (v : Int32) (hv : v < 0) : CMi l G yX8_out wsX8_out 0 0 [.ref h, .int v] [(h, .inr (7, mO a rd mn tp os ty sz))] (fun r (_ : Unit) => r = (-1)) (fun _ => [(h, .inr (7, mO a rd mn tp os ty sz))]) := by
  refine CMi.start cX8_out 2 .int (by decide) rfl (Nat.le_of_ble_eq_true rfl) (fun r u h => vp_nar_int r) ?_
  intro p e s m below meth c A Q ls H locs hx hb hml hown hts hK hT hA hP hD hS hl hret
  have hl : lv_has ls 2 [(0, .ref h), (1, .int v)] := hl
  refine lv_iload_n hx hb dX8_out_0 rfl (lv_at hl 1 rfl) ?_
  refine lv_if_lt (tgt := 12) hx hb dX8_out_1 (by decide) (fun h1 => ?_) (fun h1 => ?_)
  · refine lv_iconst (v := (-1)) hx hb dX8_out_12 (by decide) ?_
    refine lv_goto (tgt := 26) hx hb dX8_out_13 (by decide) ?_
    exact hret (-1) () H _ 26 ls dX8_out_26 (rfl) (hP.sub [0] rfl) (hD.sub [0] (by decide) rfl) hS
  · exact absurd hv h1

set_option maxHeartbeats 4000000 in
set_option maxRecDepth 100000 in
theorem c_m_out_big (l : Launch) (G : wG) (h : Nat) (a : Nat → Nat) (rd mn tp os : Nat) (ty : Int32) (sz : Nat) (q : Nat) (ht : os ≤ q) (ht2 : q < 2 ^ 31) : CMi l G yX8_out wsX8_out 0 0 [.ref h, .int (nI q)] [(h, .inr (7, mO a rd mn tp os ty sz))] (fun r (_ : Unit) => r = (-1)) (fun _ => [(h, .inr (7, mO a rd mn tp os ty sz))]) := by
  refine CMi.start cX8_out 2 .int (by decide) rfl (Nat.le_of_ble_eq_true rfl) (fun r u h => vp_nar_int r) ?_
  intro p e s m below meth c A Q ls H locs hx hb hml hown hts hK hT hA hP hD hS hl hret
  have hinX8 : ∀ w ∈ u_ws RX8 TX8 35, w ∈ wsX8_out := by decide +kernel
  have hl : lv_has ls 2 [(0, .ref h), (1, .int (nI q))] := hl
  refine lv_iload_n hx hb dX8_out_0 rfl (lv_at hl 1 rfl) ?_
  refine lv_if_lt (tgt := 12) hx hb dX8_out_1 (by decide) (fun h1 => ?_) (fun h1 => ?_)
  · exact absurd h1 (nI_pos (by omega))
  · refine lv_iload_n hx hb dX8_out_4 rfl (lv_at hl 1 rfl) ?_
    refine lv_aload_n hx hb dX8_out_5 rfl (lv_at hl 0 rfl) ?_
    refine va_get (D := G.1) (ci := 7) (v := .int (nI os)) (C := RX8) (T := TX8) (N := 35) hx hb hts hinX8 hown hK hP 0 rfl rfl 30 (by decide) (hts (.fieldLink RX8 251 "CipherBoxModel" "outSize" "I") (by decide +kernel)) (fun _ h9 => h9) rfl dX8_out_6 ?_
    refine w_icmpN_lt (tgt := 16) hx hb (by omega) (by omega) dX8_out_9 (by decide) (fun h2 => ?_) (fun h2 => ?_)
    · exact absurd h2 (by omega)
    · refine lv_iconst (v := (-1)) hx hb dX8_out_12 (by decide) ?_
      refine lv_goto (tgt := 26) hx hb dX8_out_13 (by decide) ?_
      exact hret (-1) () H _ 26 ls dX8_out_26 (rfl) (hP.sub [0] rfl) (hD.sub [0] (by decide) rfl) hS

set_option maxHeartbeats 4000000 in
set_option maxRecDepth 100000 in
theorem c_m_take_ok (l : Launch) (G : wG) (h : Nat) (a : Nat → Nat) (rd mn tp os : Nat) (ty : Int32) (sz : Nat) (ft fo : Nat → Int32) (ht : tp + os ≤ 400) : CMi l G yX8_take wsX8_take 0 0 [.ref h] [(h, .inr (7, mO a rd mn tp os ty sz)), (a 27, .inl (G.2.2.1, 400, .inl ft)), (a 29, .inl (G.2.2.1, 416, .inl fo))] (fun r (_ : Unit) => r = nI (tp + os)) (fun _ => [(h, .inr (7, mO a rd mn (tp + os) os ty sz)), (a 27, .inl (G.2.2.1, 400, .inl (fa tp os (fun j_ => bN (fo j_)) ft))), (a 29, .inl (G.2.2.1, 416, .inl fo))]) := by
  refine CMi.start cX8_take 2 .int (by decide) rfl (Nat.le_of_ble_eq_true rfl) (fun r u h => vp_nar_int r) ?_
  intro p e s m below meth c A Q ls H locs hx hb hml hown hts hK hT hA hP hD hS hl hret
  have hinX8 : ∀ w ∈ u_ws RX8 TX8 35, w ∈ wsX8_take := by decide +kernel
  have hl : lv_has ls 2 [(0, .ref h)] := hl
  refine lv_aload_n hx hb dX8_take_0 rfl (lv_at hl 0 rfl) ?_
  refine va_get (D := G.1) (ci := 7) (v := .int (nI tp)) (C := RX8) (T := TX8) (N := 35) hx hb hts hinX8 hown hK hP 0 rfl rfl 28 (by decide) (hts (.fieldLink RX8 245 "CipherBoxModel" "taped" "I") (by decide +kernel)) (fun _ h9 => h9) rfl dX8_take_1 ?_
  refine lv_aload_n hx hb dX8_take_4 rfl (lv_at hl 0 rfl) ?_
  refine va_get (D := G.1) (ci := 7) (v := .int (nI os)) (C := RX8) (T := TX8) (N := 35) hx hb hts hinX8 hown hK hP 0 rfl rfl 30 (by decide) (hts (.fieldLink RX8 251 "CipherBoxModel" "outSize" "I") (by decide +kernel)) (fun _ h9 => h9) rfl dX8_take_5 ?_
  refine w_iaddN hx hb dX8_take_8 ?_
  refine lv_sipush (v := nI 400) hx hb dX8_take_9 (by decide) ?_
  refine w_icmpN_le (tgt := 17) hx hb (by omega) (by omega) dX8_take_12 (by decide) (fun h1 => ?_) (fun h1 => ?_)
  · refine lv_iconst (v := nI 0) hx hb dX8_take_17 (by decide) ?_
    refine lv_istore_n (lv' := [(1, .int (nI 0)), (0, .ref h)]) hx hb dX8_take_18 rfl hl (by decide) rfl (fun ls hl => ?_)
    refine w_loop (ι := Nat) (fun k => os - k) (fun k => k ≤ os) (fun k => [(h, .inr (7, mO a rd mn tp os ty sz)), (a 27, .inl (G.2.2.1, 400, .inl (fa tp k (fun j_ => bN (fo j_)) ft))), (a 29, .inl (G.2.2.1, 416, .inl fo))]) (fun k => [(1, .int (nI k)), (0, .ref h)]) 0 (by omega) (by simp only [fa_0]; exact hP) (by simp only [fa_0]; exact hD) hS hl ?_
    intro k H locs ls hk hP hD hS hl ih
    have hk : k ≤ os := hk
    have hP : va_P G.1 vwCl [(h, .inr (7, mO a rd mn tp os ty sz)), (a 27, .inl (G.2.2.1, 400, .inl (fa tp k (fun j_ => bN (fo j_)) ft))), (a 29, .inl (G.2.2.1, 416, .inl fo))] H := hP
    have hD : va_D A [(h, .inr (7, mO a rd mn tp os ty sz)), (a 27, .inl (G.2.2.1, 400, .inl (fa tp k (fun j_ => bN (fo j_)) ft))), (a 29, .inl (G.2.2.1, 416, .inl fo))] := hD
    have hl : lv_has ls 2 [(1, .int (nI k)), (0, .ref h)] := hl
    refine lv_iload_n hx hb dX8_take_19 rfl (lv_at hl 0 rfl) ?_
    refine lv_aload_n hx hb dX8_take_20 rfl (lv_at hl 1 rfl) ?_
    refine va_get (D := G.1) (ci := 7) (v := .int (nI os)) (C := RX8) (T := TX8) (N := 35) hx hb hts hinX8 hown hK hP 0 rfl rfl 30 (by decide) (hts (.fieldLink RX8 251 "CipherBoxModel" "outSize" "I") (by decide +kernel)) (fun _ h9 => h9) rfl dX8_take_21 ?_
    refine w_icmpN_ge (tgt := 50) hx hb (by omega) (by omega) dX8_take_24 (by decide) (fun h2 => ?_) (fun h2 => ?_)
    · obtain rfl : os = k := Eq.symm (show k = os from by omega)
      refine lv_aload_n hx hb dX8_take_50 rfl (lv_at hl 1 rfl) ?_
      refine lv_dup hx hb dX8_take_51 rfl ?_
      refine va_get (D := G.1) (ci := 7) (v := .int (nI tp)) (C := RX8) (T := TX8) (N := 35) hx hb hts hinX8 hown hK hP 0 rfl rfl 28 (by decide) (hts (.fieldLink RX8 245 "CipherBoxModel" "taped" "I") (by decide +kernel)) (fun _ h9 => h9) rfl dX8_take_52 ?_
      refine lv_aload_n hx hb dX8_take_55 rfl (lv_at hl 1 rfl) ?_
      refine va_get (D := G.1) (ci := 7) (v := .int (nI os)) (C := RX8) (T := TX8) (N := 35) hx hb hts hinX8 hown hK hP 0 rfl rfl 30 (by decide) (hts (.fieldLink RX8 251 "CipherBoxModel" "outSize" "I") (by decide +kernel)) (fun _ h9 => h9) rfl dX8_take_56 ?_
      refine w_iaddN hx hb dX8_take_59 ?_
      refine va_put (D := G.1) (ci := 7) (v := .int (nI (tp + os))) (ty := .int) (C := RX8) (T := TX8) (N := 35) hx hb hts hinX8 tyX8 tyX8_ok nmX8 hown hK hP hD hS 0 rfl rfl 28 (by decide) (hts (.fieldLink RX8 245 "CipherBoxModel" "taped" "I") (by decide +kernel)) (fun _ h9 => h9) rfl (by decide +kernel) rfl rfl (Nat.le_of_ble_eq_true rfl) dX8_take_60 (fun H locs hP hD hS => ?_)
      have hP : va_P G.1 vwCl [(h, .inr (7, mO a rd mn (tp + os) os ty sz)), (a 27, .inl (G.2.2.1, 400, .inl (fa tp os (fun j_ => bN (fo j_)) ft))), (a 29, .inl (G.2.2.1, 416, .inl fo))] H := hP
      have hD : va_D A [(h, .inr (7, mO a rd mn (tp + os) os ty sz)), (a 27, .inl (G.2.2.1, 400, .inl (fa tp os (fun j_ => bN (fo j_)) ft))), (a 29, .inl (G.2.2.1, 416, .inl fo))] := hD
      refine lv_aload_n hx hb dX8_take_63 rfl (lv_at hl 1 rfl) ?_
      refine va_get (D := G.1) (ci := 7) (v := .int (nI (tp + os))) (C := RX8) (T := TX8) (N := 35) hx hb hts hinX8 hown hK hP 0 rfl rfl 28 (by decide) (hts (.fieldLink RX8 245 "CipherBoxModel" "taped" "I") (by decide +kernel)) (fun _ h9 => h9) rfl dX8_take_64 ?_
      exact hret (nI (tp + os)) () H _ 67 ls dX8_take_67 (rfl) (hP.sub [0, 1, 2] rfl) (hD.sub [0, 1, 2] (by decide) rfl) hS
    · refine lv_aload_n hx hb dX8_take_27 rfl (lv_at hl 1 rfl) ?_
      refine va_get (D := G.1) (ci := 7) (v := .ref (a 27)) (C := RX8) (T := TX8) (N := 35) hx hb hts hinX8 hown hK hP 0 rfl rfl 27 (by decide) (hts (.fieldLink RX8 227 "CipherBoxModel" "tape" "[B") (by decide +kernel)) (fun _ h9 => h9) rfl dX8_take_28 ?_
      refine lv_aload_n hx hb dX8_take_31 rfl (lv_at hl 1 rfl) ?_
      refine va_get (D := G.1) (ci := 7) (v := .int (nI tp)) (C := RX8) (T := TX8) (N := 35) hx hb hts hinX8 hown hK hP 0 rfl rfl 28 (by decide) (hts (.fieldLink RX8 245 "CipherBoxModel" "taped" "I") (by decide +kernel)) (fun _ h9 => h9) rfl dX8_take_32 ?_
      refine lv_iload_n hx hb dX8_take_35 rfl (lv_at hl 0 rfl) ?_
      refine w_iaddN hx hb dX8_take_36 ?_
      refine lv_aload_n hx hb dX8_take_37 rfl (lv_at hl 1 rfl) ?_
      refine va_get (D := G.1) (ci := 7) (v := .ref (a 29)) (C := RX8) (T := TX8) (N := 35) hx hb hts hinX8 hown hK hP 0 rfl rfl 29 (by decide) (hts (.fieldLink RX8 230 "CipherBoxModel" "out" "[B") (by decide +kernel)) (fun _ h9 => h9) rfl dX8_take_38 ?_
      refine lv_iload_n hx hb dX8_take_41 rfl (lv_at hl 0 rfl) ?_
      refine w_bald hx hb hK hP 2 rfl (by omega) (by omega) dX8_take_42 ?_
      refine w_bast hx hb hK hP hD hS 1 rfl (by omega) (by omega) (fa tp (k + 1) (fun j_ => bN (fo j_)) ft) (fa_s rfl) dX8_take_43 (fun H locs hP hD hS => ?_)
      have hP : va_P G.1 vwCl [(h, .inr (7, mO a rd mn tp os ty sz)), (a 27, .inl (G.2.2.1, 400, .inl (fa tp (k + 1) (fun j_ => bN (fo j_)) ft))), (a 29, .inl (G.2.2.1, 416, .inl fo))] H := hP
      have hD : va_D A [(h, .inr (7, mO a rd mn tp os ty sz)), (a 27, .inl (G.2.2.1, 400, .inl (fa tp (k + 1) (fun j_ => bN (fo j_)) ft))), (a 29, .inl (G.2.2.1, 416, .inl fo))] := hD
      refine lv_iinc (v := nI (k + 1)) (lv' := [(1, .int (nI (k + 1))), (0, .ref h)]) hx hb dX8_take_44 hl (k := 0) rfl (nI_add k 1) (by decide) rfl (fun ls hl => ?_)
      refine lv_goto (tgt := 19) hx hb dX8_take_47 (by decide) ?_
      exact ih (k + 1) H _ _ (by omega) (by omega) hP hD hS (lv_sub hl [0, 1] rfl)
  · exact absurd h1 (by omega)

set_option maxHeartbeats 4000000 in
set_option maxRecDepth 100000 in
theorem c_m_take_no (l : Launch) (G : wG) (h : Nat) (a : Nat → Nat) (rd mn tp os : Nat) (ty : Int32) (sz : Nat) (ht : 400 < tp + os) (ht2 : tp ≤ 400) (ht3 : os ≤ 400) : CMi l G yX8_take wsX8_take 0 0 [.ref h] [(h, .inr (7, mO a rd mn tp os ty sz))] (fun r (_ : Unit) => r = (-1)) (fun _ => [(h, .inr (7, mO a rd mn tp os ty sz))]) := by
  refine CMi.start cX8_take 2 .int (by decide) rfl (Nat.le_of_ble_eq_true rfl) (fun r u h => vp_nar_int r) ?_
  intro p e s m below meth c A Q ls H locs hx hb hml hown hts hK hT hA hP hD hS hl hret
  have hinX8 : ∀ w ∈ u_ws RX8 TX8 35, w ∈ wsX8_take := by decide +kernel
  have hl : lv_has ls 2 [(0, .ref h)] := hl
  refine lv_aload_n hx hb dX8_take_0 rfl (lv_at hl 0 rfl) ?_
  refine va_get (D := G.1) (ci := 7) (v := .int (nI tp)) (C := RX8) (T := TX8) (N := 35) hx hb hts hinX8 hown hK hP 0 rfl rfl 28 (by decide) (hts (.fieldLink RX8 245 "CipherBoxModel" "taped" "I") (by decide +kernel)) (fun _ h9 => h9) rfl dX8_take_1 ?_
  refine lv_aload_n hx hb dX8_take_4 rfl (lv_at hl 0 rfl) ?_
  refine va_get (D := G.1) (ci := 7) (v := .int (nI os)) (C := RX8) (T := TX8) (N := 35) hx hb hts hinX8 hown hK hP 0 rfl rfl 30 (by decide) (hts (.fieldLink RX8 251 "CipherBoxModel" "outSize" "I") (by decide +kernel)) (fun _ h9 => h9) rfl dX8_take_5 ?_
  refine w_iaddN hx hb dX8_take_8 ?_
  refine lv_sipush (v := nI 400) hx hb dX8_take_9 (by decide) ?_
  refine w_icmpN_le (tgt := 17) hx hb (by omega) (by omega) dX8_take_12 (by decide) (fun h1 => ?_) (fun h1 => ?_)
  · exact absurd h1 (by omega)
  · refine lv_iconst (v := (-1)) hx hb dX8_take_15 (by decide) ?_
    exact hret (-1) () H _ 16 ls dX8_take_16 (rfl) (hP.sub [0] rfl) (hD.sub [0] (by decide) rfl) hS

set_option maxHeartbeats 4000000 in
set_option maxRecDepth 100000 in
theorem c_m_use (l : Launch) (G : wG) (h : Nat) (a : Nat → Nat) (rd mn tp os : Nat) (ty : Int32) (sz : Nat)  : CMi l G yX8_use wsX8_use 0 0 [.ref h] [(h, .inr (7, mO a rd mn tp os ty sz))] (fun r (_ : Unit) => r = nI tp) (fun _ => [(h, .inr (7, mO a rd mn 0 os ty sz))]) := by
  refine CMi.start cX8_use 2 .int (by decide) rfl (Nat.le_of_ble_eq_true rfl) (fun r u h => vp_nar_int r) ?_
  intro p e s m below meth c A Q ls H locs hx hb hml hown hts hK hT hA hP hD hS hl hret
  have hinX8 : ∀ w ∈ u_ws RX8 TX8 35, w ∈ wsX8_use := by decide +kernel
  have hl : lv_has ls 2 [(0, .ref h)] := hl
  refine lv_aload_n hx hb dX8_use_0 rfl (lv_at hl 0 rfl) ?_
  refine va_get (D := G.1) (ci := 7) (v := .int (nI tp)) (C := RX8) (T := TX8) (N := 35) hx hb hts hinX8 hown hK hP 0 rfl rfl 28 (by decide) (hts (.fieldLink RX8 245 "CipherBoxModel" "taped" "I") (by decide +kernel)) (fun _ h9 => h9) rfl dX8_use_1 ?_
  refine lv_istore_n (lv' := [(1, .int (nI tp)), (0, .ref h)]) hx hb dX8_use_4 rfl hl (by decide) rfl (fun ls hl => ?_)
  refine lv_aload_n hx hb dX8_use_5 rfl (lv_at hl 1 rfl) ?_
  refine lv_iconst (v := nI 0) hx hb dX8_use_6 (by decide) ?_
  refine va_put (D := G.1) (ci := 7) (v := .int (nI 0)) (ty := .int) (C := RX8) (T := TX8) (N := 35) hx hb hts hinX8 tyX8 tyX8_ok nmX8 hown hK hP hD hS 0 rfl rfl 28 (by decide) (hts (.fieldLink RX8 245 "CipherBoxModel" "taped" "I") (by decide +kernel)) (fun _ h9 => h9) rfl (by decide +kernel) rfl rfl (Nat.le_of_ble_eq_true rfl) dX8_use_7 (fun H locs hP hD hS => ?_)
  have hP : va_P G.1 vwCl [(h, .inr (7, mO a rd mn 0 os ty sz))] H := hP
  have hD : va_D A [(h, .inr (7, mO a rd mn 0 os ty sz))] := hD
  refine lv_iload_n hx hb dX8_use_10 rfl (lv_at hl 0 rfl) ?_
  exact hret (nI tp) () H _ 11 ls dX8_use_11 (rfl) (hP.sub [0] rfl) (hD.sub [0] (by decide) rfl) hS

set_option maxHeartbeats 4000000 in
set_option maxRecDepth 100000 in
theorem c_m_begin_ok (l : Launch) (G : wG) (h : Nat) (a : Nat → Nat) (rd mn tp os : Nat) (ty : Int32) (sz : Nat) (ft fg : Nat → Int32) (ht : tp = 16) : CMi l G yX8_begin wsX8_begin 1 21 [.ref h] [(h, .inr (7, mO a rd mn tp os ty sz)), (a 27, .inl (G.2.2.1, 400, .inl ft)), (a 34, .inl (G.2.2.1, 16, .inl fg))] (fun r (_ : Unit) => r = nI 1) (fun _ => [(h, .inr (7, mO a rd mn 0 os ty sz)), (a 27, .inl (G.2.2.1, 400, .inl ft)), (a 34, .inl (G.2.2.1, 16, .inl (fun j_ => bN (ft j_))))]) := by
  refine CMi.start cX8_begin 3 .int (by decide) rfl (Nat.le_of_ble_eq_true rfl) (fun r u h => vp_nar_int r) ?_
  intro p e s m below meth c A Q ls H locs hx hb hml hown hts hK hT hA hP hD hS hl hret
  have hinX8 : ∀ w ∈ u_ws RX8 TX8 35, w ∈ wsX8_begin := by decide +kernel
  have hl : lv_has ls 3 [(0, .ref h)] := hl
  refine lv_aload_n hx hb dX8_begin_0 rfl (lv_at hl 0 rfl) ?_
  refine w_fini (wr := [(a 27, .inl (G.2.2.1, 400, .inl ft)), (a 34, .inl (G.2.2.1, 16, .inl fg))]) (va_runV (As := []) (rest := []) ⟨hx, hb, hml, hown, hts⟩ (c_m_use l G h a rd mn tp os ty sz H.size) (cwV 0 hts gX8_begin_X8_use rfl rfl rfl (by decide +kernel) ⟨Nat.le_of_ble_eq_true rfl, Nat.le_of_ble_eq_true rfl⟩) ⟨wPre.blind, (va_recv hK hP (ci := 7) (q0 := 0) rfl rfl), (fun U hU hW => ⟨rfl, w_pre hK hT hA hP hD hS (isC := [0]) (by decide) rfl U hU hW⟩)⟩ rfl rfl hl.1 rfl (lv_room (Nat.le_of_ble_eq_true rfl)) dX8_begin_1 ⟨Nat.le_of_ble_eq_true rfl, Nat.le_of_ble_eq_true rfl⟩) hA hP hD hS [0] [1, 2] rfl rfl (by decide) (by decide) (fun r u H locs hpost hP hD hS => ?_)
  obtain rfl := hpost
  have hP : va_P G.1 vwCl [(a 27, .inl (G.2.2.1, 400, .inl ft)), (a 34, .inl (G.2.2.1, 16, .inl fg)), (h, .inr (7, mO a rd mn 0 os ty sz))] H := hP
  have hD : va_D A [(a 27, .inl (G.2.2.1, 400, .inl ft)), (a 34, .inl (G.2.2.1, 16, .inl fg)), (h, .inr (7, mO a rd mn 0 os ty sz))] := hD
  refine lv_istore_n (lv' := [(1, .int (nI tp)), (0, .ref h)]) hx hb dX8_begin_4 rfl hl (by decide) rfl (fun ls hl => ?_)
  refine lv_iload_n hx hb dX8_begin_5 rfl (lv_at hl 0 rfl) ?_
  refine lv_bipush (v := nI 16) hx hb dX8_begin_6 (by decide) ?_
  refine w_icmpN_eq (tgt := 13) hx hb (by omega) (by omega) dX8_begin_8 (by decide) (fun h1 => ?_) (fun h1 => ?_)
  · refine lv_iconst (v := nI 0) hx hb dX8_begin_13 (by decide) ?_
    refine lv_istore_n (lv' := [(2, .int (nI 0)), (1, .int (nI tp)), (0, .ref h)]) hx hb dX8_begin_14 rfl hl (by decide) rfl (fun ls hl => ?_)
    refine w_loop (ι := Nat) (fun k => 16 - k) (fun k => k ≤ 16) (fun k => [(a 27, .inl (G.2.2.1, 400, .inl ft)), (a 34, .inl (G.2.2.1, 16, .inl (fl k (fun j_ => bN (ft j_)) fg))), (h, .inr (7, mO a rd mn 0 os ty sz))]) (fun k => [(2, .int (nI k)), (1, .int (nI tp)), (0, .ref h)]) 0 (by omega) (by simp only [fl_0]; exact hP) (by simp only [fl_0]; exact hD) hS hl ?_
    intro k H locs ls hk hP hD hS hl ih
    have hk : k ≤ 16 := hk
    have hP : va_P G.1 vwCl [(a 27, .inl (G.2.2.1, 400, .inl ft)), (a 34, .inl (G.2.2.1, 16, .inl (fl k (fun j_ => bN (ft j_)) fg))), (h, .inr (7, mO a rd mn 0 os ty sz))] H := hP
    have hD : va_D A [(a 27, .inl (G.2.2.1, 400, .inl ft)), (a 34, .inl (G.2.2.1, 16, .inl (fl k (fun j_ => bN (ft j_)) fg))), (h, .inr (7, mO a rd mn 0 os ty sz))] := hD
    have hl : lv_has ls 3 [(2, .int (nI k)), (1, .int (nI tp)), (0, .ref h)] := hl
    refine lv_iload_n hx hb dX8_begin_15 rfl (lv_at hl 0 rfl) ?_
    refine lv_bipush (v := nI 16) hx hb dX8_begin_16 (by decide) ?_
    refine w_icmpN_ge (tgt := 39) hx hb (by omega) (by omega) dX8_begin_18 (by decide) (fun h2 => ?_) (fun h2 => ?_)
    · obtain rfl : 16 = k := Eq.symm (show k = 16 from by omega)
      refine lv_iconst (v := nI 1) hx hb dX8_begin_39 (by decide) ?_
      have hP := w_ext (fl 16 (fun j_ => bN (ft j_)) fg) (fun j_ => bN (ft j_)) 1 hP rfl (fun j hj => fl_in hj)
      have hD := hD.set (p := 1) (e := .inl (G.2.2.1, 16, .inl (fun j_ => bN (ft j_)))) rfl
      have hP : va_P G.1 vwCl [(a 27, .inl (G.2.2.1, 400, .inl ft)), (a 34, .inl (G.2.2.1, 16, .inl (fun j_ => bN (ft j_)))), (h, .inr (7, mO a rd mn 0 os ty sz))] H := hP
      have hD : va_D A [(a 27, .inl (G.2.2.1, 400, .inl ft)), (a 34, .inl (G.2.2.1, 16, .inl (fun j_ => bN (ft j_)))), (h, .inr (7, mO a rd mn 0 os ty sz))] := hD
      exact hret (nI 1) () H _ 40 ls dX8_begin_40 (rfl) (hP.sub [2, 0, 1] rfl) (hD.sub [2, 0, 1] (by decide) rfl) hS
    · refine lv_aload_n hx hb dX8_begin_21 rfl (lv_at hl 2 rfl) ?_
      refine va_get (D := G.1) (ci := 7) (v := .ref (a 34)) (C := RX8) (T := TX8) (N := 35) hx hb hts hinX8 hown hK hP 2 rfl rfl 34 (by decide) (hts (.fieldLink RX8 239 "CipherBoxModel" "begin" "[B") (by decide +kernel)) (fun _ h9 => h9) rfl dX8_begin_22 ?_
      refine lv_iload_n hx hb dX8_begin_25 rfl (lv_at hl 0 rfl) ?_
      refine lv_aload_n hx hb dX8_begin_26 rfl (lv_at hl 2 rfl) ?_
      refine va_get (D := G.1) (ci := 7) (v := .ref (a 27)) (C := RX8) (T := TX8) (N := 35) hx hb hts hinX8 hown hK hP 2 rfl rfl 27 (by decide) (hts (.fieldLink RX8 227 "CipherBoxModel" "tape" "[B") (by decide +kernel)) (fun _ h9 => h9) rfl dX8_begin_27 ?_
      refine lv_iload_n hx hb dX8_begin_30 rfl (lv_at hl 0 rfl) ?_
      refine w_bald hx hb hK hP 0 rfl (by omega) (by omega) dX8_begin_31 ?_
      refine w_bast hx hb hK hP hD hS 1 rfl (by omega) (by omega) (fl (k + 1) (fun j_ => bN (ft j_)) fg) (fl_s rfl) dX8_begin_32 (fun H locs hP hD hS => ?_)
      have hP : va_P G.1 vwCl [(a 27, .inl (G.2.2.1, 400, .inl ft)), (a 34, .inl (G.2.2.1, 16, .inl (fl (k + 1) (fun j_ => bN (ft j_)) fg))), (h, .inr (7, mO a rd mn 0 os ty sz))] H := hP
      have hD : va_D A [(a 27, .inl (G.2.2.1, 400, .inl ft)), (a 34, .inl (G.2.2.1, 16, .inl (fl (k + 1) (fun j_ => bN (ft j_)) fg))), (h, .inr (7, mO a rd mn 0 os ty sz))] := hD
      refine lv_iinc (v := nI (k + 1)) (lv' := [(2, .int (nI (k + 1))), (1, .int (nI tp)), (0, .ref h)]) hx hb dX8_begin_33 hl (k := 0) rfl (nI_add k 1) (by decide) rfl (fun ls hl => ?_)
      refine lv_goto (tgt := 15) hx hb dX8_begin_36 (by decide) ?_
      exact ih (k + 1) H _ _ (by omega) (by omega) hP hD hS (lv_sub hl [0, 1, 2] rfl)
  · exact absurd ht h1

set_option maxHeartbeats 4000000 in
set_option maxRecDepth 100000 in
theorem c_m_begin_no (l : Launch) (G : wG) (h : Nat) (a : Nat → Nat) (rd mn tp os : Nat) (ty : Int32) (sz : Nat) (ht : tp ≠ 16) (ht2 : tp ≤ 400) : CMi l G yX8_begin wsX8_begin 1 21 [.ref h] [(h, .inr (7, mO a rd mn tp os ty sz))] (fun r (_ : Unit) => r = (-1)) (fun _ => [(h, .inr (7, mO a rd mn 0 os ty sz))]) := by
  refine CMi.start cX8_begin 3 .int (by decide) rfl (Nat.le_of_ble_eq_true rfl) (fun r u h => vp_nar_int r) ?_
  intro p e s m below meth c A Q ls H locs hx hb hml hown hts hK hT hA hP hD hS hl hret
  have hl : lv_has ls 3 [(0, .ref h)] := hl
  refine lv_aload_n hx hb dX8_begin_0 rfl (lv_at hl 0 rfl) ?_
  refine w_fini (wr := []) (va_runV (As := []) (rest := []) ⟨hx, hb, hml, hown, hts⟩ (c_m_use l G h a rd mn tp os ty sz H.size) (cwV 0 hts gX8_begin_X8_use rfl rfl rfl (by decide +kernel) ⟨Nat.le_of_ble_eq_true rfl, Nat.le_of_ble_eq_true rfl⟩) ⟨wPre.blind, (va_recv hK hP (ci := 7) (q0 := 0) rfl rfl), (fun U hU hW => ⟨rfl, w_pre hK hT hA hP hD hS (isC := [0]) (by decide) rfl U hU hW⟩)⟩ rfl rfl hl.1 rfl (lv_room (Nat.le_of_ble_eq_true rfl)) dX8_begin_1 ⟨Nat.le_of_ble_eq_true rfl, Nat.le_of_ble_eq_true rfl⟩) hA hP hD hS [0] [] rfl rfl (by decide) (by decide) (fun r u H locs hpost hP hD hS => ?_)
  obtain rfl := hpost
  have hP : va_P G.1 vwCl [(h, .inr (7, mO a rd mn 0 os ty sz))] H := hP
  have hD : va_D A [(h, .inr (7, mO a rd mn 0 os ty sz))] := hD
  refine lv_istore_n (lv' := [(1, .int (nI tp)), (0, .ref h)]) hx hb dX8_begin_4 rfl hl (by decide) rfl (fun ls hl => ?_)
  refine lv_iload_n hx hb dX8_begin_5 rfl (lv_at hl 0 rfl) ?_
  refine lv_bipush (v := nI 16) hx hb dX8_begin_6 (by decide) ?_
  refine w_icmpN_eq (tgt := 13) hx hb (by omega) (by omega) dX8_begin_8 (by decide) (fun h1 => ?_) (fun h1 => ?_)
  · exact absurd h1 ht
  · refine lv_iconst (v := (-1)) hx hb dX8_begin_11 (by decide) ?_
    exact hret (-1) () H _ 12 ls dX8_begin_12 (rfl) (hP.sub [0] rfl) (hD.sub [0] (by decide) rfl) hS
