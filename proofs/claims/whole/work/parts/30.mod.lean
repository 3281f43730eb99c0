/-! the model: its object (a: where its rows lie), its buffer, SHA-256 -/
def mO (a : Nat → Nat) (rd mn tp os : Nat) (ty : Int32) (sz : Nat) : List Value := [.ref (a 0), .ref (a 1), .ref (a 2), .ref (a 3), .ref (a 4), .ref (a 5), .ref (a 6), .ref (a 7), .ref (a 8), .ref (a 9), .ref (a 10), .ref (a 11), .ref (a 12), .ref (a 13), .ref (a 14), .ref (a 15), .ref (a 16), .int (nI rd), .ref (a 18), .ref (a 19), .ref (a 20), .ref (a 21), .ref (a 22), .int (nI mn), .ref (a 24), .ref (a 25), .ref (a 26), .ref (a 27), .int (nI tp), .ref (a 29), .int (nI os), .int ty, .int (nI sz), .ref (a 33), .ref (a 34)]
set_option maxHeartbeats 4000000 in
set_option maxRecDepth 100000 in
theorem c_m_start (l : Launch) (G : wG) (h : Nat) (a : Nat → Nat) (rd mn tp os : Nat) (ty : Int32) (sz : Nat)  : CMv l G yX8_start wsX8_start 0 0 0 0 [.ref h] [(h, .inr (7, mO a rd mn tp os ty sz))] (fun (_ : Unit) => True) (fun _ => [(h, .inr (7, mO a rd 0 tp os ty sz))]) := by
  refine CMv.start cX8_start 1 (by decide) rfl (Nat.le_of_ble_eq_true rfl) ?_
  intro p e s m below meth c A Q ls H locs hx hb hml hown hnm hts hK hT hA hP hD hS hl hret
  have hinX8 : ∀ w ∈ u_ws RX8 TX8 35, w ∈ wsX8_start := by decide +kernel
  have hl : lv_has ls 1 [(0, .ref h)] := hl
  refine lv_aload_n hx hb dX8_start_0 rfl (lv_at hl 0 rfl) ?_
  refine lv_iconst (v := nI 0) hx hb dX8_start_1 (by decide) ?_
  refine va_put (D := G.1) (ci := 7) (v := .int (nI 0)) (ty := .int) (C := RX8) (T := TX8) (N := 35) hx hb hts hinX8 tyX8 tyX8_ok nmX8 hown hK hP hD hS 0 rfl rfl 23 (by decide) (hts (.fieldLink RX8 81 "CipherBoxModel" "mn" "I") (by decide +kernel)) (fun _ h9 => h9) rfl (by decide +kernel) rfl rfl (Nat.le_of_ble_eq_true rfl) dX8_start_2 (fun H locs hP hD hS => ?_)
  have hP : va_P G.1 vwCl [(h, .inr (7, mO a rd 0 tp os ty sz))] H := hP
  have hD : va_D A [(h, .inr (7, mO a rd 0 tp os ty sz))] := hD
  exact hret () H _ 5 ls dX8_start_5 (trivial) (hP.sub [0] rfl) (hD.sub [0] (by decide) rfl) hS

set_option maxHeartbeats 4000000 in
set_option maxRecDepth 100000 in
theorem c_m_add (l : Launch) (G : wG) (h : Nat) (a : Nat → Nat) (rd mn tp os : Nat) (ty : Int32) (sz : Nat) (fm : Nat → Int32) (v : Int32) (hm : mn < 700) : CMv l G yX8_add wsX8_add 0 0 0 0 [.ref h, .int v] [(h, .inr (7, mO a rd mn tp os ty sz)), (a 22, .inl (G.2.2.1, 700, .inl fm))] (fun (_ : Unit) => True) (fun _ => [(h, .inr (7, mO a rd (mn + 1) tp os ty sz)), (a 22, .inl (G.2.2.1, 700, .inl (upd fm mn (bN v))))]) := by
  refine CMv.start cX8_add 2 (by decide) rfl (Nat.le_of_ble_eq_true rfl) ?_
  intro p e s m below meth c A Q ls H locs hx hb hml hown hnm hts hK hT hA hP hD hS hl hret
  have hinX8 : ∀ w ∈ u_ws RX8 TX8 35, w ∈ wsX8_add := by decide +kernel
  have hl : lv_has ls 2 [(0, .ref h), (1, .int v)] := hl
  refine lv_aload_n hx hb dX8_add_0 rfl (lv_at hl 0 rfl) ?_
  refine va_get (D := G.1) (ci := 7) (v := .ref (a 22)) (C := RX8) (T := TX8) (N := 35) hx hb hts hinX8 hown hK hP 0 rfl rfl 22 (by decide) (hts (.fieldLink RX8 84 "CipherBoxModel" "m" "[B") (by decide +kernel)) (fun _ h9 => h9) rfl dX8_add_1 ?_
  refine lv_aload_n hx hb dX8_add_4 rfl (lv_at hl 0 rfl) ?_
  refine va_get (D := G.1) (ci := 7) (v := .int (nI mn)) (C := RX8) (T := TX8) (N := 35) hx hb hts hinX8 hown hK hP 0 rfl rfl 23 (by decide) (hts (.fieldLink RX8 81 "CipherBoxModel" "mn" "I") (by decide +kernel)) (fun _ h9 => h9) rfl dX8_add_5 ?_
  refine lv_iload_n hx hb dX8_add_8 rfl (lv_at hl 1 rfl) ?_
  refine lv_i2b (v := bN v) hx hb dX8_add_9 rfl ?_
  refine w_bast hx hb hK hP hD hS 1 rfl (by omega) (by omega) (upd fm mn (bN v)) (by rw [bN_bN]) dX8_add_10 (fun H locs hP hD hS => ?_)
  have hP : va_P G.1 vwCl [(h, .inr (7, mO a rd mn tp os ty sz)), (a 22, .inl (G.2.2.1, 700, .inl (upd fm mn (bN v))))] H := hP
  have hD : va_D A [(h, .inr (7, mO a rd mn tp os ty sz)), (a 22, .inl (G.2.2.1, 700, .inl (upd fm mn (bN v))))] := hD
  refine lv_aload_n hx hb dX8_add_11 rfl (lv_at hl 0 rfl) ?_
  refine lv_dup hx hb dX8_add_12 rfl ?_
  refine va_get (D := G.1) (ci := 7) (v := .int (nI mn)) (C := RX8) (T := TX8) (N := 35) hx hb hts hinX8 hown hK hP 0 rfl rfl 23 (by decide) (hts (.fieldLink RX8 81 "CipherBoxModel" "mn" "I") (by decide +kernel)) (fun _ h9 => h9) rfl dX8_add_13 ?_
  refine lv_iconst (v := nI 1) hx hb dX8_add_16 (by decide) ?_
  refine w_iaddN hx hb dX8_add_17 ?_
  refine va_put (D := G.1) (ci := 7) (v := .int (nI (mn + 1))) (ty := .int) (C := RX8) (T := TX8) (N := 35) hx hb hts hinX8 tyX8 tyX8_ok nmX8 hown hK hP hD hS 0 rfl rfl 23 (by decide) (hts (.fieldLink RX8 81 "CipherBoxModel" "mn" "I") (by decide +kernel)) (fun _ h9 => h9) rfl (by decide +kernel) rfl rfl (Nat.le_of_ble_eq_true rfl) dX8_add_18 (fun H locs hP hD hS => ?_)
  have hP : va_P G.1 vwCl [(h, .inr (7, mO a rd (mn + 1) tp os ty sz)), (a 22, .inl (G.2.2.1, 700, .inl (upd fm mn (bN v))))] H := hP
  have hD : va_D A [(h, .inr (7, mO a rd (mn + 1) tp os ty sz)), (a 22, .inl (G.2.2.1, 700, .inl (upd fm mn (bN v))))] := hD
  exact hret () H _ 21 ls dX8_add_21 (trivial) (hP.sub [0, 1] rfl) (hD.sub [0, 1] (by decide) rfl) hS

set_option maxHeartbeats 4000000 in
set_option maxRecDepth 100000 in
theorem c_m_addAll (l : Launch) (G : wG) (h : Nat) (a : Nat → Nat) (rd mn tp os : Nat) (ty : Int32) (sz : Nat) (fm : Nat → Int32) (b bn : Nat) (fb : Nat → Int32) (q : Nat) (hm : mn + q ≤ 700) (hq : q ≤ bn) (hb2 : bn < 2 ^ 20) : CMv l G yX8_addAll wsX8_addAll 1 21 0 0 [.ref h, .ref b, .int (nI 0), .int (nI q)] [(h, .inr (7, mO a rd mn tp os ty sz)), (a 22, .inl (G.2.2.1, 700, .inl fm)), (b, .inl (G.2.2.1, bn, .inl fb))] (fun (_ : Unit) => True) (fun _ => [(h, .inr (7, mO a rd (mn + q) tp os ty sz)), (a 22, .inl (G.2.2.1, 700, .inl (fa mn q (fun j_ => bN (fb j_)) fm))), (b, .inl (G.2.2.1, bn, .inl fb))]) := by
  refine CMv.start cX8_addAll 5 (by decide) rfl (Nat.le_of_ble_eq_true rfl) ?_
  intro p e s m below meth c A Q ls H locs hx hb hml hown hnm hts hK hT hA hP hD hS hl hret
  have hl : lv_has ls 5 [(0, .ref h), (1, .ref b), (2, .int (nI 0)), (3, .int (nI q))] := hl
  refine lv_iconst (v := nI 0) hx hb dX8_addAll_0 (by decide) ?_
  refine lv_istore (lv' := [(4, .int (nI 0)), (0, .ref h), (1, .ref b), (2, .int (nI 0)), (3, .int (nI q))]) hx hb dX8_addAll_1 hl (by decide) rfl (fun ls hl => ?_)
  refine w_loop (ι := Nat) (fun k => q - k) (fun k => k ≤ q) (fun k => [(h, .inr (7, mO a rd (mn + k) tp os ty sz)), (a 22, .inl (G.2.2.1, 700, .inl (fa mn k (fun j_ => bN (fb j_)) fm))), (b, .inl (G.2.2.1, bn, .inl fb))]) (fun k => [(4, .int (nI k)), (0, .ref h), (1, .ref b), (2, .int (nI 0)), (3, .int (nI q))]) 0 (by omega) (by simp only [fa_0, Nat.add_zero]; exact hP) (by simp only [fa_0, Nat.add_zero]; exact hD) hS hl ?_
  intro k H locs ls hk hP hD hS hl ih
  have hk : k ≤ q := hk
  have hP : va_P G.1 vwCl [(h, .inr (7, mO a rd (mn + k) tp os ty sz)), (a 22, .inl (G.2.2.1, 700, .inl (fa mn k (fun j_ => bN (fb j_)) fm))), (b, .inl (G.2.2.1, bn, .inl fb))] H := hP
  have hD : va_D A [(h, .inr (7, mO a rd (mn + k) tp os ty sz)), (a 22, .inl (G.2.2.1, 700, .inl (fa mn k (fun j_ => bN (fb j_)) fm))), (b, .inl (G.2.2.1, bn, .inl fb))] := hD
  have hl : lv_has ls 5 [(4, .int (nI k)), (0, .ref h), (1, .ref b), (2, .int (nI 0)), (3, .int (nI q))] := hl
  refine lv_iload hx hb dX8_addAll_3 (lv_at hl 0 rfl) ?_
  refine lv_iload_n hx hb dX8_addAll_5 rfl (lv_at hl 4 rfl) ?_
  refine w_icmpN_ge (tgt := 25) hx hb (by omega) (by omega) dX8_addAll_6 (by decide) (fun h1 => ?_) (fun h1 => ?_)
  · obtain rfl : q = k := Eq.symm (show k = q from by omega)
    exact hret () H _ 25 ls dX8_addAll_25 (trivial) (hP.sub [0, 1, 2] rfl) (hD.sub [0, 1, 2] (by decide) rfl) hS
  · refine lv_aload_n hx hb dX8_addAll_9 rfl (lv_at hl 1 rfl) ?_
    refine lv_aload_n hx hb dX8_addAll_10 rfl (lv_at hl 2 rfl) ?_
    refine lv_iload_n hx hb dX8_addAll_11 rfl (lv_at hl 3 rfl) ?_
    refine lv_iload hx hb dX8_addAll_12 (lv_at hl 0 rfl) ?_
    refine w_iaddN hx hb dX8_addAll_14 ?_
    refine w_top (nI k) (by rw [Nat.zero_add]) ?_
    refine w_bald hx hb hK hP 2 rfl (by omega) (by omega) dX8_addAll_15 ?_
    refine w_finv (wr := [(b, .inl (G.2.2.1, bn, .inl fb))]) (va_runV (As := [.int (fb k)]) (rest := []) ⟨hx, hb, hml, hown, hts⟩ (c_m_add l G h a rd (mn + k) tp os ty sz (fa mn k (fun j_ => bN (fb j_)) fm) (fb k) (by omega) H.size) (cwV 1 hts gX8_addAll_X8_add rfl rfl rfl (by decide +kernel) ⟨Nat.le_of_ble_eq_true rfl, Nat.le_of_ble_eq_true rfl⟩) ⟨wPre.blind, (va_recv hK hP (ci := 7) (q0 := 0) rfl rfl), (fun U hU hW => ⟨rfl, w_pre hK hT hA hP hD hS (isC := [0, 1]) (by decide) rfl U hU hW⟩)⟩ rfl rfl hl.1 rfl (lv_room (Nat.le_of_ble_eq_true rfl)) dX8_addAll_16 ⟨Nat.le_of_ble_eq_true rfl, Nat.le_of_ble_eq_true rfl⟩) hA hP hD hS [0, 1] [2] rfl rfl (by decide) (by decide) (fun u H locs hpost hP hD hS => ?_)
    have hP : va_P G.1 vwCl [(b, .inl (G.2.2.1, bn, .inl fb)), (h, .inr (7, mO a rd ((mn + k) + 1) tp os ty sz)), (a 22, .inl (G.2.2.1, 700, .inl (fa mn (k + 1) (fun j_ => bN (fb j_)) fm)))] H := by have h9 := hP; rw [fa_s (g := fun j_ => bN (fb j_)) rfl] at h9; exact h9
    have hD : va_D A [(b, .inl (G.2.2.1, bn, .inl fb)), (h, .inr (7, mO a rd ((mn + k) + 1) tp os ty sz)), (a 22, .inl (G.2.2.1, 700, .inl (fa mn (k + 1) (fun j_ => bN (fb j_)) fm)))] := by have h9 := hD; rw [fa_s (g := fun j_ => bN (fb j_)) rfl] at h9; exact h9
    refine lv_iinc (v := nI (k + 1)) (lv' := [(4, .int (nI (k + 1))), (0, .ref h), (1, .ref b), (2, .int (nI 0)), (3, .int (nI q))]) hx hb dX8_addAll_19 hl (k := 0) rfl (nI_add k 1) (by decide) rfl (fun ls hl => ?_)
    refine lv_goto (tgt := 3) hx hb dX8_addAll_22 (by decide) ?_
    exact ih (k + 1) H _ _ (by omega) (by omega) (hP.sub [1, 2, 0] rfl) (hD.sub [1, 2, 0] (by decide) rfl) hS (lv_sub hl [0, 1, 2, 3, 4] rfl)

set_option maxHeartbeats 4000000 in
set_option maxRecDepth 100000 in
theorem c_m_turn (l : Launch) (G : wG) (x : Int32) (b : Nat) (hb2 : b < 32) : CMi l G yX8_turn wsX8_turn 0 0 [.int x, .int (nI b)] [] (fun r (_ : Unit) => r = rot b x) (fun _ => []) := by
  refine CMi.start cX8_turn 2 .int (by decide) rfl (Nat.le_of_ble_eq_true rfl) (fun r u h => vp_nar_int r) ?_
  intro p e s m below meth c A Q ls H locs hx hb hml hown hts hK hT hA hP hD hS hl hret
  have hl : lv_has ls 2 [(0, .int x), (1, .int (nI b))] := hl
  refine lv_iload_n hx hb dX8_turn_0 rfl (lv_at hl 0 rfl) ?_
  refine lv_iload_n hx hb dX8_turn_1 rfl (lv_at hl 1 rfl) ?_
  refine lv_iushr (v := ush x (nI b)) hx hb dX8_turn_2 rfl ?_
  refine lv_iload_n hx hb dX8_turn_3 rfl (lv_at hl 0 rfl) ?_
  refine lv_bipush (v := nI 32) hx hb dX8_turn_4 (by decide) ?_
  refine lv_iload_n hx hb dX8_turn_6 rfl (lv_at hl 1 rfl) ?_
  refine w_isubN hx hb (by omega) dX8_turn_7 ?_
  refine lv_ishl hx hb dX8_turn_8 ?_
  refine lv_ior hx hb dX8_turn_9 ?_
  exact hret ((ush x (nI b)) ||| (x <<< ((nI (32 - b)) &&& 31))) () H _ 10 ls dX8_turn_10 (by unfold rot; rw [rot_b b hb2]) (hP.sub [] rfl) (hD.sub [] (by decide) rfl) hS

set_option maxHeartbeats 4000000 in
set_option maxRecDepth 100000 in
theorem c_m_fillUp (l : Launch) (G : wG) (h : Nat) (a : Nat → Nat) (rd mn tp os : Nat) (ty : Int32) (sz : Nat) (fm : Nat → Int32) (B : Nat) (hm : (mn + 1) + pdN B (mn + 1) ≤ 700) (hB : B = 8 ∨ B = 16 ∨ B = 64) : CMv l G yX8_fillUp wsX8_fillUp 1 21 0 0 [.ref h, .int (nI B)] [(h, .inr (7, mO a rd mn tp os ty sz)), (a 22, .inl (G.2.2.1, 700, .inl fm))] (fun (_ : Unit) => True) (fun _ => [(h, .inr (7, mO a rd ((mn + 1) + pdN B (mn + 1)) tp os ty sz)), (a 22, .inl (G.2.2.1, 700, .inl (fa (mn + 1) (pdN B (mn + 1)) (fun j_ => bN (nI 0)) (upd fm mn (bN (nI 128))))))]) := by
  refine CMv.start cX8_fillUp 2 (by decide) rfl (Nat.le_of_ble_eq_true rfl) ?_
  intro p e s m below meth c A Q ls H locs hx hb hml hown hnm hts hK hT hA hP hD hS hl hret
  have hinX8 : ∀ w ∈ u_ws RX8 TX8 35, w ∈ wsX8_fillUp := by decide +kernel
  have hl : lv_has ls 2 [(0, .ref h), (1, .int (nI B))] := hl
  have hB1 : 0 < B := by omega
  have hB2 : B < 2 ^ 31 := by omega
  have hpd : pdN B (mn + 1) = (B - (mn + 1) % B) % B := rfl
  refine lv_aload_n hx hb dX8_fillUp_0 rfl (lv_at hl 0 rfl) ?_
  refine lv_sipush (v := nI 128) hx hb dX8_fillUp_1 (by decide) ?_
  refine w_finv (wr := []) (va_runV (As := [.int (nI 128)]) (rest := []) ⟨hx, hb, hml, hown, hts⟩ (c_m_add l G h a rd mn tp os ty sz fm (nI 128) (by omega) H.size) (cwV 1 hts gX8_fillUp_X8_add rfl rfl rfl (by decide +kernel) ⟨Nat.le_of_ble_eq_true rfl, Nat.le_of_ble_eq_true rfl⟩) ⟨wPre.blind, (va_recv hK hP (ci := 7) (q0 := 0) rfl rfl), (fun U hU hW => ⟨rfl, w_pre hK hT hA hP hD hS (isC := [0, 1]) (by decide) rfl U hU hW⟩)⟩ rfl rfl hl.1 rfl (lv_room (Nat.le_of_ble_eq_true rfl)) dX8_fillUp_4 ⟨Nat.le_of_ble_eq_true rfl, Nat.le_of_ble_eq_true rfl⟩) hA hP hD hS [0, 1] [] rfl rfl (by decide) (by decide) (fun u H locs hpost hP hD hS => ?_)
  have hP : va_P G.1 vwCl [(h, .inr (7, mO a rd (mn + 1) tp os ty sz)), (a 22, .inl (G.2.2.1, 700, .inl (upd fm mn (bN (nI 128)))))] H := hP
  have hD : va_D A [(h, .inr (7, mO a rd (mn + 1) tp os ty sz)), (a 22, .inl (G.2.2.1, 700, .inl (upd fm mn (bN (nI 128)))))] := hD
  refine w_loop (ι := Nat) (fun k => pdN B (mn + 1) - k) (fun k => k ≤ pdN B (mn + 1)) (fun k => [(h, .inr (7, mO a rd ((mn + 1) + k) tp os ty sz)), (a 22, .inl (G.2.2.1, 700, .inl (fa (mn + 1) k (fun j_ => bN (nI 0)) (upd fm mn (bN (nI 128))))))]) (fun k => [(0, .ref h), (1, .int (nI B))]) 0 (by omega) (by simp only [fa_0, Nat.add_zero]; exact hP) (by simp only [fa_0, Nat.add_zero]; exact hD) hS hl ?_
  intro k H locs ls hk hP hD hS hl ih
  have hk : k ≤ pdN B (mn + 1) := hk
  have hP : va_P G.1 vwCl [(h, .inr (7, mO a rd ((mn + 1) + k) tp os ty sz)), (a 22, .inl (G.2.2.1, 700, .inl (fa (mn + 1) k (fun j_ => bN (nI 0)) (upd fm mn (bN (nI 128))))))] H := hP
  have hD : va_D A [(h, .inr (7, mO a rd ((mn + 1) + k) tp os ty sz)), (a 22, .inl (G.2.2.1, 700, .inl (fa (mn + 1) k (fun j_ => bN (nI 0)) (upd fm mn (bN (nI 128))))))] := hD
  have hl : lv_has ls 2 [(0, .ref h), (1, .int (nI B))] := hl
  refine lv_aload_n hx hb dX8_fillUp_7 rfl (lv_at hl 0 rfl) ?_
  refine va_get (D := G.1) (ci := 7) (v := .int (nI ((mn + 1) + k))) (C := RX8) (T := TX8) (N := 35) hx hb hts hinX8 hown hK hP 0 rfl rfl 23 (by decide) (hts (.fieldLink RX8 81 "CipherBoxModel" "mn" "I") (by decide +kernel)) (fun _ h9 => h9) rfl dX8_fillUp_8 ?_
  refine lv_iload_n hx hb dX8_fillUp_11 rfl (lv_at hl 1 rfl) ?_
  refine w_iremN hx hb (by omega) (by omega) (by omega) dX8_fillUp_12 ?_
  refine w_ifN_eq (tgt := 24) hx hb (Nat.lt_trans (Nat.mod_lt _ hB1) hB2) dX8_fillUp_13 (by decide) (fun h1 => ?_) (fun h1 => ?_)
  · obtain rfl : pdN B (mn + 1) = k := Eq.symm (show k = pdN B (mn + 1) from by rcases hB with rfl | rfl | rfl <;> omega)
    exact hret () H _ 24 ls dX8_fillUp_24 (trivial) (hP.sub [0, 1] rfl) (hD.sub [0, 1] (by decide) rfl) hS
  · refine lv_aload_n hx hb dX8_fillUp_16 rfl (lv_at hl 0 rfl) ?_
    refine lv_iconst (v := nI 0) hx hb dX8_fillUp_17 (by decide) ?_
    refine w_finv (wr := []) (va_runV (As := [.int (nI 0)]) (rest := []) ⟨hx, hb, hml, hown, hts⟩ (c_m_add l G h a rd ((mn + 1) + k) tp os ty sz (fa (mn + 1) k (fun j_ => bN (nI 0)) (upd fm mn (bN (nI 128)))) (nI 0) (by rcases hB with rfl | rfl | rfl <;> omega) H.size) (cwV 1 hts gX8_fillUp_X8_add rfl rfl rfl (by decide +kernel) ⟨Nat.le_of_ble_eq_true rfl, Nat.le_of_ble_eq_true rfl⟩) ⟨wPre.blind, (va_recv hK hP (ci := 7) (q0 := 0) rfl rfl), (fun U hU hW => ⟨rfl, w_pre hK hT hA hP hD hS (isC := [0, 1]) (by decide) rfl U hU hW⟩)⟩ rfl rfl hl.1 rfl (lv_room (Nat.le_of_ble_eq_true rfl)) dX8_fillUp_18 ⟨Nat.le_of_ble_eq_true rfl, Nat.le_of_ble_eq_true rfl⟩) hA hP hD hS [0, 1] [] rfl rfl (by decide) (by decide) (fun u H locs hpost hP hD hS => ?_)
    have hP : va_P G.1 vwCl [(h, .inr (7, mO a rd (((mn + 1) + k) + 1) tp os ty sz)), (a 22, .inl (G.2.2.1, 700, .inl (fa (mn + 1) (k + 1) (fun j_ => bN (nI 0)) (upd fm mn (bN (nI 128))))))] H := by have h9 := hP; rw [fa_s (g := fun j_ => bN (nI 0)) rfl] at h9; exact h9
    have hD : va_D A [(h, .inr (7, mO a rd (((mn + 1) + k) + 1) tp os ty sz)), (a 22, .inl (G.2.2.1, 700, .inl (fa (mn + 1) (k + 1) (fun j_ => bN (nI 0)) (upd fm mn (bN (nI 128))))))] := by have h9 := hD; rw [fa_s (g := fun j_ => bN (nI 0)) rfl] at h9; exact h9
    refine lv_goto (tgt := 7) hx hb dX8_fillUp_21 (by decide) ?_
    exact ih (k + 1) H _ _ (by rcases hB with rfl | rfl | rfl <;> omega) (by rcases hB with rfl | rfl | rfl <;> omega) hP hD hS (lv_sub hl [0, 1] rfl)
