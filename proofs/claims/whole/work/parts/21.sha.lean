/-! the class's SHA-256 -/
theorem tb_9 : tbL 9 = 64 := by decide +kernel
theorem tb_8 : tbL 8 = 8 := by decide +kernel
set_option maxHeartbeats 4000000 in
set_option maxRecDepth 100000 in
theorem c_turnRight (l : Launch) (G : wG) (x : Int32) (b : Nat)  : CMi l G yX7_turnRight wsX7_turnRight 0 0 [.int x, .int (nI b)] [] (fun r (_ : Unit) => r = rot b x) (fun _ => []) := by
  refine CMi.start cX7_turnRight 2 .int (by decide) rfl (Nat.le_of_ble_eq_true rfl) (fun r u h => vp_nar_int r) ?_
  intro p e s m below meth c A Q ls H locs hx hb hml hown hts hK hT hA hP hD hS hl hret
  have hl : lv_has ls 2 [(0, .int x), (1, .int (nI b))] := hl
  refine lv_iload_n hx hb dX7_turnRight_0 rfl (lv_at hl 0 rfl) ?_
  refine lv_iload_n hx hb dX7_turnRight_1 rfl (lv_at hl 1 rfl) ?_
  refine lv_iushr (v := ush x (nI b)) hx hb dX7_turnRight_2 rfl ?_
  refine lv_iload_n hx hb dX7_turnRight_3 rfl (lv_at hl 0 rfl) ?_
  refine lv_iload_n hx hb dX7_turnRight_4 rfl (lv_at hl 1 rfl) ?_
  refine lv_ineg hx hb dX7_turnRight_5 ?_
  refine lv_ishl hx hb dX7_turnRight_6 ?_
  refine lv_ior hx hb dX7_turnRight_7 ?_
  exact hret ((ush x (nI b)) ||| (x <<< ((-(nI b)) &&& 31))) () H _ 8 ls dX7_turnRight_8 (rfl) (hP.sub [] rfl) (hD.sub [] (by decide) rfl) hS

set_option maxHeartbeats 4000000 in
set_option maxRecDepth 100000 in
theorem c_Sha_expand (l : Launch) (G : wG) (h hs hw : Nat) (st w : Nat → Int32) (o ob on oz : Nat) (g : Nat → Int32) (a : Nat) (hoz : oz ≤ on) (hon : on < 2 ^ 31) (ha : a < 2 ^ 20) : CMv l G yX6_expand wsX6_expand 2 42 0 0 [.ref h, .ref o, .int (nI a)] [(h, .inr (5, [.ref hs, .ref hw])), (hs, .inl (G.2.1, 8, .inl st)), (hw, .inl (G.2.1, 64, .inl w)), (o, .inr (4, [.ref ob, .int (nI oz)])), (ob, .inl (G.2.1, on, .inl g))] (fun (_ : Unit) => True) (fun _ => [(h, .inr (5, [.ref hs, .ref hw])), (hs, .inl (G.2.1, 8, .inl st)), (hw, .inl (G.2.1, 64, .inl (shA (fun i_ => mw (rAt g oz) (a + 4 * i_)) 48))), (o, .inr (4, [.ref ob, .int (nI oz)])), (ob, .inl (G.2.1, on, .inl g))]) := by
  refine CMv.start cX6_expand 8 (by decide) rfl (Nat.le_of_ble_eq_true rfl) ?_
  intro p e s m below meth c A Q ls H locs hx hb hml hown hnm hts hK hT hA hP hD hS hl hret
  have hinX6 : ∀ w ∈ u_ws RX6 TX6 2, w ∈ wsX6_expand := by decide +kernel
  have hl : lv_has ls 8 [(0, .ref h), (1, .ref o), (2, .int (nI a))] := hl
  refine lv_iconst (v := nI 0) hx hb dX6_expand_0 (by decide) ?_
  refine lv_istore_n (lv' := [(3, .int (nI 0)), (0, .ref h), (1, .ref o), (2, .int (nI a))]) hx hb dX6_expand_1 rfl hl (by decide) rfl (fun ls hl => ?_)
  refine w_loop (ι := Nat) (fun k => 16 - k) (fun k => k ≤ 16) (fun k => [(h, .inr (5, [.ref hs, .ref hw])), (hs, .inl (G.2.1, 8, .inl st)), (hw, .inl (G.2.1, 64, .inl (fl k (fun i_ => mw (rAt g oz) (a + 4 * i_)) w))), (o, .inr (4, [.ref ob, .int (nI oz)])), (ob, .inl (G.2.1, on, .inl g))]) (fun k => [(3, .int (nI k)), (0, .ref h), (1, .ref o), (2, .int (nI a))]) 0 (by omega) (by simp only [fl_0]; exact hP) (by simp only [fl_0]; exact hD) hS hl ?_
  intro k H locs ls hk hP hD hS hl ih
  have hk : k ≤ 16 := hk
  have hP : va_P G.1 vwCl [(h, .inr (5, [.ref hs, .ref hw])), (hs, .inl (G.2.1, 8, .inl st)), (hw, .inl (G.2.1, 64, .inl (fl k (fun i_ => mw (rAt g oz) (a + 4 * i_)) w))), (o, .inr (4, [.ref ob, .int (nI oz)])), (ob, .inl (G.2.1, on, .inl g))] H := hP
  have hD : va_D A [(h, .inr (5, [.ref hs, .ref hw])), (hs, .inl (G.2.1, 8, .inl st)), (hw, .inl (G.2.1, 64, .inl (fl k (fun i_ => mw (rAt g oz) (a + 4 * i_)) w))), (o, .inr (4, [.ref ob, .int (nI oz)])), (ob, .inl (G.2.1, on, .inl g))] := hD
  have hl : lv_has ls 8 [(3, .int (nI k)), (0, .ref h), (1, .ref o), (2, .int (nI a))] := hl
  refine lv_iload_n hx hb dX6_expand_2 rfl (lv_at hl 0 rfl) ?_
  refine lv_bipush (v := nI 16) hx hb dX6_expand_3 (by decide) ?_
  refine w_icmpN_ge (tgt := 29) hx hb (by omega) (by omega) dX6_expand_5 (by decide) (fun h1 => ?_) (fun h1 => ?_)
  · obtain rfl : 16 = k := Eq.symm (show k = 16 from by omega)
    refine lv_bipush (v := nI 16) hx hb dX6_expand_29 (by decide) ?_
    refine lv_istore_n (lv' := [(3, .int (nI 16)), (0, .ref h), (1, .ref o), (2, .int (nI a))]) hx hb dX6_expand_31 rfl hl (by decide) rfl (fun ls hl => ?_)
    refine w_loop (ι := Nat) (fun k => 48 - k) (fun k => k ≤ 48) (fun k => [(h, .inr (5, [.ref hs, .ref hw])), (hs, .inl (G.2.1, 8, .inl st)), (hw, .inl (G.2.1, 64, .inl (shA (fl 16 (fun i_ => mw (rAt g oz) (a + 4 * i_)) w) k))), (o, .inr (4, [.ref ob, .int (nI oz)])), (ob, .inl (G.2.1, on, .inl g))]) (fun k => [(3, .int (nI (16 + k))), (0, .ref h), (1, .ref o), (2, .int (nI a))]) 0 (by omega) hP hD hS hl ?_
    intro k H locs ls hk hP hD hS hl ih
    have hk : k ≤ 48 := hk
    have hP : va_P G.1 vwCl [(h, .inr (5, [.ref hs, .ref hw])), (hs, .inl (G.2.1, 8, .inl st)), (hw, .inl (G.2.1, 64, .inl (shA (fl 16 (fun i_ => mw (rAt g oz) (a + 4 * i_)) w) k))), (o, .inr (4, [.ref ob, .int (nI oz)])), (ob, .inl (G.2.1, on, .inl g))] H := hP
    have hD : va_D A [(h, .inr (5, [.ref hs, .ref hw])), (hs, .inl (G.2.1, 8, .inl st)), (hw, .inl (G.2.1, 64, .inl (shA (fl 16 (fun i_ => mw (rAt g oz) (a + 4 * i_)) w) k))), (o, .inr (4, [.ref ob, .int (nI oz)])), (ob, .inl (G.2.1, on, .inl g))] := hD
    have hl : lv_has ls 8 [(3, .int (nI (16 + k))), (0, .ref h), (1, .ref o), (2, .int (nI a))] := hl
    refine lv_iload_n hx hb dX6_expand_32 rfl (lv_at hl 0 rfl) ?_
    refine lv_bipush (v := nI 64) hx hb dX6_expand_33 (by decide) ?_
    refine w_icmpN_ge (tgt := 141) hx hb (by omega) (by omega) dX6_expand_35 (by decide) (fun h2 => ?_) (fun h2 => ?_)
    · obtain rfl : 48 = k := Eq.symm (show k = 48 from by omega)
      have hP := w_ext (shA (fl 16 (fun i_ => mw (rAt g oz) (a + 4 * i_)) w) 48) (shA (fun i_ => mw (rAt g oz) (a + 4 * i_)) 48) 2 hP rfl (fun j hj => shA_congr (fun i hi => fl_in hi) 48 j (by omega))
      have hD := hD.set (p := 2) (e := .inl (G.2.1, 64, .inl (shA (fun i_ => mw (rAt g oz) (a + 4 * i_)) 48))) rfl
      have hP : va_P G.1 vwCl [(h, .inr (5, [.ref hs, .ref hw])), (hs, .inl (G.2.1, 8, .inl st)), (hw, .inl (G.2.1, 64, .inl (shA (fun i_ => mw (rAt g oz) (a + 4 * i_)) 48))), (o, .inr (4, [.ref ob, .int (nI oz)])), (ob, .inl (G.2.1, on, .inl g))] H := hP
      have hD : va_D A [(h, .inr (5, [.ref hs, .ref hw])), (hs, .inl (G.2.1, 8, .inl st)), (hw, .inl (G.2.1, 64, .inl (shA (fun i_ => mw (rAt g oz) (a + 4 * i_)) 48))), (o, .inr (4, [.ref ob, .int (nI oz)])), (ob, .inl (G.2.1, on, .inl g))] := hD
      exact hret () H _ 141 ls dX6_expand_141 (trivial) (hP.sub [0, 1, 2, 3, 4] rfl) (hD.sub [0, 1, 2, 3, 4] (by decide) rfl) hS
    · refine lv_aload_n hx hb dX6_expand_38 rfl (lv_at hl 1 rfl) ?_
      refine va_get (D := G.1) (ci := 5) (v := .ref hw) (C := RX6) (T := TX6) (N := 2) hx hb hts hinX6 hown hK hP 0 rfl rfl 1 (by decide) (hts (.fieldLink RX6 13 "CipherBox$Sha256" "words" "[I") (by decide +kernel)) (fun _ h9 => h9) rfl dX6_expand_39 ?_
      refine lv_iload_n hx hb dX6_expand_42 rfl (lv_at hl 0 rfl) ?_
      refine lv_bipush (v := nI 15) hx hb dX6_expand_43 (by decide) ?_
      refine w_isubN hx hb (by omega) dX6_expand_45 ?_
      refine w_iald hx hb hK hP 2 rfl (by omega) (by omega) dX6_expand_46 ?_
      refine lv_istore (lv' := [(4, .int ((shA (fl 16 (fun i_ => mw (rAt g oz) (a + 4 * i_)) w) k) ((16 + k) - 15))), (3, .int (nI (16 + k))), (0, .ref h), (1, .ref o), (2, .int (nI a))]) hx hb dX6_expand_47 hl (by decide) rfl (fun ls hl => ?_)
      refine lv_aload_n hx hb dX6_expand_49 rfl (lv_at hl 2 rfl) ?_
      refine va_get (D := G.1) (ci := 5) (v := .ref hw) (C := RX6) (T := TX6) (N := 2) hx hb hts hinX6 hown hK hP 0 rfl rfl 1 (by decide) (hts (.fieldLink RX6 13 "CipherBox$Sha256" "words" "[I") (by decide +kernel)) (fun _ h9 => h9) rfl dX6_expand_50 ?_
      refine lv_iload_n hx hb dX6_expand_53 rfl (lv_at hl 1 rfl) ?_
      refine lv_iconst (v := nI 2) hx hb dX6_expand_54 (by decide) ?_
      refine w_isubN hx hb (by omega) dX6_expand_55 ?_
      refine w_iald hx hb hK hP 2 rfl (by omega) (by omega) dX6_expand_56 ?_
      refine lv_istore (lv' := [(5, .int ((shA (fl 16 (fun i_ => mw (rAt g oz) (a + 4 * i_)) w) k) ((16 + k) - 2))), (4, .int ((shA (fl 16 (fun i_ => mw (rAt g oz) (a + 4 * i_)) w) k) ((16 + k) - 15))), (3, .int (nI (16 + k))), (0, .ref h), (1, .ref o), (2, .int (nI a))]) hx hb dX6_expand_57 hl (by decide) rfl (fun ls hl => ?_)
      refine lv_iload hx hb dX6_expand_59 (lv_at hl 1 rfl) ?_
      refine lv_bipush (v := nI 7) hx hb dX6_expand_61 (by decide) ?_
      refine w_fini (wr := [(h, .inr (5, [.ref hs, .ref hw])), (hs, .inl (G.2.1, 8, .inl st)), (hw, .inl (G.2.1, 64, .inl (shA (fl 16 (fun i_ => mw (rAt g oz) (a + 4 * i_)) w) k))), (o, .inr (4, [.ref ob, .int (nI oz)])), (ob, .inl (G.2.1, on, .inl g))]) (va_runSN (As := [.int ((shA (fl 16 (fun i_ => mw (rAt g oz) (a + 4 * i_)) w) k) ((16 + k) - 15)), .int (nI 7)]) (rest := []) ⟨hx, hb, hml, hown, hts⟩ (c_turnRight l G ((shA (fl 16 (fun i_ => mw (rAt g oz) (a + 4 * i_)) w) k) ((16 + k) - 15)) 7 H.size) ⟨va_cnB 2 hts gX6_expand_X7_turnRight_n58 rfl rfl rfl hT.2.2.2.2.1 (hts (.initialized RX7) (by decide +kernel)) (by decide +kernel) ⟨Nat.le_of_ble_eq_true rfl, Nat.le_of_ble_eq_true rfl⟩, hts (.static yX7_turnRight) (by decide +kernel), trivial⟩ ⟨wPre.blind, (fun U hU hW => ⟨rfl, w_pre hK hT hA hP hD hS (isC := []) (by decide) rfl U hU hW⟩)⟩ rfl rfl hl.1 rfl (lv_room (Nat.le_of_ble_eq_true rfl)) dX6_expand_63 ⟨Nat.le_of_ble_eq_true rfl, Nat.le_of_ble_eq_true rfl⟩) hA hP hD hS [] [0, 1, 2, 3, 4] rfl rfl (by decide) (by decide) (fun r u H locs hpost hP hD hS => ?_)
      obtain rfl := hpost
      have hP : va_P G.1 vwCl [(h, .inr (5, [.ref hs, .ref hw])), (hs, .inl (G.2.1, 8, .inl st)), (hw, .inl (G.2.1, 64, .inl (shA (fl 16 (fun i_ => mw (rAt g oz) (a + 4 * i_)) w) k))), (o, .inr (4, [.ref ob, .int (nI oz)])), (ob, .inl (G.2.1, on, .inl g))] H := hP
      have hD : va_D A [(h, .inr (5, [.ref hs, .ref hw])), (hs, .inl (G.2.1, 8, .inl st)), (hw, .inl (G.2.1, 64, .inl (shA (fl 16 (fun i_ => mw (rAt g oz) (a + 4 * i_)) w) k))), (o, .inr (4, [.ref ob, .int (nI oz)])), (ob, .inl (G.2.1, on, .inl g))] := hD
      refine lv_iload hx hb dX6_expand_66 (lv_at hl 1 rfl) ?_
      refine lv_bipush (v := nI 18) hx hb dX6_expand_68 (by decide) ?_
      refine w_fini (wr := [(h, .inr (5, [.ref hs, .ref hw])), (hs, .inl (G.2.1, 8, .inl st)), (hw, .inl (G.2.1, 64, .inl (shA (fl 16 (fun i_ => mw (rAt g oz) (a + 4 * i_)) w) k))), (o, .inr (4, [.ref ob, .int (nI oz)])), (ob, .inl (G.2.1, on, .inl g))]) (va_runSN (As := [.int ((shA (fl 16 (fun i_ => mw (rAt g oz) (a + 4 * i_)) w) k) ((16 + k) - 15)), .int (nI 18)]) (rest := [.int (rot 7 ((shA (fl 16 (fun i_ => mw (rAt g oz) (a + 4 * i_)) w) k) ((16 + k) - 15)))]) ⟨hx, hb, hml, hown, hts⟩ (c_turnRight l G ((shA (fl 16 (fun i_ => mw (rAt g oz) (a + 4 * i_)) w) k) ((16 + k) - 15)) 18 H.size) ⟨va_cnB 2 hts gX6_expand_X7_turnRight_n58 rfl rfl rfl hT.2.2.2.2.1 (hts (.initialized RX7) (by decide +kernel)) (by decide +kernel) ⟨Nat.le_of_ble_eq_true rfl, Nat.le_of_ble_eq_true rfl⟩, hts (.static yX7_turnRight) (by decide +kernel), trivial⟩ ⟨wPre.blind, (fun U hU hW => ⟨rfl, w_pre hK hT hA hP hD hS (isC := []) (by decide) rfl U hU hW⟩)⟩ rfl rfl hl.1 rfl (lv_room (Nat.le_of_ble_eq_true rfl)) dX6_expand_70 ⟨Nat.le_of_ble_eq_true rfl, Nat.le_of_ble_eq_true rfl⟩) hA hP hD hS [] [0, 1, 2, 3, 4] rfl rfl (by decide) (by decide) (fun r u H locs hpost hP hD hS => ?_)
      obtain rfl := hpost
      have hP : va_P G.1 vwCl [(h, .inr (5, [.ref hs, .ref hw])), (hs, .inl (G.2.1, 8, .inl st)), (hw, .inl (G.2.1, 64, .inl (shA (fl 16 (fun i_ => mw (rAt g oz) (a + 4 * i_)) w) k))), (o, .inr (4, [.ref ob, .int (nI oz)])), (ob, .inl (G.2.1, on, .inl g))] H := hP
      have hD : va_D A [(h, .inr (5, [.ref hs, .ref hw])), (hs, .inl (G.2.1, 8, .inl st)), (hw, .inl (G.2.1, 64, .inl (shA (fl 16 (fun i_ => mw (rAt g oz) (a + 4 * i_)) w) k))), (o, .inr (4, [.ref ob, .int (nI oz)])), (ob, .inl (G.2.1, on, .inl g))] := hD
      refine lv_ixor hx hb dX6_expand_73 ?_
      refine lv_iload hx hb dX6_expand_74 (lv_at hl 1 rfl) ?_
      refine lv_iconst (v := nI 3) hx hb dX6_expand_76 (by decide) ?_
      refine lv_iushr (v := ush ((shA (fl 16 (fun i_ => mw (rAt g oz) (a + 4 * i_)) w) k) ((16 + k) - 15)) (nI 3)) hx hb dX6_expand_77 rfl ?_
      refine lv_ixor hx hb dX6_expand_78 ?_
      refine lv_istore (lv' := [(6, .int (((rot 7 ((shA (fl 16 (fun i_ => mw (rAt g oz) (a + 4 * i_)) w) k) ((16 + k) - 15))) ^^^ (rot 18 ((shA (fl 16 (fun i_ => mw (rAt g oz) (a + 4 * i_)) w) k) ((16 + k) - 15)))) ^^^ (ush ((shA (fl 16 (fun i_ => mw (rAt g oz) (a + 4 * i_)) w) k) ((16 + k) - 15)) (nI 3)))), (5, .int ((shA (fl 16 (fun i_ => mw (rAt g oz) (a + 4 * i_)) w) k) ((16 + k) - 2))), (4, .int ((shA (fl 16 (fun i_ => mw (rAt g oz) (a + 4 * i_)) w) k) ((16 + k) - 15))), (3, .int (nI (16 + k))), (0, .ref h), (1, .ref o), (2, .int (nI a))]) hx hb dX6_expand_79 hl (by decide) rfl (fun ls hl => ?_)
      refine lv_iload hx hb dX6_expand_81 (lv_at hl 1 rfl) ?_
      refine lv_bipush (v := nI 17) hx hb dX6_expand_83 (by decide) ?_
      refine w_fini (wr := [(h, .inr (5, [.ref hs, .ref hw])), (hs, .inl (G.2.1, 8, .inl st)), (hw, .inl (G.2.1, 64, .inl (shA (fl 16 (fun i_ => mw (rAt g oz) (a + 4 * i_)) w) k))), (o, .inr (4, [.ref ob, .int (nI oz)])), (ob, .inl (G.2.1, on, .inl g))]) (va_runSN (As := [.int ((shA (fl 16 (fun i_ => mw (rAt g oz) (a + 4 * i_)) w) k) ((16 + k) - 2)), .int (nI 17)]) (rest := []) ⟨hx, hb, hml, hown, hts⟩ (c_turnRight l G ((shA (fl 16 (fun i_ => mw (rAt g oz) (a + 4 * i_)) w) k) ((16 + k) - 2)) 17 H.size) ⟨va_cnB 2 hts gX6_expand_X7_turnRight_n58 rfl rfl rfl hT.2.2.2.2.1 (hts (.initialized RX7) (by decide +kernel)) (by decide +kernel) ⟨Nat.le_of_ble_eq_true rfl, Nat.le_of_ble_eq_true rfl⟩, hts (.static yX7_turnRight) (by decide +kernel), trivial⟩ ⟨wPre.blind, (fun U hU hW => ⟨rfl, w_pre hK hT hA hP hD hS (isC := []) (by decide) rfl U hU hW⟩)⟩ rfl rfl hl.1 rfl (lv_room (Nat.le_of_ble_eq_true rfl)) dX6_expand_85 ⟨Nat.le_of_ble_eq_true rfl, Nat.le_of_ble_eq_true rfl⟩) hA hP hD hS [] [0, 1, 2, 3, 4] rfl rfl (by decide) (by decide) (fun r u H locs hpost hP hD hS => ?_)
      obtain rfl := hpost
      have hP : va_P G.1 vwCl [(h, .inr (5, [.ref hs, .ref hw])), (hs, .inl (G.2.1, 8, .inl st)), (hw, .inl (G.2.1, 64, .inl (shA (fl 16 (fun i_ => mw (rAt g oz) (a + 4 * i_)) w) k))), (o, .inr (4, [.ref ob, .int (nI oz)])), (ob, .inl (G.2.1, on, .inl g))] H := hP
      have hD : va_D A [(h, .inr (5, [.ref hs, .ref hw])), (hs, .inl (G.2.1, 8, .inl st)), (hw, .inl (G.2.1, 64, .inl (shA (fl 16 (fun i_ => mw (rAt g oz) (a + 4 * i_)) w) k))), (o, .inr (4, [.ref ob, .int (nI oz)])), (ob, .inl (G.2.1, on, .inl g))] := hD
      refine lv_iload hx hb dX6_expand_88 (lv_at hl 1 rfl) ?_
      refine lv_bipush (v := nI 19) hx hb dX6_expand_90 (by decide) ?_
      refine w_fini (wr := [(h, .inr (5, [.ref hs, .ref hw])), (hs, .inl (G.2.1, 8, .inl st)), (hw, .inl (G.2.1, 64, .inl (shA (fl 16 (fun i_ => mw (rAt g oz) (a + 4 * i_)) w) k))), (o, .inr (4, [.ref ob, .int (nI oz)])), (ob, .inl (G.2.1, on, .inl g))]) (va_runSN (As := [.int ((shA (fl 16 (fun i_ => mw (rAt g oz) (a + 4 * i_)) w) k) ((16 + k) - 2)), .int (nI 19)]) (rest := [.int (rot 17 ((shA (fl 16 (fun i_ => mw (rAt g oz) (a + 4 * i_)) w) k) ((16 + k) - 2)))]) ⟨hx, hb, hml, hown, hts⟩ (c_turnRight l G ((shA (fl 16 (fun i_ => mw (rAt g oz) (a + 4 * i_)) w) k) ((16 + k) - 2)) 19 H.size) ⟨va_cnB 2 hts gX6_expand_X7_turnRight_n58 rfl rfl rfl hT.2.2.2.2.1 (hts (.initialized RX7) (by decide +kernel)) (by decide +kernel) ⟨Nat.le_of_ble_eq_true rfl, Nat.le_of_ble_eq_true rfl⟩, hts (.static yX7_turnRight) (by decide +kernel), trivial⟩ ⟨wPre.blind, (fun U hU hW => ⟨rfl, w_pre hK hT hA hP hD hS (isC := []) (by decide) rfl U hU hW⟩)⟩ rfl rfl hl.1 rfl (lv_room (Nat.le_of_ble_eq_true rfl)) dX6_expand_92 ⟨Nat.le_of_ble_eq_true rfl, Nat.le_of_ble_eq_true rfl⟩) hA hP hD hS [] [0, 1, 2, 3, 4] rfl rfl (by decide) (by decide) (fun r u H locs hpost hP hD hS => ?_)
      obtain rfl := hpost
      have hP : va_P G.1 vwCl [(h, .inr (5, [.ref hs, .ref hw])), (hs, .inl (G.2.1, 8, .inl st)), (hw, .inl (G.2.1, 64, .inl (shA (fl 16 (fun i_ => mw (rAt g oz) (a + 4 * i_)) w) k))), (o, .inr (4, [.ref ob, .int (nI oz)])), (ob, .inl (G.2.1, on, .inl g))] H := hP
      have hD : va_D A [(h, .inr (5, [.ref hs, .ref hw])), (hs, .inl (G.2.1, 8, .inl st)), (hw, .inl (G.2.1, 64, .inl (shA (fl 16 (fun i_ => mw (rAt g oz) (a + 4 * i_)) w) k))), (o, .inr (4, [.ref ob, .int (nI oz)])), (ob, .inl (G.2.1, on, .inl g))] := hD
      refine lv_ixor hx hb dX6_expand_95 ?_
      refine lv_iload hx hb dX6_expand_96 (lv_at hl 1 rfl) ?_
      refine lv_bipush (v := nI 10) hx hb dX6_expand_98 (by decide) ?_
      refine lv_iushr (v := ush ((shA (fl 16 (fun i_ => mw (rAt g oz) (a + 4 * i_)) w) k) ((16 + k) - 2)) (nI 10)) hx hb dX6_expand_100 rfl ?_
      refine lv_ixor hx hb dX6_expand_101 ?_
      refine lv_istore (lv' := [(7, .int (((rot 17 ((shA (fl 16 (fun i_ => mw (rAt g oz) (a + 4 * i_)) w) k) ((16 + k) - 2))) ^^^ (rot 19 ((shA (fl 16 (fun i_ => mw (rAt g oz) (a + 4 * i_)) w) k) ((16 + k) - 2)))) ^^^ (ush ((shA (fl 16 (fun i_ => mw (rAt g oz) (a + 4 * i_)) w) k) ((16 + k) - 2)) (nI 10)))), (6, .int (((rot 7 ((shA (fl 16 (fun i_ => mw (rAt g oz) (a + 4 * i_)) w) k) ((16 + k) - 15))) ^^^ (rot 18 ((shA (fl 16 (fun i_ => mw (rAt g oz) (a + 4 * i_)) w) k) ((16 + k) - 15)))) ^^^ (ush ((shA (fl 16 (fun i_ => mw (rAt g oz) (a + 4 * i_)) w) k) ((16 + k) - 15)) (nI 3)))), (5, .int ((shA (fl 16 (fun i_ => mw (rAt g oz) (a + 4 * i_)) w) k) ((16 + k) - 2))), (4, .int ((shA (fl 16 (fun i_ => mw (rAt g oz) (a + 4 * i_)) w) k) ((16 + k) - 15))), (3, .int (nI (16 + k))), (0, .ref h), (1, .ref o), (2, .int (nI a))]) hx hb dX6_expand_102 hl (by decide) rfl (fun ls hl => ?_)
      refine lv_aload_n hx hb dX6_expand_104 rfl (lv_at hl 5 rfl) ?_
      refine va_get (D := G.1) (ci := 5) (v := .ref hw) (C := RX6) (T := TX6) (N := 2) hx hb hts hinX6 hown hK hP 0 rfl rfl 1 (by decide) (hts (.fieldLink RX6 13 "CipherBox$Sha256" "words" "[I") (by decide +kernel)) (fun _ h9 => h9) rfl dX6_expand_105 ?_
      refine lv_iload_n hx hb dX6_expand_108 rfl (lv_at hl 4 rfl) ?_
      refine lv_aload_n hx hb dX6_expand_109 rfl (lv_at hl 5 rfl) ?_
      refine va_get (D := G.1) (ci := 5) (v := .ref hw) (C := RX6) (T := TX6) (N := 2) hx hb hts hinX6 hown hK hP 0 rfl rfl 1 (by decide) (hts (.fieldLink RX6 13 "CipherBox$Sha256" "words" "[I") (by decide +kernel)) (fun _ h9 => h9) rfl dX6_expand_110 ?_
      refine lv_iload_n hx hb dX6_expand_113 rfl (lv_at hl 4 rfl) ?_
      refine lv_bipush (v := nI 16) hx hb dX6_expand_114 (by decide) ?_
      refine w_isubN hx hb (by omega) dX6_expand_116 ?_
      refine w_iald hx hb hK hP 2 rfl (by omega) (by omega) dX6_expand_117 ?_
      refine lv_iload hx hb dX6_expand_118 (lv_at hl 1 rfl) ?_
      refine lv_iadd hx hb dX6_expand_120 ?_
      refine lv_aload_n hx hb dX6_expand_121 rfl (lv_at hl 5 rfl) ?_
      refine va_get (D := G.1) (ci := 5) (v := .ref hw) (C := RX6) (T := TX6) (N := 2) hx hb hts hinX6 hown hK hP 0 rfl rfl 1 (by decide) (hts (.fieldLink RX6 13 "CipherBox$Sha256" "words" "[I") (by decide +kernel)) (fun _ h9 => h9) rfl dX6_expand_122 ?_
      refine lv_iload_n hx hb dX6_expand_125 rfl (lv_at hl 4 rfl) ?_
      refine lv_bipush (v := nI 7) hx hb dX6_expand_126 (by decide) ?_
      refine w_isubN hx hb (by omega) dX6_expand_128 ?_
      refine w_iald hx hb hK hP 2 rfl (by omega) (by omega) dX6_expand_129 ?_
      refine lv_iadd hx hb dX6_expand_130 ?_
      refine lv_iload hx hb dX6_expand_131 (lv_at hl 0 rfl) ?_
      refine lv_iadd hx hb dX6_expand_133 ?_
      refine w_iast hx hb hK hP hD hS 2 rfl (by omega) (by omega) (shA (fl 16 (fun i_ => mw (rAt g oz) (a + 4 * i_)) w) (k + 1)) (rfl) dX6_expand_134 (fun H locs hP hD hS => ?_)
      have hP : va_P G.1 vwCl [(h, .inr (5, [.ref hs, .ref hw])), (hs, .inl (G.2.1, 8, .inl st)), (hw, .inl (G.2.1, 64, .inl (shA (fl 16 (fun i_ => mw (rAt g oz) (a + 4 * i_)) w) (k + 1)))), (o, .inr (4, [.ref ob, .int (nI oz)])), (ob, .inl (G.2.1, on, .inl g))] H := hP
      have hD : va_D A [(h, .inr (5, [.ref hs, .ref hw])), (hs, .inl (G.2.1, 8, .inl st)), (hw, .inl (G.2.1, 64, .inl (shA (fl 16 (fun i_ => mw (rAt g oz) (a + 4 * i_)) w) (k + 1)))), (o, .inr (4, [.ref ob, .int (nI oz)])), (ob, .inl (G.2.1, on, .inl g))] := hD
      refine lv_iinc (v := nI (16 + k + 1)) (lv' := [(3, .int (nI (16 + k + 1))), (7, .int (((rot 17 ((shA (fl 16 (fun i_ => mw (rAt g oz) (a + 4 * i_)) w) k) ((16 + k) - 2))) ^^^ (rot 19 ((shA (fl 16 (fun i_ => mw (rAt g oz) (a + 4 * i_)) w) k) ((16 + k) - 2)))) ^^^ (ush ((shA (fl 16 (fun i_ => mw (rAt g oz) (a + 4 * i_)) w) k) ((16 + k) - 2)) (nI 10)))), (6, .int (((rot 7 ((shA (fl 16 (fun i_ => mw (rAt g oz) (a + 4 * i_)) w) k) ((16 + k) - 15))) ^^^ (rot 18 ((shA (fl 16 (fun i_ => mw (rAt g oz) (a + 4 * i_)) w) k) ((16 + k) - 15)))) ^^^ (ush ((shA (fl 16 (fun i_ => mw (rAt g oz) (a + 4 * i_)) w) k) ((16 + k) - 15)) (nI 3)))), (5, .int ((shA (fl 16 (fun i_ => mw (rAt g oz) (a + 4 * i_)) w) k) ((16 + k) - 2))), (4, .int ((shA (fl 16 (fun i_ => mw (rAt g oz) (a + 4 * i_)) w) k) ((16 + k) - 15))), (0, .ref h), (1, .ref o), (2, .int (nI a))]) hx hb dX6_expand_135 hl (k := 4) rfl (nI_add (16 + k) 1) (by decide) rfl (fun ls hl => ?_)
      refine lv_goto (tgt := 32) hx hb dX6_expand_138 (by decide) ?_
      exact ih (k + 1) H _ _ (by omega) (by omega) hP hD hS (lv_sub hl [0, 5, 6, 7] rfl)
  · refine lv_aload_n hx hb dX6_expand_8 rfl (lv_at hl 1 rfl) ?_
    refine va_get (D := G.1) (ci := 5) (v := .ref hw) (C := RX6) (T := TX6) (N := 2) hx hb hts hinX6 hown hK hP 0 rfl rfl 1 (by decide) (hts (.fieldLink RX6 13 "CipherBox$Sha256" "words" "[I") (by decide +kernel)) (fun _ h9 => h9) rfl dX6_expand_9 ?_
    refine lv_iload_n hx hb dX6_expand_12 rfl (lv_at hl 0 rfl) ?_
    refine lv_aload_n hx hb dX6_expand_13 rfl (lv_at hl 2 rfl) ?_
    refine lv_iload_n hx hb dX6_expand_14 rfl (lv_at hl 3 rfl) ?_
    refine lv_iconst (v := nI 4) hx hb dX6_expand_15 (by decide) ?_
    refine lv_iload_n hx hb dX6_expand_16 rfl (lv_at hl 0 rfl) ?_
    refine w_imulN hx hb dX6_expand_17 ?_
    refine w_iaddN hx hb dX6_expand_18 ?_
    refine w_fini (wr := [(h, .inr (5, [.ref hs, .ref hw])), (hs, .inl (G.2.1, 8, .inl st)), (hw, .inl (G.2.1, 64, .inl (fl k (fun i_ => mw (rAt g oz) (a + 4 * i_)) w)))]) (va_runV (As := [.int (nI (a + (4 * k)))]) (rest := [.int (nI k), .ref hw]) ⟨hx, hb, hml, hown, hts⟩ (c_Row_wordAt l G o ob on oz g (a + (4 * k)) (by omega) (by omega) (by omega) H.size) (cwV 1 hts gX6_expand_X5_wordAt rfl rfl rfl (by decide +kernel) ⟨Nat.le_of_ble_eq_true rfl, Nat.le_of_ble_eq_true rfl⟩) ⟨wPre.blind, (va_recv hK hP (ci := 4) (q0 := 3) rfl rfl), (fun U hU hW => ⟨rfl, w_pre hK hT hA hP hD hS (isC := [3, 4]) (by decide) rfl U hU hW⟩)⟩ rfl rfl hl.1 rfl (lv_room (Nat.le_of_ble_eq_true rfl)) dX6_expand_19 ⟨Nat.le_of_ble_eq_true rfl, Nat.le_of_ble_eq_true rfl⟩) hA hP hD hS [3, 4] [0, 1, 2] rfl rfl (by decide) (by decide) (fun r u H locs hpost hP hD hS => ?_)
    obtain rfl := hpost
    
    have hP : va_P G.1 vwCl [(h, .inr (5, [.ref hs, .ref hw])), (hs, .inl (G.2.1, 8, .inl st)), (hw, .inl (G.2.1, 64, .inl (fl k (fun i_ => mw (rAt g oz) (a + 4 * i_)) w))), (o, .inr (4, [.ref ob, .int (nI oz)])), (ob, .inl (G.2.1, on, .inl g))] H := hP
    have hD : va_D A [(h, .inr (5, [.ref hs, .ref hw])), (hs, .inl (G.2.1, 8, .inl st)), (hw, .inl (G.2.1, 64, .inl (fl k (fun i_ => mw (rAt g oz) (a + 4 * i_)) w))), (o, .inr (4, [.ref ob, .int (nI oz)])), (ob, .inl (G.2.1, on, .inl g))] := hD
    refine w_iast hx hb hK hP hD hS 2 rfl (by omega) (by omega) (fl (k + 1) (fun i_ => mw (rAt g oz) (a + 4 * i_)) w) (fl_s rfl) dX6_expand_22 (fun H locs hP hD hS => ?_)
    have hP : va_P G.1 vwCl [(h, .inr (5, [.ref hs, .ref hw])), (hs, .inl (G.2.1, 8, .inl st)), (hw, .inl (G.2.1, 64, .inl (fl (k + 1) (fun i_ => mw (rAt g oz) (a + 4 * i_)) w))), (o, .inr (4, [.ref ob, .int (nI oz)])), (ob, .inl (G.2.1, on, .inl g))] H := hP
    have hD : va_D A [(h, .inr (5, [.ref hs, .ref hw])), (hs, .inl (G.2.1, 8, .inl st)), (hw, .inl (G.2.1, 64, .inl (fl (k + 1) (fun i_ => mw (rAt g oz) (a + 4 * i_)) w))), (o, .inr (4, [.ref ob, .int (nI oz)])), (ob, .inl (G.2.1, on, .inl g))] := hD
    refine lv_iinc (v := nI (k + 1)) (lv' := [(3, .int (nI (k + 1))), (0, .ref h), (1, .ref o), (2, .int (nI a))]) hx hb dX6_expand_23 hl (k := 0) rfl (nI_add k 1) (by decide) rfl (fun ls hl => ?_)
    refine lv_goto (tgt := 2) hx hb dX6_expand_26 (by decide) ?_
    exact ih (k + 1) H _ _ (by omega) (by omega) hP hD hS (lv_sub hl [0, 1, 2, 3] rfl)

set_option maxHeartbeats 4000000 in
set_option maxRecDepth 100000 in
theorem c_Sha_compress (l : Launch) (G : wG) (h hs hw : Nat) (st w : Nat → Int32)  : CMv l G yX6_compress wsX6_compress 1 21 0 0 [.ref h] [(h, .inr (5, [.ref hs, .ref hw])), (hs, .inl (G.2.1, 8, .inl st)), (hw, .inl (G.2.1, 64, .inl w))] (fun (_ : Unit) => True) (fun _ => [(h, .inr (5, [.ref hs, .ref hw])), (hs, .inl (G.2.1, 8, .inl (fun j_ => st j_ + shR w st 64 j_))), (hw, .inl (G.2.1, 64, .inl w))]) := by
  refine CMv.start cX6_compress 14 (by decide) rfl (Nat.le_of_ble_eq_true rfl) ?_
  intro p e s m below meth c A Q ls H locs hx hb hml hown hnm hts hK hT hA hP hD hS hl hret
  have hinX6 : ∀ w ∈ u_ws RX6 TX6 2, w ∈ wsX6_compress := by decide +kernel
  have hl : lv_has ls 14 [(0, .ref h)] := hl
  refine lv_aload_n hx hb dX6_compress_0 rfl (lv_at hl 0 rfl) ?_
  refine va_get (D := G.1) (ci := 5) (v := .ref hs) (C := RX6) (T := TX6) (N := 2) hx hb hts hinX6 hown hK hP 0 rfl rfl 0 (by decide) (hts (.fieldLink RX6 7 "CipherBox$Sha256" "state" "[I") (by decide +kernel)) (fun _ h9 => h9) rfl dX6_compress_1 ?_
  refine lv_iconst (v := nI 0) hx hb dX6_compress_4 (by decide) ?_
  refine w_iald hx hb hK hP 1 rfl (by omega) (by omega) dX6_compress_5 ?_
  refine lv_istore_n (lv' := [(1, .int (st 0)), (0, .ref h)]) hx hb dX6_compress_6 rfl hl (by decide) rfl (fun ls hl => ?_)
  refine lv_aload_n hx hb dX6_compress_7 rfl (lv_at hl 1 rfl) ?_
  refine va_get (D := G.1) (ci := 5) (v := .ref hs) (C := RX6) (T := TX6) (N := 2) hx hb hts hinX6 hown hK hP 0 rfl rfl 0 (by decide) (hts (.fieldLink RX6 7 "CipherBox$Sha256" "state" "[I") (by decide +kernel)) (fun _ h9 => h9) rfl dX6_compress_8 ?_
  refine lv_iconst (v := nI 1) hx hb dX6_compress_11 (by decide) ?_
  refine w_iald hx hb hK hP 1 rfl (by omega) (by omega) dX6_compress_12 ?_
  refine lv_istore_n (lv' := [(2, .int (st 1)), (1, .int (st 0)), (0, .ref h)]) hx hb dX6_compress_13 rfl hl (by decide) rfl (fun ls hl => ?_)
  refine lv_aload_n hx hb dX6_compress_14 rfl (lv_at hl 2 rfl) ?_
  refine va_get (D := G.1) (ci := 5) (v := .ref hs) (C := RX6) (T := TX6) (N := 2) hx hb hts hinX6 hown hK hP 0 rfl rfl 0 (by decide) (hts (.fieldLink RX6 7 "CipherBox$Sha256" "state" "[I") (by decide +kernel)) (fun _ h9 => h9) rfl dX6_compress_15 ?_
  refine lv_iconst (v := nI 2) hx hb dX6_compress_18 (by decide) ?_
  refine w_iald hx hb hK hP 1 rfl (by omega) (by omega) dX6_compress_19 ?_
  refine lv_istore_n (lv' := [(3, .int (st 2)), (2, .int (st 1)), (1, .int (st 0)), (0, .ref h)]) hx hb dX6_compress_20 rfl hl (by decide) rfl (fun ls hl => ?_)
  refine lv_aload_n hx hb dX6_compress_21 rfl (lv_at hl 3 rfl) ?_
  refine va_get (D := G.1) (ci := 5) (v := .ref hs) (C := RX6) (T := TX6) (N := 2) hx hb hts hinX6 hown hK hP 0 rfl rfl 0 (by decide) (hts (.fieldLink RX6 7 "CipherBox$Sha256" "state" "[I") (by decide +kernel)) (fun _ h9 => h9) rfl dX6_compress_22 ?_
  refine lv_iconst (v := nI 3) hx hb dX6_compress_25 (by decide) ?_
  refine w_iald hx hb hK hP 1 rfl (by omega) (by omega) dX6_compress_26 ?_
  refine lv_istore (lv' := [(4, .int (st 3)), (3, .int (st 2)), (2, .int (st 1)), (1, .int (st 0)), (0, .ref h)]) hx hb dX6_compress_27 hl (by decide) rfl (fun ls hl => ?_)
  refine lv_aload_n hx hb dX6_compress_29 rfl (lv_at hl 4 rfl) ?_
  refine va_get (D := G.1) (ci := 5) (v := .ref hs) (C := RX6) (T := TX6) (N := 2) hx hb hts hinX6 hown hK hP 0 rfl rfl 0 (by decide) (hts (.fieldLink RX6 7 "CipherBox$Sha256" "state" "[I") (by decide +kernel)) (fun _ h9 => h9) rfl dX6_compress_30 ?_
  refine lv_iconst (v := nI 4) hx hb dX6_compress_33 (by decide) ?_
  refine w_iald hx hb hK hP 1 rfl (by omega) (by omega) dX6_compress_34 ?_
  refine lv_istore (lv' := [(5, .int (st 4)), (4, .int (st 3)), (3, .int (st 2)), (2, .int (st 1)), (1, .int (st 0)), (0, .ref h)]) hx hb dX6_compress_35 hl (by decide) rfl (fun ls hl => ?_)
  refine lv_aload_n hx hb dX6_compress_37 rfl (lv_at hl 5 rfl) ?_
  refine va_get (D := G.1) (ci := 5) (v := .ref hs) (C := RX6) (T := TX6) (N := 2) hx hb hts hinX6 hown hK hP 0 rfl rfl 0 (by decide) (hts (.fieldLink RX6 7 "CipherBox$Sha256" "state" "[I") (by decide +kernel)) (fun _ h9 => h9) rfl dX6_compress_38 ?_
  refine lv_iconst (v := nI 5) hx hb dX6_compress_41 (by decide) ?_
  refine w_iald hx hb hK hP 1 rfl (by omega) (by omega) dX6_compress_42 ?_
  refine lv_istore (lv' := [(6, .int (st 5)), (5, .int (st 4)), (4, .int (st 3)), (3, .int (st 2)), (2, .int (st 1)), (1, .int (st 0)), (0, .ref h)]) hx hb dX6_compress_43 hl (by decide) rfl (fun ls hl => ?_)
  refine lv_aload_n hx hb dX6_compress_45 rfl (lv_at hl 6 rfl) ?_
  refine va_get (D := G.1) (ci := 5) (v := .ref hs) (C := RX6) (T := TX6) (N := 2) hx hb hts hinX6 hown hK hP 0 rfl rfl 0 (by decide) (hts (.fieldLink RX6 7 "CipherBox$Sha256" "state" "[I") (by decide +kernel)) (fun _ h9 => h9) rfl dX6_compress_46 ?_
  refine lv_bipush (v := nI 6) hx hb dX6_compress_49 (by decide) ?_
  refine w_iald hx hb hK hP 1 rfl (by omega) (by omega) dX6_compress_51 ?_
  refine lv_istore (lv' := [(7, .int (st 6)), (6, .int (st 5)), (5, .int (st 4)), (4, .int (st 3)), (3, .int (st 2)), (2, .int (st 1)), (1, .int (st 0)), (0, .ref h)]) hx hb dX6_compress_52 hl (by decide) rfl (fun ls hl => ?_)
  refine lv_aload_n hx hb dX6_compress_54 rfl (lv_at hl 7 rfl) ?_
  refine va_get (D := G.1) (ci := 5) (v := .ref hs) (C := RX6) (T := TX6) (N := 2) hx hb hts hinX6 hown hK hP 0 rfl rfl 0 (by decide) (hts (.fieldLink RX6 7 "CipherBox$Sha256" "state" "[I") (by decide +kernel)) (fun _ h9 => h9) rfl dX6_compress_55 ?_
  refine lv_bipush (v := nI 7) hx hb dX6_compress_58 (by decide) ?_
  refine w_iald hx hb hK hP 1 rfl (by omega) (by omega) dX6_compress_60 ?_
  refine lv_istore (lv' := [(8, .int (st 7)), (7, .int (st 6)), (6, .int (st 5)), (5, .int (st 4)), (4, .int (st 3)), (3, .int (st 2)), (2, .int (st 1)), (1, .int (st 0)), (0, .ref h)]) hx hb dX6_compress_61 hl (by decide) rfl (fun ls hl => ?_)
  refine lv_iconst (v := nI 0) hx hb dX6_compress_63 (by decide) ?_
  refine lv_istore (lv' := [(9, .int (nI 0)), (8, .int (st 7)), (7, .int (st 6)), (6, .int (st 5)), (5, .int (st 4)), (4, .int (st 3)), (3, .int (st 2)), (2, .int (st 1)), (1, .int (st 0)), (0, .ref h)]) hx hb dX6_compress_64 hl (by decide) rfl (fun ls hl => ?_)
  refine w_loop (ι := Nat) (fun k => 64 - k) (fun k => k ≤ 64) (fun k => [(h, .inr (5, [.ref hs, .ref hw])), (hs, .inl (G.2.1, 8, .inl st)), (hw, .inl (G.2.1, 64, .inl w))]) (fun k => [(9, .int (nI k)), (8, .int (shR w st k 7)), (7, .int (shR w st k 6)), (6, .int (shR w st k 5)), (5, .int (shR w st k 4)), (4, .int (shR w st k 3)), (3, .int (shR w st k 2)), (2, .int (shR w st k 1)), (1, .int (shR w st k 0)), (0, .ref h)]) 0 (by omega) hP hD hS hl ?_
  intro k H locs ls hk hP hD hS hl ih
  have hk : k ≤ 64 := hk
  have hP : va_P G.1 vwCl [(h, .inr (5, [.ref hs, .ref hw])), (hs, .inl (G.2.1, 8, .inl st)), (hw, .inl (G.2.1, 64, .inl w))] H := hP
  have hD : va_D A [(h, .inr (5, [.ref hs, .ref hw])), (hs, .inl (G.2.1, 8, .inl st)), (hw, .inl (G.2.1, 64, .inl w))] := hD
  have hl : lv_has ls 14 [(9, .int (nI k)), (8, .int (shR w st k 7)), (7, .int (shR w st k 6)), (6, .int (shR w st k 5)), (5, .int (shR w st k 4)), (4, .int (shR w st k 3)), (3, .int (shR w st k 2)), (2, .int (shR w st k 1)), (1, .int (shR w st k 0)), (0, .ref h)] := hl
  refine lv_iload hx hb dX6_compress_66 (lv_at hl 0 rfl) ?_
  refine lv_bipush (v := nI 64) hx hb dX6_compress_68 (by decide) ?_
  refine w_icmpN_ge (tgt := 209) hx hb (by omega) (by omega) dX6_compress_70 (by decide) (fun h1 => ?_) (fun h1 => ?_)
  · obtain rfl : 64 = k := Eq.symm (show k = 64 from by omega)
    refine lv_aload_n hx hb dX6_compress_209 rfl (lv_at hl 9 rfl) ?_
    refine va_get (D := G.1) (ci := 5) (v := .ref hs) (C := RX6) (T := TX6) (N := 2) hx hb hts hinX6 hown hK hP 0 rfl rfl 0 (by decide) (hts (.fieldLink RX6 7 "CipherBox$Sha256" "state" "[I") (by decide +kernel)) (fun _ h9 => h9) rfl dX6_compress_210 ?_
    refine lv_iconst (v := nI 0) hx hb dX6_compress_213 (by decide) ?_
    refine lv_dup2_11 hx hb dX6_compress_214 rfl rfl ?_
    refine w_iald hx hb hK hP 1 rfl (by omega) (by omega) dX6_compress_215 ?_
    refine lv_iload_n hx hb dX6_compress_216 rfl (lv_at hl 8 rfl) ?_
    refine lv_iadd hx hb dX6_compress_217 ?_
    refine w_iast hx hb hK hP hD hS 1 rfl (by omega) (by omega) (fl 1 (fun j_ => st j_ + shR w st 64 j_) st) (fl_s0 (g := (fun j_ => st j_ + shR w st 64 j_)) rfl) dX6_compress_218 (fun H locs hP hD hS => ?_)
    have hP : va_P G.1 vwCl [(h, .inr (5, [.ref hs, .ref hw])), (hs, .inl (G.2.1, 8, .inl (fl 1 (fun j_ => st j_ + shR w st 64 j_) st))), (hw, .inl (G.2.1, 64, .inl w))] H := hP
    have hD : va_D A [(h, .inr (5, [.ref hs, .ref hw])), (hs, .inl (G.2.1, 8, .inl (fl 1 (fun j_ => st j_ + shR w st 64 j_) st))), (hw, .inl (G.2.1, 64, .inl w))] := hD
    refine lv_aload_n hx hb dX6_compress_219 rfl (lv_at hl 9 rfl) ?_
    refine va_get (D := G.1) (ci := 5) (v := .ref hs) (C := RX6) (T := TX6) (N := 2) hx hb hts hinX6 hown hK hP 0 rfl rfl 0 (by decide) (hts (.fieldLink RX6 7 "CipherBox$Sha256" "state" "[I") (by decide +kernel)) (fun _ h9 => h9) rfl dX6_compress_220 ?_
    refine lv_iconst (v := nI 1) hx hb dX6_compress_223 (by decide) ?_
    refine lv_dup2_11 hx hb dX6_compress_224 rfl rfl ?_
    refine w_iald hx hb hK hP 1 rfl (by omega) (by omega) dX6_compress_225 ?_
    refine lv_iload_n hx hb dX6_compress_226 rfl (lv_at hl 7 rfl) ?_
    refine lv_iadd hx hb dX6_compress_227 ?_
    refine w_iast hx hb hK hP hD hS 1 rfl (by omega) (by omega) (fl 2 (fun j_ => st j_ + shR w st 64 j_) st) (fl_s (k := 1) (g := (fun j_ => st j_ + shR w st 64 j_)) (by rw [fl_out (Nat.le_refl _)])) dX6_compress_228 (fun H locs hP hD hS => ?_)
    have hP : va_P G.1 vwCl [(h, .inr (5, [.ref hs, .ref hw])), (hs, .inl (G.2.1, 8, .inl (fl 2 (fun j_ => st j_ + shR w st 64 j_) st))), (hw, .inl (G.2.1, 64, .inl w))] H := hP
    have hD : va_D A [(h, .inr (5, [.ref hs, .ref hw])), (hs, .inl (G.2.1, 8, .inl (fl 2 (fun j_ => st j_ + shR w st 64 j_) st))), (hw, .inl (G.2.1, 64, .inl w))] := hD
    refine lv_aload_n hx hb dX6_compress_229 rfl (lv_at hl 9 rfl) ?_
    refine va_get (D := G.1) (ci := 5) (v := .ref hs) (C := RX6) (T := TX6) (N := 2) hx hb hts hinX6 hown hK hP 0 rfl rfl 0 (by decide) (hts (.fieldLink RX6 7 "CipherBox$Sha256" "state" "[I") (by decide +kernel)) (fun _ h9 => h9) rfl dX6_compress_230 ?_
    refine lv_iconst (v := nI 2) hx hb dX6_compress_233 (by decide) ?_
    refine lv_dup2_11 hx hb dX6_compress_234 rfl rfl ?_
    refine w_iald hx hb hK hP 1 rfl (by omega) (by omega) dX6_compress_235 ?_
    refine lv_iload_n hx hb dX6_compress_236 rfl (lv_at hl 6 rfl) ?_
    refine lv_iadd hx hb dX6_compress_237 ?_
    refine w_iast hx hb hK hP hD hS 1 rfl (by omega) (by omega) (fl 3 (fun j_ => st j_ + shR w st 64 j_) st) (fl_s (k := 2) (g := (fun j_ => st j_ + shR w st 64 j_)) (by rw [fl_out (Nat.le_refl _)])) dX6_compress_238 (fun H locs hP hD hS => ?_)
    have hP : va_P G.1 vwCl [(h, .inr (5, [.ref hs, .ref hw])), (hs, .inl (G.2.1, 8, .inl (fl 3 (fun j_ => st j_ + shR w st 64 j_) st))), (hw, .inl (G.2.1, 64, .inl w))] H := hP
    have hD : va_D A [(h, .inr (5, [.ref hs, .ref hw])), (hs, .inl (G.2.1, 8, .inl (fl 3 (fun j_ => st j_ + shR w st 64 j_) st))), (hw, .inl (G.2.1, 64, .inl w))] := hD
    refine lv_aload_n hx hb dX6_compress_239 rfl (lv_at hl 9 rfl) ?_
    refine va_get (D := G.1) (ci := 5) (v := .ref hs) (C := RX6) (T := TX6) (N := 2) hx hb hts hinX6 hown hK hP 0 rfl rfl 0 (by decide) (hts (.fieldLink RX6 7 "CipherBox$Sha256" "state" "[I") (by decide +kernel)) (fun _ h9 => h9) rfl dX6_compress_240 ?_
    refine lv_iconst (v := nI 3) hx hb dX6_compress_243 (by decide) ?_
    refine lv_dup2_11 hx hb dX6_compress_244 rfl rfl ?_
    refine w_iald hx hb hK hP 1 rfl (by omega) (by omega) dX6_compress_245 ?_
    refine lv_iload hx hb dX6_compress_246 (lv_at hl 5 rfl) ?_
    refine lv_iadd hx hb dX6_compress_248 ?_
    refine w_iast hx hb hK hP hD hS 1 rfl (by omega) (by omega) (fl 4 (fun j_ => st j_ + shR w st 64 j_) st) (fl_s (k := 3) (g := (fun j_ => st j_ + shR w st 64 j_)) (by rw [fl_out (Nat.le_refl _)])) dX6_compress_249 (fun H locs hP hD hS => ?_)
    have hP : va_P G.1 vwCl [(h, .inr (5, [.ref hs, .ref hw])), (hs, .inl (G.2.1, 8, .inl (fl 4 (fun j_ => st j_ + shR w st 64 j_) st))), (hw, .inl (G.2.1, 64, .inl w))] H := hP
    have hD : va_D A [(h, .inr (5, [.ref hs, .ref hw])), (hs, .inl (G.2.1, 8, .inl (fl 4 (fun j_ => st j_ + shR w st 64 j_) st))), (hw, .inl (G.2.1, 64, .inl w))] := hD
    refine lv_aload_n hx hb dX6_compress_250 rfl (lv_at hl 9 rfl) ?_
    refine va_get (D := G.1) (ci := 5) (v := .ref hs) (C := RX6) (T := TX6) (N := 2) hx hb hts hinX6 hown hK hP 0 rfl rfl 0 (by decide) (hts (.fieldLink RX6 7 "CipherBox$Sha256" "state" "[I") (by decide +kernel)) (fun _ h9 => h9) rfl dX6_compress_251 ?_
    refine lv_iconst (v := nI 4) hx hb dX6_compress_254 (by decide) ?_
    refine lv_dup2_11 hx hb dX6_compress_255 rfl rfl ?_
    refine w_iald hx hb hK hP 1 rfl (by omega) (by omega) dX6_compress_256 ?_
    refine lv_iload hx hb dX6_compress_257 (lv_at hl 4 rfl) ?_
    refine lv_iadd hx hb dX6_compress_259 ?_
    refine w_iast hx hb hK hP hD hS 1 rfl (by omega) (by omega) (fl 5 (fun j_ => st j_ + shR w st 64 j_) st) (fl_s (k := 4) (g := (fun j_ => st j_ + shR w st 64 j_)) (by rw [fl_out (Nat.le_refl _)])) dX6_compress_260 (fun H locs hP hD hS => ?_)
    have hP : va_P G.1 vwCl [(h, .inr (5, [.ref hs, .ref hw])), (hs, .inl (G.2.1, 8, .inl (fl 5 (fun j_ => st j_ + shR w st 64 j_) st))), (hw, .inl (G.2.1, 64, .inl w))] H := hP
    have hD : va_D A [(h, .inr (5, [.ref hs, .ref hw])), (hs, .inl (G.2.1, 8, .inl (fl 5 (fun j_ => st j_ + shR w st 64 j_) st))), (hw, .inl (G.2.1, 64, .inl w))] := hD
    refine lv_aload_n hx hb dX6_compress_261 rfl (lv_at hl 9 rfl) ?_
    refine va_get (D := G.1) (ci := 5) (v := .ref hs) (C := RX6) (T := TX6) (N := 2) hx hb hts hinX6 hown hK hP 0 rfl rfl 0 (by decide) (hts (.fieldLink RX6 7 "CipherBox$Sha256" "state" "[I") (by decide +kernel)) (fun _ h9 => h9) rfl dX6_compress_262 ?_
    refine lv_iconst (v := nI 5) hx hb dX6_compress_265 (by decide) ?_
    refine lv_dup2_11 hx hb dX6_compress_266 rfl rfl ?_
    refine w_iald hx hb hK hP 1 rfl (by omega) (by omega) dX6_compress_267 ?_
    refine lv_iload hx hb dX6_compress_268 (lv_at hl 3 rfl) ?_
    refine lv_iadd hx hb dX6_compress_270 ?_
    refine w_iast hx hb hK hP hD hS 1 rfl (by omega) (by omega) (fl 6 (fun j_ => st j_ + shR w st 64 j_) st) (fl_s (k := 5) (g := (fun j_ => st j_ + shR w st 64 j_)) (by rw [fl_out (Nat.le_refl _)])) dX6_compress_271 (fun H locs hP hD hS => ?_)
    have hP : va_P G.1 vwCl [(h, .inr (5, [.ref hs, .ref hw])), (hs, .inl (G.2.1, 8, .inl (fl 6 (fun j_ => st j_ + shR w st 64 j_) st))), (hw, .inl (G.2.1, 64, .inl w))] H := hP
    have hD : va_D A [(h, .inr (5, [.ref hs, .ref hw])), (hs, .inl (G.2.1, 8, .inl (fl 6 (fun j_ => st j_ + shR w st 64 j_) st))), (hw, .inl (G.2.1, 64, .inl w))] := hD
    refine lv_aload_n hx hb dX6_compress_272 rfl (lv_at hl 9 rfl) ?_
    refine va_get (D := G.1) (ci := 5) (v := .ref hs) (C := RX6) (T := TX6) (N := 2) hx hb hts hinX6 hown hK hP 0 rfl rfl 0 (by decide) (hts (.fieldLink RX6 7 "CipherBox$Sha256" "state" "[I") (by decide +kernel)) (fun _ h9 => h9) rfl dX6_compress_273 ?_
    refine lv_bipush (v := nI 6) hx hb dX6_compress_276 (by decide) ?_
    refine lv_dup2_11 hx hb dX6_compress_278 rfl rfl ?_
    refine w_iald hx hb hK hP 1 rfl (by omega) (by omega) dX6_compress_279 ?_
    refine lv_iload hx hb dX6_compress_280 (lv_at hl 2 rfl) ?_
    refine lv_iadd hx hb dX6_compress_282 ?_
    refine w_iast hx hb hK hP hD hS 1 rfl (by omega) (by omega) (fl 7 (fun j_ => st j_ + shR w st 64 j_) st) (fl_s (k := 6) (g := (fun j_ => st j_ + shR w st 64 j_)) (by rw [fl_out (Nat.le_refl _)])) dX6_compress_283 (fun H locs hP hD hS => ?_)
    have hP : va_P G.1 vwCl [(h, .inr (5, [.ref hs, .ref hw])), (hs, .inl (G.2.1, 8, .inl (fl 7 (fun j_ => st j_ + shR w st 64 j_) st))), (hw, .inl (G.2.1, 64, .inl w))] H := hP
    have hD : va_D A [(h, .inr (5, [.ref hs, .ref hw])), (hs, .inl (G.2.1, 8, .inl (fl 7 (fun j_ => st j_ + shR w st 64 j_) st))), (hw, .inl (G.2.1, 64, .inl w))] := hD
    refine lv_aload_n hx hb dX6_compress_284 rfl (lv_at hl 9 rfl) ?_
    refine va_get (D := G.1) (ci := 5) (v := .ref hs) (C := RX6) (T := TX6) (N := 2) hx hb hts hinX6 hown hK hP 0 rfl rfl 0 (by decide) (hts (.fieldLink RX6 7 "CipherBox$Sha256" "state" "[I") (by decide +kernel)) (fun _ h9 => h9) rfl dX6_compress_285 ?_
    refine lv_bipush (v := nI 7) hx hb dX6_compress_288 (by decide) ?_
    refine lv_dup2_11 hx hb dX6_compress_290 rfl rfl ?_
    refine w_iald hx hb hK hP 1 rfl (by omega) (by omega) dX6_compress_291 ?_
    refine lv_iload hx hb dX6_compress_292 (lv_at hl 1 rfl) ?_
    refine lv_iadd hx hb dX6_compress_294 ?_
    refine w_iast hx hb hK hP hD hS 1 rfl (by omega) (by omega) (fl 8 (fun j_ => st j_ + shR w st 64 j_) st) (fl_s (k := 7) (g := (fun j_ => st j_ + shR w st 64 j_)) (by rw [fl_out (Nat.le_refl _)])) dX6_compress_295 (fun H locs hP hD hS => ?_)
    have hP : va_P G.1 vwCl [(h, .inr (5, [.ref hs, .ref hw])), (hs, .inl (G.2.1, 8, .inl (fl 8 (fun j_ => st j_ + shR w st 64 j_) st))), (hw, .inl (G.2.1, 64, .inl w))] H := hP
    have hD : va_D A [(h, .inr (5, [.ref hs, .ref hw])), (hs, .inl (G.2.1, 8, .inl (fl 8 (fun j_ => st j_ + shR w st 64 j_) st))), (hw, .inl (G.2.1, 64, .inl w))] := hD
    have hP := w_ext (fl 8 (fun j_ => st j_ + shR w st 64 j_) st) (fun j_ => st j_ + shR w st 64 j_) 1 hP rfl (fun j hj => fl_in hj)
    have hD := hD.set (p := 1) (e := .inl (G.2.1, 8, .inl (fun j_ => st j_ + shR w st 64 j_))) rfl
    have hP : va_P G.1 vwCl [(h, .inr (5, [.ref hs, .ref hw])), (hs, .inl (G.2.1, 8, .inl (fun j_ => st j_ + shR w st 64 j_))), (hw, .inl (G.2.1, 64, .inl w))] H := hP
    have hD : va_D A [(h, .inr (5, [.ref hs, .ref hw])), (hs, .inl (G.2.1, 8, .inl (fun j_ => st j_ + shR w st 64 j_))), (hw, .inl (G.2.1, 64, .inl w))] := hD
    exact hret () H _ 296 ls dX6_compress_296 (trivial) (hP.sub [0, 1, 2] rfl) (hD.sub [0, 1, 2] (by decide) rfl) hS
  · refine lv_iload hx hb dX6_compress_73 (lv_at hl 4 rfl) ?_
    refine lv_iload hx hb dX6_compress_75 (lv_at hl 3 rfl) ?_
    refine lv_iand hx hb dX6_compress_77 ?_
    refine lv_iload hx hb dX6_compress_78 (lv_at hl 4 rfl) ?_
    refine lv_iconst (v := (-1)) hx hb dX6_compress_80 (by decide) ?_
    refine lv_ixor hx hb dX6_compress_81 ?_
    refine lv_iload hx hb dX6_compress_82 (lv_at hl 2 rfl) ?_
    refine lv_iand hx hb dX6_compress_84 ?_
    refine lv_ixor hx hb dX6_compress_85 ?_
    refine lv_istore (lv' := [(10, .int (((shR w st k 4) &&& (shR w st k 5)) ^^^ (((shR w st k 4) ^^^ (-1)) &&& (shR w st k 6)))), (9, .int (nI k)), (8, .int (shR w st k 7)), (7, .int (shR w st k 6)), (6, .int (shR w st k 5)), (5, .int (shR w st k 4)), (4, .int (shR w st k 3)), (3, .int (shR w st k 2)), (2, .int (shR w st k 1)), (1, .int (shR w st k 0)), (0, .ref h)]) hx hb dX6_compress_86 hl (by decide) rfl (fun ls hl => ?_)
    refine lv_iload_n hx hb dX6_compress_88 rfl (lv_at hl 9 rfl) ?_
    refine lv_iload_n hx hb dX6_compress_89 rfl (lv_at hl 8 rfl) ?_
    refine lv_iand hx hb dX6_compress_90 ?_
    refine lv_iload_n hx hb dX6_compress_91 rfl (lv_at hl 9 rfl) ?_
    refine lv_iload_n hx hb dX6_compress_92 rfl (lv_at hl 7 rfl) ?_
    refine lv_iand hx hb dX6_compress_93 ?_
    refine lv_ixor hx hb dX6_compress_94 ?_
    refine lv_iload_n hx hb dX6_compress_95 rfl (lv_at hl 8 rfl) ?_
    refine lv_iload_n hx hb dX6_compress_96 rfl (lv_at hl 7 rfl) ?_
    refine lv_iand hx hb dX6_compress_97 ?_
    refine lv_ixor hx hb dX6_compress_98 ?_
    refine lv_istore (lv' := [(11, .int ((((shR w st k 0) &&& (shR w st k 1)) ^^^ ((shR w st k 0) &&& (shR w st k 2))) ^^^ ((shR w st k 1) &&& (shR w st k 2)))), (10, .int (((shR w st k 4) &&& (shR w st k 5)) ^^^ (((shR w st k 4) ^^^ (-1)) &&& (shR w st k 6)))), (9, .int (nI k)), (8, .int (shR w st k 7)), (7, .int (shR w st k 6)), (6, .int (shR w st k 5)), (5, .int (shR w st k 4)), (4, .int (shR w st k 3)), (3, .int (shR w st k 2)), (2, .int (shR w st k 1)), (1, .int (shR w st k 0)), (0, .ref h)]) hx hb dX6_compress_99 hl (by decide) rfl (fun ls hl => ?_)
    refine lv_iload hx hb dX6_compress_101 (lv_at hl 3 rfl) ?_
    refine lv_iload hx hb dX6_compress_103 (lv_at hl 6 rfl) ?_
    refine lv_bipush (v := nI 6) hx hb dX6_compress_105 (by decide) ?_
    refine w_fini (wr := [(h, .inr (5, [.ref hs, .ref hw])), (hs, .inl (G.2.1, 8, .inl st)), (hw, .inl (G.2.1, 64, .inl w))]) (va_runSN (As := [.int (shR w st k 4), .int (nI 6)]) (rest := [.int (shR w st k 7)]) ⟨hx, hb, hml, hown, hts⟩ (c_turnRight l G (shR w st k 4) 6 H.size) ⟨va_cnB 2 hts gX6_compress_X7_turnRight_n58 rfl rfl rfl hT.2.2.2.2.1 (hts (.initialized RX7) (by decide +kernel)) (by decide +kernel) ⟨Nat.le_of_ble_eq_true rfl, Nat.le_of_ble_eq_true rfl⟩, hts (.static yX7_turnRight) (by decide +kernel), trivial⟩ ⟨wPre.blind, (fun U hU hW => ⟨rfl, w_pre hK hT hA hP hD hS (isC := []) (by decide) rfl U hU hW⟩)⟩ rfl rfl hl.1 rfl (lv_room (Nat.le_of_ble_eq_true rfl)) dX6_compress_107 ⟨Nat.le_of_ble_eq_true rfl, Nat.le_of_ble_eq_true rfl⟩) hA hP hD hS [] [0, 1, 2] rfl rfl (by decide) (by decide) (fun r u H locs hpost hP hD hS => ?_)
    obtain rfl := hpost
    have hP : va_P G.1 vwCl [(h, .inr (5, [.ref hs, .ref hw])), (hs, .inl (G.2.1, 8, .inl st)), (hw, .inl (G.2.1, 64, .inl w))] H := hP
    have hD : va_D A [(h, .inr (5, [.ref hs, .ref hw])), (hs, .inl (G.2.1, 8, .inl st)), (hw, .inl (G.2.1, 64, .inl w))] := hD
    refine lv_iload hx hb dX6_compress_110 (lv_at hl 6 rfl) ?_
    refine lv_bipush (v := nI 11) hx hb dX6_compress_112 (by decide) ?_
    refine w_fini (wr := [(h, .inr (5, [.ref hs, .ref hw])), (hs, .inl (G.2.1, 8, .inl st)), (hw, .inl (G.2.1, 64, .inl w))]) (va_runSN (As := [.int (shR w st k 4), .int (nI 11)]) (rest := [.int (rot 6 (shR w st k 4)), .int (shR w st k 7)]) ⟨hx, hb, hml, hown, hts⟩ (c_turnRight l G (shR w st k 4) 11 H.size) ⟨va_cnB 2 hts gX6_compress_X7_turnRight_n58 rfl rfl rfl hT.2.2.2.2.1 (hts (.initialized RX7) (by decide +kernel)) (by decide +kernel) ⟨Nat.le_of_ble_eq_true rfl, Nat.le_of_ble_eq_true rfl⟩, hts (.static yX7_turnRight) (by decide +kernel), trivial⟩ ⟨wPre.blind, (fun U hU hW => ⟨rfl, w_pre hK hT hA hP hD hS (isC := []) (by decide) rfl U hU hW⟩)⟩ rfl rfl hl.1 rfl (lv_room (Nat.le_of_ble_eq_true rfl)) dX6_compress_114 ⟨Nat.le_of_ble_eq_true rfl, Nat.le_of_ble_eq_true rfl⟩) hA hP hD hS [] [0, 1, 2] rfl rfl (by decide) (by decide) (fun r u H locs hpost hP hD hS => ?_)
    obtain rfl := hpost
    have hP : va_P G.1 vwCl [(h, .inr (5, [.ref hs, .ref hw])), (hs, .inl (G.2.1, 8, .inl st)), (hw, .inl (G.2.1, 64, .inl w))] H := hP
    have hD : va_D A [(h, .inr (5, [.ref hs, .ref hw])), (hs, .inl (G.2.1, 8, .inl st)), (hw, .inl (G.2.1, 64, .inl w))] := hD
    refine lv_ixor hx hb dX6_compress_117 ?_
    refine lv_iload hx hb dX6_compress_118 (lv_at hl 6 rfl) ?_
    refine lv_bipush (v := nI 25) hx hb dX6_compress_120 (by decide) ?_
    refine w_fini (wr := [(h, .inr (5, [.ref hs, .ref hw])), (hs, .inl (G.2.1, 8, .inl st)), (hw, .inl (G.2.1, 64, .inl w))]) (va_runSN (As := [.int (shR w st k 4), .int (nI 25)]) (rest := [.int ((rot 6 (shR w st k 4)) ^^^ (rot 11 (shR w st k 4))), .int (shR w st k 7)]) ⟨hx, hb, hml, hown, hts⟩ (c_turnRight l G (shR w st k 4) 25 H.size) ⟨va_cnB 2 hts gX6_compress_X7_turnRight_n58 rfl rfl rfl hT.2.2.2.2.1 (hts (.initialized RX7) (by decide +kernel)) (by decide +kernel) ⟨Nat.le_of_ble_eq_true rfl, Nat.le_of_ble_eq_true rfl⟩, hts (.static yX7_turnRight) (by decide +kernel), trivial⟩ ⟨wPre.blind, (fun U hU hW => ⟨rfl, w_pre hK hT hA hP hD hS (isC := []) (by decide) rfl U hU hW⟩)⟩ rfl rfl hl.1 rfl (lv_room (Nat.le_of_ble_eq_true rfl)) dX6_compress_122 ⟨Nat.le_of_ble_eq_true rfl, Nat.le_of_ble_eq_true rfl⟩) hA hP hD hS [] [0, 1, 2] rfl rfl (by decide) (by decide) (fun r u H locs hpost hP hD hS => ?_)
    obtain rfl := hpost
    have hP : va_P G.1 vwCl [(h, .inr (5, [.ref hs, .ref hw])), (hs, .inl (G.2.1, 8, .inl st)), (hw, .inl (G.2.1, 64, .inl w))] H := hP
    have hD : va_D A [(h, .inr (5, [.ref hs, .ref hw])), (hs, .inl (G.2.1, 8, .inl st)), (hw, .inl (G.2.1, 64, .inl w))] := hD
    refine lv_ixor hx hb dX6_compress_125 ?_
    refine lv_iadd hx hb dX6_compress_126 ?_
    refine lv_iload hx hb dX6_compress_127 (lv_at hl 1 rfl) ?_
    refine lv_iadd hx hb dX6_compress_129 ?_
    refine w_gets hx hb hT hS 9 (by decide) hown (hts (.fieldLink RX6 64 "CipherBox$Sha256" "CONSTANTS" "[I") (by decide +kernel)) dX6_compress_130 ?_
    refine lv_iload hx hb dX6_compress_133 (lv_at hl 2 rfl) ?_
    refine w_ti hx hb hT hS (by decide) (by rw [tb_9]; omega) dX6_compress_135 ?_
    refine lv_iadd hx hb dX6_compress_136 ?_
    refine lv_aload_n hx hb dX6_compress_137 rfl (lv_at hl 11 rfl) ?_
    refine va_get (D := G.1) (ci := 5) (v := .ref hw) (C := RX6) (T := TX6) (N := 2) hx hb hts hinX6 hown hK hP 0 rfl rfl 1 (by decide) (hts (.fieldLink RX6 13 "CipherBox$Sha256" "words" "[I") (by decide +kernel)) (fun _ h9 => h9) rfl dX6_compress_138 ?_
    refine lv_iload hx hb dX6_compress_141 (lv_at hl 2 rfl) ?_
    refine w_iald hx hb hK hP 2 rfl (by omega) (by omega) dX6_compress_143 ?_
    refine lv_iadd hx hb dX6_compress_144 ?_
    refine lv_istore (lv' := [(12, .int (((((shR w st k 7) + (((rot 6 (shR w st k 4)) ^^^ (rot 11 (shR w st k 4))) ^^^ (rot 25 (shR w st k 4)))) + (((shR w st k 4) &&& (shR w st k 5)) ^^^ (((shR w st k 4) ^^^ (-1)) &&& (shR w st k 6)))) + (nI (tbV 9 k))) + (w k))), (11, .int ((((shR w st k 0) &&& (shR w st k 1)) ^^^ ((shR w st k 0) &&& (shR w st k 2))) ^^^ ((shR w st k 1) &&& (shR w st k 2)))), (10, .int (((shR w st k 4) &&& (shR w st k 5)) ^^^ (((shR w st k 4) ^^^ (-1)) &&& (shR w st k 6)))), (9, .int (nI k)), (8, .int (shR w st k 7)), (7, .int (shR w st k 6)), (6, .int (shR w st k 5)), (5, .int (shR w st k 4)), (4, .int (shR w st k 3)), (3, .int (shR w st k 2)), (2, .int (shR w st k 1)), (1, .int (shR w st k 0)), (0, .ref h)]) hx hb dX6_compress_145 hl (by decide) rfl (fun ls hl => ?_)
    refine lv_iload_n hx hb dX6_compress_147 rfl (lv_at hl 11 rfl) ?_
    refine lv_iconst (v := nI 2) hx hb dX6_compress_148 (by decide) ?_
    refine w_fini (wr := [(h, .inr (5, [.ref hs, .ref hw])), (hs, .inl (G.2.1, 8, .inl st)), (hw, .inl (G.2.1, 64, .inl w))]) (va_runSN (As := [.int (shR w st k 0), .int (nI 2)]) (rest := []) ⟨hx, hb, hml, hown, hts⟩ (c_turnRight l G (shR w st k 0) 2 H.size) ⟨va_cnB 2 hts gX6_compress_X7_turnRight_n58 rfl rfl rfl hT.2.2.2.2.1 (hts (.initialized RX7) (by decide +kernel)) (by decide +kernel) ⟨Nat.le_of_ble_eq_true rfl, Nat.le_of_ble_eq_true rfl⟩, hts (.static yX7_turnRight) (by decide +kernel), trivial⟩ ⟨wPre.blind, (fun U hU hW => ⟨rfl, w_pre hK hT hA hP hD hS (isC := []) (by decide) rfl U hU hW⟩)⟩ rfl rfl hl.1 rfl (lv_room (Nat.le_of_ble_eq_true rfl)) dX6_compress_149 ⟨Nat.le_of_ble_eq_true rfl, Nat.le_of_ble_eq_true rfl⟩) hA hP hD hS [] [0, 1, 2] rfl rfl (by decide) (by decide) (fun r u H locs hpost hP hD hS => ?_)
    obtain rfl := hpost
    have hP : va_P G.1 vwCl [(h, .inr (5, [.ref hs, .ref hw])), (hs, .inl (G.2.1, 8, .inl st)), (hw, .inl (G.2.1, 64, .inl w))] H := hP
    have hD : va_D A [(h, .inr (5, [.ref hs, .ref hw])), (hs, .inl (G.2.1, 8, .inl st)), (hw, .inl (G.2.1, 64, .inl w))] := hD
    refine lv_iload_n hx hb dX6_compress_152 rfl (lv_at hl 11 rfl) ?_
    refine lv_bipush (v := nI 13) hx hb dX6_compress_153 (by decide) ?_
    refine w_fini (wr := [(h, .inr (5, [.ref hs, .ref hw])), (hs, .inl (G.2.1, 8, .inl st)), (hw, .inl (G.2.1, 64, .inl w))]) (va_runSN (As := [.int (shR w st k 0), .int (nI 13)]) (rest := [.int (rot 2 (shR w st k 0))]) ⟨hx, hb, hml, hown, hts⟩ (c_turnRight l G (shR w st k 0) 13 H.size) ⟨va_cnB 2 hts gX6_compress_X7_turnRight_n58 rfl rfl rfl hT.2.2.2.2.1 (hts (.initialized RX7) (by decide +kernel)) (by decide +kernel) ⟨Nat.le_of_ble_eq_true rfl, Nat.le_of_ble_eq_true rfl⟩, hts (.static yX7_turnRight) (by decide +kernel), trivial⟩ ⟨wPre.blind, (fun U hU hW => ⟨rfl, w_pre hK hT hA hP hD hS (isC := []) (by decide) rfl U hU hW⟩)⟩ rfl rfl hl.1 rfl (lv_room (Nat.le_of_ble_eq_true rfl)) dX6_compress_155 ⟨Nat.le_of_ble_eq_true rfl, Nat.le_of_ble_eq_true rfl⟩) hA hP hD hS [] [0, 1, 2] rfl rfl (by decide) (by decide) (fun r u H locs hpost hP hD hS => ?_)
    obtain rfl := hpost
    have hP : va_P G.1 vwCl [(h, .inr (5, [.ref hs, .ref hw])), (hs, .inl (G.2.1, 8, .inl st)), (hw, .inl (G.2.1, 64, .inl w))] H := hP
    have hD : va_D A [(h, .inr (5, [.ref hs, .ref hw])), (hs, .inl (G.2.1, 8, .inl st)), (hw, .inl (G.2.1, 64, .inl w))] := hD
    refine lv_ixor hx hb dX6_compress_158 ?_
    refine lv_iload_n hx hb dX6_compress_159 rfl (lv_at hl 11 rfl) ?_
    refine lv_bipush (v := nI 22) hx hb dX6_compress_160 (by decide) ?_
    refine w_fini (wr := [(h, .inr (5, [.ref hs, .ref hw])), (hs, .inl (G.2.1, 8, .inl st)), (hw, .inl (G.2.1, 64, .inl w))]) (va_runSN (As := [.int (shR w st k 0), .int (nI 22)]) (rest := [.int ((rot 2 (shR w st k 0)) ^^^ (rot 13 (shR w st k 0)))]) ⟨hx, hb, hml, hown, hts⟩ (c_turnRight l G (shR w st k 0) 22 H.size) ⟨va_cnB 2 hts gX6_compress_X7_turnRight_n58 rfl rfl rfl hT.2.2.2.2.1 (hts (.initialized RX7) (by decide +kernel)) (by decide +kernel) ⟨Nat.le_of_ble_eq_true rfl, Nat.le_of_ble_eq_true rfl⟩, hts (.static yX7_turnRight) (by decide +kernel), trivial⟩ ⟨wPre.blind, (fun U hU hW => ⟨rfl, w_pre hK hT hA hP hD hS (isC := []) (by decide) rfl U hU hW⟩)⟩ rfl rfl hl.1 rfl (lv_room (Nat.le_of_ble_eq_true rfl)) dX6_compress_162 ⟨Nat.le_of_ble_eq_true rfl, Nat.le_of_ble_eq_true rfl⟩) hA hP hD hS [] [0, 1, 2] rfl rfl (by decide) (by decide) (fun r u H locs hpost hP hD hS => ?_)
    obtain rfl := hpost
    have hP : va_P G.1 vwCl [(h, .inr (5, [.ref hs, .ref hw])), (hs, .inl (G.2.1, 8, .inl st)), (hw, .inl (G.2.1, 64, .inl w))] H := hP
    have hD : va_D A [(h, .inr (5, [.ref hs, .ref hw])), (hs, .inl (G.2.1, 8, .inl st)), (hw, .inl (G.2.1, 64, .inl w))] := hD
    refine lv_ixor hx hb dX6_compress_165 ?_
    refine lv_iload hx hb dX6_compress_166 (lv_at hl 1 rfl) ?_
    refine lv_iadd hx hb dX6_compress_168 ?_
    refine lv_istore (lv' := [(13, .int ((((rot 2 (shR w st k 0)) ^^^ (rot 13 (shR w st k 0))) ^^^ (rot 22 (shR w st k 0))) + ((((shR w st k 0) &&& (shR w st k 1)) ^^^ ((shR w st k 0) &&& (shR w st k 2))) ^^^ ((shR w st k 1) &&& (shR w st k 2))))), (12, .int (((((shR w st k 7) + (((rot 6 (shR w st k 4)) ^^^ (rot 11 (shR w st k 4))) ^^^ (rot 25 (shR w st k 4)))) + (((shR w st k 4) &&& (shR w st k 5)) ^^^ (((shR w st k 4) ^^^ (-1)) &&& (shR w st k 6)))) + (nI (tbV 9 k))) + (w k))), (11, .int ((((shR w st k 0) &&& (shR w st k 1)) ^^^ ((shR w st k 0) &&& (shR w st k 2))) ^^^ ((shR w st k 1) &&& (shR w st k 2)))), (10, .int (((shR w st k 4) &&& (shR w st k 5)) ^^^ (((shR w st k 4) ^^^ (-1)) &&& (shR w st k 6)))), (9, .int (nI k)), (8, .int (shR w st k 7)), (7, .int (shR w st k 6)), (6, .int (shR w st k 5)), (5, .int (shR w st k 4)), (4, .int (shR w st k 3)), (3, .int (shR w st k 2)), (2, .int (shR w st k 1)), (1, .int (shR w st k 0)), (0, .ref h)]) hx hb dX6_compress_169 hl (by decide) rfl (fun ls hl => ?_)
    refine lv_iload hx hb dX6_compress_171 (lv_at hl 6 rfl) ?_
    refine lv_istore (lv' := [(8, .int (shR w st k 6)), (13, .int ((((rot 2 (shR w st k 0)) ^^^ (rot 13 (shR w st k 0))) ^^^ (rot 22 (shR w st k 0))) + ((((shR w st k 0) &&& (shR w st k 1)) ^^^ ((shR w st k 0) &&& (shR w st k 2))) ^^^ ((shR w st k 1) &&& (shR w st k 2))))), (12, .int (((((shR w st k 7) + (((rot 6 (shR w st k 4)) ^^^ (rot 11 (shR w st k 4))) ^^^ (rot 25 (shR w st k 4)))) + (((shR w st k 4) &&& (shR w st k 5)) ^^^ (((shR w st k 4) ^^^ (-1)) &&& (shR w st k 6)))) + (nI (tbV 9 k))) + (w k))), (11, .int ((((shR w st k 0) &&& (shR w st k 1)) ^^^ ((shR w st k 0) &&& (shR w st k 2))) ^^^ ((shR w st k 1) &&& (shR w st k 2)))), (10, .int (((shR w st k 4) &&& (shR w st k 5)) ^^^ (((shR w st k 4) ^^^ (-1)) &&& (shR w st k 6)))), (9, .int (nI k)), (7, .int (shR w st k 6)), (6, .int (shR w st k 5)), (5, .int (shR w st k 4)), (4, .int (shR w st k 3)), (3, .int (shR w st k 2)), (2, .int (shR w st k 1)), (1, .int (shR w st k 0)), (0, .ref h)]) hx hb dX6_compress_173 hl (by decide) rfl (fun ls hl => ?_)
    refine lv_iload hx hb dX6_compress_175 (lv_at hl 7 rfl) ?_
    refine lv_istore (lv' := [(7, .int (shR w st k 5)), (8, .int (shR w st k 6)), (13, .int ((((rot 2 (shR w st k 0)) ^^^ (rot 13 (shR w st k 0))) ^^^ (rot 22 (shR w st k 0))) + ((((shR w st k 0) &&& (shR w st k 1)) ^^^ ((shR w st k 0) &&& (shR w st k 2))) ^^^ ((shR w st k 1) &&& (shR w st k 2))))), (12, .int (((((shR w st k 7) + (((rot 6 (shR w st k 4)) ^^^ (rot 11 (shR w st k 4))) ^^^ (rot 25 (shR w st k 4)))) + (((shR w st k 4) &&& (shR w st k 5)) ^^^ (((shR w st k 4) ^^^ (-1)) &&& (shR w st k 6)))) + (nI (tbV 9 k))) + (w k))), (11, .int ((((shR w st k 0) &&& (shR w st k 1)) ^^^ ((shR w st k 0) &&& (shR w st k 2))) ^^^ ((shR w st k 1) &&& (shR w st k 2)))), (10, .int (((shR w st k 4) &&& (shR w st k 5)) ^^^ (((shR w st k 4) ^^^ (-1)) &&& (shR w st k 6)))), (9, .int (nI k)), (6, .int (shR w st k 5)), (5, .int (shR w st k 4)), (4, .int (shR w st k 3)), (3, .int (shR w st k 2)), (2, .int (shR w st k 1)), (1, .int (shR w st k 0)), (0, .ref h)]) hx hb dX6_compress_177 hl (by decide) rfl (fun ls hl => ?_)
    refine lv_iload hx hb dX6_compress_179 (lv_at hl 8 rfl) ?_
    refine lv_istore (lv' := [(6, .int (shR w st k 4)), (7, .int (shR w st k 5)), (8, .int (shR w st k 6)), (13, .int ((((rot 2 (shR w st k 0)) ^^^ (rot 13 (shR w st k 0))) ^^^ (rot 22 (shR w st k 0))) + ((((shR w st k 0) &&& (shR w st k 1)) ^^^ ((shR w st k 0) &&& (shR w st k 2))) ^^^ ((shR w st k 1) &&& (shR w st k 2))))), (12, .int (((((shR w st k 7) + (((rot 6 (shR w st k 4)) ^^^ (rot 11 (shR w st k 4))) ^^^ (rot 25 (shR w st k 4)))) + (((shR w st k 4) &&& (shR w st k 5)) ^^^ (((shR w st k 4) ^^^ (-1)) &&& (shR w st k 6)))) + (nI (tbV 9 k))) + (w k))), (11, .int ((((shR w st k 0) &&& (shR w st k 1)) ^^^ ((shR w st k 0) &&& (shR w st k 2))) ^^^ ((shR w st k 1) &&& (shR w st k 2)))), (10, .int (((shR w st k 4) &&& (shR w st k 5)) ^^^ (((shR w st k 4) ^^^ (-1)) &&& (shR w st k 6)))), (9, .int (nI k)), (5, .int (shR w st k 4)), (4, .int (shR w st k 3)), (3, .int (shR w st k 2)), (2, .int (shR w st k 1)), (1, .int (shR w st k 0)), (0, .ref h)]) hx hb dX6_compress_181 hl (by decide) rfl (fun ls hl => ?_)
    refine lv_iload hx hb dX6_compress_183 (lv_at hl 9 rfl) ?_
    refine lv_iload hx hb dX6_compress_185 (lv_at hl 4 rfl) ?_
    refine lv_iadd hx hb dX6_compress_187 ?_
    refine lv_istore (lv' := [(5, .int ((shR w st k 3) + (((((shR w st k 7) + (((rot 6 (shR w st k 4)) ^^^ (rot 11 (shR w st k 4))) ^^^ (rot 25 (shR w st k 4)))) + (((shR w st k 4) &&& (shR w st k 5)) ^^^ (((shR w st k 4) ^^^ (-1)) &&& (shR w st k 6)))) + (nI (tbV 9 k))) + (w k)))), (6, .int (shR w st k 4)), (7, .int (shR w st k 5)), (8, .int (shR w st k 6)), (13, .int ((((rot 2 (shR w st k 0)) ^^^ (rot 13 (shR w st k 0))) ^^^ (rot 22 (shR w st k 0))) + ((((shR w st k 0) &&& (shR w st k 1)) ^^^ ((shR w st k 0) &&& (shR w st k 2))) ^^^ ((shR w st k 1) &&& (shR w st k 2))))), (12, .int (((((shR w st k 7) + (((rot 6 (shR w st k 4)) ^^^ (rot 11 (shR w st k 4))) ^^^ (rot 25 (shR w st k 4)))) + (((shR w st k 4) &&& (shR w st k 5)) ^^^ (((shR w st k 4) ^^^ (-1)) &&& (shR w st k 6)))) + (nI (tbV 9 k))) + (w k))), (11, .int ((((shR w st k 0) &&& (shR w st k 1)) ^^^ ((shR w st k 0) &&& (shR w st k 2))) ^^^ ((shR w st k 1) &&& (shR w st k 2)))), (10, .int (((shR w st k 4) &&& (shR w st k 5)) ^^^ (((shR w st k 4) ^^^ (-1)) &&& (shR w st k 6)))), (9, .int (nI k)), (4, .int (shR w st k 3)), (3, .int (shR w st k 2)), (2, .int (shR w st k 1)), (1, .int (shR w st k 0)), (0, .ref h)]) hx hb dX6_compress_188 hl (by decide) rfl (fun ls hl => ?_)
    refine lv_iload_n hx hb dX6_compress_190 rfl (lv_at hl 10 rfl) ?_
    refine lv_istore (lv' := [(4, .int (shR w st k 2)), (5, .int ((shR w st k 3) + (((((shR w st k 7) + (((rot 6 (shR w st k 4)) ^^^ (rot 11 (shR w st k 4))) ^^^ (rot 25 (shR w st k 4)))) + (((shR w st k 4) &&& (shR w st k 5)) ^^^ (((shR w st k 4) ^^^ (-1)) &&& (shR w st k 6)))) + (nI (tbV 9 k))) + (w k)))), (6, .int (shR w st k 4)), (7, .int (shR w st k 5)), (8, .int (shR w st k 6)), (13, .int ((((rot 2 (shR w st k 0)) ^^^ (rot 13 (shR w st k 0))) ^^^ (rot 22 (shR w st k 0))) + ((((shR w st k 0) &&& (shR w st k 1)) ^^^ ((shR w st k 0) &&& (shR w st k 2))) ^^^ ((shR w st k 1) &&& (shR w st k 2))))), (12, .int (((((shR w st k 7) + (((rot 6 (shR w st k 4)) ^^^ (rot 11 (shR w st k 4))) ^^^ (rot 25 (shR w st k 4)))) + (((shR w st k 4) &&& (shR w st k 5)) ^^^ (((shR w st k 4) ^^^ (-1)) &&& (shR w st k 6)))) + (nI (tbV 9 k))) + (w k))), (11, .int ((((shR w st k 0) &&& (shR w st k 1)) ^^^ ((shR w st k 0) &&& (shR w st k 2))) ^^^ ((shR w st k 1) &&& (shR w st k 2)))), (10, .int (((shR w st k 4) &&& (shR w st k 5)) ^^^ (((shR w st k 4) ^^^ (-1)) &&& (shR w st k 6)))), (9, .int (nI k)), (3, .int (shR w st k 2)), (2, .int (shR w st k 1)), (1, .int (shR w st k 0)), (0, .ref h)]) hx hb dX6_compress_191 hl (by decide) rfl (fun ls hl => ?_)
    refine lv_iload_n hx hb dX6_compress_193 rfl (lv_at hl 11 rfl) ?_
    refine lv_istore_n (lv' := [(3, .int (shR w st k 1)), (4, .int (shR w st k 2)), (5, .int ((shR w st k 3) + (((((shR w st k 7) + (((rot 6 (shR w st k 4)) ^^^ (rot 11 (shR w st k 4))) ^^^ (rot 25 (shR w st k 4)))) + (((shR w st k 4) &&& (shR w st k 5)) ^^^ (((shR w st k 4) ^^^ (-1)) &&& (shR w st k 6)))) + (nI (tbV 9 k))) + (w k)))), (6, .int (shR w st k 4)), (7, .int (shR w st k 5)), (8, .int (shR w st k 6)), (13, .int ((((rot 2 (shR w st k 0)) ^^^ (rot 13 (shR w st k 0))) ^^^ (rot 22 (shR w st k 0))) + ((((shR w st k 0) &&& (shR w st k 1)) ^^^ ((shR w st k 0) &&& (shR w st k 2))) ^^^ ((shR w st k 1) &&& (shR w st k 2))))), (12, .int (((((shR w st k 7) + (((rot 6 (shR w st k 4)) ^^^ (rot 11 (shR w st k 4))) ^^^ (rot 25 (shR w st k 4)))) + (((shR w st k 4) &&& (shR w st k 5)) ^^^ (((shR w st k 4) ^^^ (-1)) &&& (shR w st k 6)))) + (nI (tbV 9 k))) + (w k))), (11, .int ((((shR w st k 0) &&& (shR w st k 1)) ^^^ ((shR w st k 0) &&& (shR w st k 2))) ^^^ ((shR w st k 1) &&& (shR w st k 2)))), (10, .int (((shR w st k 4) &&& (shR w st k 5)) ^^^ (((shR w st k 4) ^^^ (-1)) &&& (shR w st k 6)))), (9, .int (nI k)), (2, .int (shR w st k 1)), (1, .int (shR w st k 0)), (0, .ref h)]) hx hb dX6_compress_194 rfl hl (by decide) rfl (fun ls hl => ?_)
    refine lv_iload_n hx hb dX6_compress_195 rfl (lv_at hl 12 rfl) ?_
    refine lv_istore_n (lv' := [(2, .int (shR w st k 0)), (3, .int (shR w st k 1)), (4, .int (shR w st k 2)), (5, .int ((shR w st k 3) + (((((shR w st k 7) + (((rot 6 (shR w st k 4)) ^^^ (rot 11 (shR w st k 4))) ^^^ (rot 25 (shR w st k 4)))) + (((shR w st k 4) &&& (shR w st k 5)) ^^^ (((shR w st k 4) ^^^ (-1)) &&& (shR w st k 6)))) + (nI (tbV 9 k))) + (w k)))), (6, .int (shR w st k 4)), (7, .int (shR w st k 5)), (8, .int (shR w st k 6)), (13, .int ((((rot 2 (shR w st k 0)) ^^^ (rot 13 (shR w st k 0))) ^^^ (rot 22 (shR w st k 0))) + ((((shR w st k 0) &&& (shR w st k 1)) ^^^ ((shR w st k 0) &&& (shR w st k 2))) ^^^ ((shR w st k 1) &&& (shR w st k 2))))), (12, .int (((((shR w st k 7) + (((rot 6 (shR w st k 4)) ^^^ (rot 11 (shR w st k 4))) ^^^ (rot 25 (shR w st k 4)))) + (((shR w st k 4) &&& (shR w st k 5)) ^^^ (((shR w st k 4) ^^^ (-1)) &&& (shR w st k 6)))) + (nI (tbV 9 k))) + (w k))), (11, .int ((((shR w st k 0) &&& (shR w st k 1)) ^^^ ((shR w st k 0) &&& (shR w st k 2))) ^^^ ((shR w st k 1) &&& (shR w st k 2)))), (10, .int (((shR w st k 4) &&& (shR w st k 5)) ^^^ (((shR w st k 4) ^^^ (-1)) &&& (shR w st k 6)))), (9, .int (nI k)), (1, .int (shR w st k 0)), (0, .ref h)]) hx hb dX6_compress_196 rfl hl (by decide) rfl (fun ls hl => ?_)
    refine lv_iload hx hb dX6_compress_197 (lv_at hl 8 rfl) ?_
    refine lv_iload hx hb dX6_compress_199 (lv_at hl 7 rfl) ?_
    refine lv_iadd hx hb dX6_compress_201 ?_
    refine lv_istore_n (lv' := [(1, .int ((((((shR w st k 7) + (((rot 6 (shR w st k 4)) ^^^ (rot 11 (shR w st k 4))) ^^^ (rot 25 (shR w st k 4)))) + (((shR w st k 4) &&& (shR w st k 5)) ^^^ (((shR w st k 4) ^^^ (-1)) &&& (shR w st k 6)))) + (nI (tbV 9 k))) + (w k)) + ((((rot 2 (shR w st k 0)) ^^^ (rot 13 (shR w st k 0))) ^^^ (rot 22 (shR w st k 0))) + ((((shR w st k 0) &&& (shR w st k 1)) ^^^ ((shR w st k 0) &&& (shR w st k 2))) ^^^ ((shR w st k 1) &&& (shR w st k 2)))))), (2, .int (shR w st k 0)), (3, .int (shR w st k 1)), (4, .int (shR w st k 2)), (5, .int ((shR w st k 3) + (((((shR w st k 7) + (((rot 6 (shR w st k 4)) ^^^ (rot 11 (shR w st k 4))) ^^^ (rot 25 (shR w st k 4)))) + (((shR w st k 4) &&& (shR w st k 5)) ^^^ (((shR w st k 4) ^^^ (-1)) &&& (shR w st k 6)))) + (nI (tbV 9 k))) + (w k)))), (6, .int (shR w st k 4)), (7, .int (shR w st k 5)), (8, .int (shR w st k 6)), (13, .int ((((rot 2 (shR w st k 0)) ^^^ (rot 13 (shR w st k 0))) ^^^ (rot 22 (shR w st k 0))) + ((((shR w st k 0) &&& (shR w st k 1)) ^^^ ((shR w st k 0) &&& (shR w st k 2))) ^^^ ((shR w st k 1) &&& (shR w st k 2))))), (12, .int (((((shR w st k 7) + (((rot 6 (shR w st k 4)) ^^^ (rot 11 (shR w st k 4))) ^^^ (rot 25 (shR w st k 4)))) + (((shR w st k 4) &&& (shR w st k 5)) ^^^ (((shR w st k 4) ^^^ (-1)) &&& (shR w st k 6)))) + (nI (tbV 9 k))) + (w k))), (11, .int ((((shR w st k 0) &&& (shR w st k 1)) ^^^ ((shR w st k 0) &&& (shR w st k 2))) ^^^ ((shR w st k 1) &&& (shR w st k 2)))), (10, .int (((shR w st k 4) &&& (shR w st k 5)) ^^^ (((shR w st k 4) ^^^ (-1)) &&& (shR w st k 6)))), (9, .int (nI k)), (0, .ref h)]) hx hb dX6_compress_202 rfl hl (by decide) rfl (fun ls hl => ?_)
    refine lv_iinc (v := nI (k + 1)) (lv' := [(9, .int (nI (k + 1))), (1, .int ((((((shR w st k 7) + (((rot 6 (shR w st k 4)) ^^^ (rot 11 (shR w st k 4))) ^^^ (rot 25 (shR w st k 4)))) + (((shR w st k 4) &&& (shR w st k 5)) ^^^ (((shR w st k 4) ^^^ (-1)) &&& (shR w st k 6)))) + (nI (tbV 9 k))) + (w k)) + ((((rot 2 (shR w st k 0)) ^^^ (rot 13 (shR w st k 0))) ^^^ (rot 22 (shR w st k 0))) + ((((shR w st k 0) &&& (shR w st k 1)) ^^^ ((shR w st k 0) &&& (shR w st k 2))) ^^^ ((shR w st k 1) &&& (shR w st k 2)))))), (2, .int (shR w st k 0)), (3, .int (shR w st k 1)), (4, .int (shR w st k 2)), (5, .int ((shR w st k 3) + (((((shR w st k 7) + (((rot 6 (shR w st k 4)) ^^^ (rot 11 (shR w st k 4))) ^^^ (rot 25 (shR w st k 4)))) + (((shR w st k 4) &&& (shR w st k 5)) ^^^ (((shR w st k 4) ^^^ (-1)) &&& (shR w st k 6)))) + (nI (tbV 9 k))) + (w k)))), (6, .int (shR w st k 4)), (7, .int (shR w st k 5)), (8, .int (shR w st k 6)), (13, .int ((((rot 2 (shR w st k 0)) ^^^ (rot 13 (shR w st k 0))) ^^^ (rot 22 (shR w st k 0))) + ((((shR w st k 0) &&& (shR w st k 1)) ^^^ ((shR w st k 0) &&& (shR w st k 2))) ^^^ ((shR w st k 1) &&& (shR w st k 2))))), (12, .int (((((shR w st k 7) + (((rot 6 (shR w st k 4)) ^^^ (rot 11 (shR w st k 4))) ^^^ (rot 25 (shR w st k 4)))) + (((shR w st k 4) &&& (shR w st k 5)) ^^^ (((shR w st k 4) ^^^ (-1)) &&& (shR w st k 6)))) + (nI (tbV 9 k))) + (w k))), (11, .int ((((shR w st k 0) &&& (shR w st k 1)) ^^^ ((shR w st k 0) &&& (shR w st k 2))) ^^^ ((shR w st k 1) &&& (shR w st k 2)))), (10, .int (((shR w st k 4) &&& (shR w st k 5)) ^^^ (((shR w st k 4) ^^^ (-1)) &&& (shR w st k 6)))), (0, .ref h)]) hx hb dX6_compress_203 hl (k := 12) rfl (nI_add k 1) (by decide) rfl (fun ls hl => ?_)
    refine lv_goto (tgt := 66) hx hb dX6_compress_206 (by decide) ?_
    exact ih (k + 1) H _ _ (by omega) (by omega) hP hD hS (lv_sub hl [0, 8, 7, 6, 5, 4, 3, 2, 1, 13] rfl)

