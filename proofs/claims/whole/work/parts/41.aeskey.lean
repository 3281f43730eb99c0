/-! the class's AES: the key's schedule -/
theorem un_lt (x : Int32) : un x < 2 ^ 32 := x.toBitVec.isLt
theorem ush_un (x : Int32) {k : Nat} (hk : k < 32) : ush x (nI k) = nI (un x / 2 ^ k) := by
  have h1 := pk_ushr x (nI k) k (s_u k hk)
  have h2 : un x / 2 ^ k < 2 ^ 32 := Nat.lt_of_le_of_lt (Nat.div_le_self _ _) (un_lt x)
  apply Int32.toBitVec_inj.1
  apply BitVec.eq_of_toNat_eq
  rw [pk_tn h2]
  exact h1
theorem and255 {n : Nat} (h : n < 2 ^ 32) : nI n &&& nI 255 = nI (n % 2 ^ 8) := nx_mod n 8 h (by decide)
theorem ush_255 (x : Int32) {k : Nat} (hk : k < 32) : ush x (nI k) &&& nI 255 = nI (un x / 2 ^ k % 2 ^ 8) := by
  rw [ush_un x hk, and255 (Nat.lt_of_le_of_lt (Nat.div_le_self _ _) (un_lt x))]
theorem tb0_lt (j : Nat) : tbV 0 j < 256 := by
  by_cases h : j < 256
  · exact tb0_lt0 j h
  · have e : tbV 0 j = 0 := by
      have hl : tb0.length = 256 := by decide +kernel
      show (tb0[j]?).getD 0 = 0
      rw [List.getElem?_eq_none (by omega)]
      rfl
    omega
def subN (w : Nat) : Nat := (((tbV 0 (w / 2 ^ 24) * 2 ^ 24) ||| (tbV 0 (w / 2 ^ 16 % 2 ^ 8) * 2 ^ 16)) ||| (tbV 0 (w / 2 ^ 8 % 2 ^ 8) * 2 ^ 8)) ||| tbV 0 (w % 2 ^ 8)
def rcI : Nat → Int32
  | 0 => nI 1
  | n + 1 => dblI (rcI n)
def skT (nw t : Nat) (w : Int32) : Int32 := if t % nw = 0 then nI (subN (un (rot 24 w))) ^^^ (rcI ((t + nw - 1) / nw) <<< (nI 24 &&& 31)) else if nw = 8 ∧ t % nw = 4 then nI (subN (un w)) else w
def skA (u : Nat → Int32) (nw : Nat) : Nat → Nat → Int32
  | 0 => u
  | t + 1 => upd (skA u nw t) (nw + t) (skA u nw t (nw + t - nw) ^^^ skT nw t (skA u nw t (nw + t - 1)))
theorem skA_s {u : Nat → Int32} {nw t : Nat} {w : Int32} (h : w = skT nw t (skA u nw t (nw + t - 1))) : upd (skA u nw t) (nw + t) (skA u nw t (nw + t - nw) ^^^ w) = skA u nw (t + 1) := by rw [h]; rfl
theorem rc_s0 {nw t : Nat} (hn : nw = 4 ∨ nw = 6 ∨ nw = 8) (h : t % nw = 0) : dblI (rcI ((t + nw - 1) / nw)) = rcI ((t + 1 + nw - 1) / nw) := by
  have e : (t + 1 + nw - 1) / nw = (t + nw - 1) / nw + 1 := by rcases hn with rfl | rfl | rfl <;> omega
  rw [e]; rfl
theorem rc_s1 {nw t : Nat} (hn : nw = 4 ∨ nw = 6 ∨ nw = 8) (h : t % nw ≠ 0) : rcI ((t + nw - 1) / nw) = rcI ((t + 1 + nw - 1) / nw) := by
  have e : (t + 1 + nw - 1) / nw = (t + nw - 1) / nw := by rcases hn with rfl | rfl | rfl <;> omega
  rw [e]
theorem rc_0 {nw : Nat} (hn : nw = 4 ∨ nw = 6 ∨ nw = 8) : rcI ((0 + nw - 1) / nw) = nI 1 := by
  rw [show (0 + nw - 1) / nw = 0 by rcases hn with rfl | rfl | rfl <;> decide]
  rfl
theorem md_1 {nw t : Nat} (hn : nw = 4 ∨ nw = 6 ∨ nw = 8) (h : t % nw + 1 = nw) : 0 = (t + 1) % nw := by rcases hn with rfl | rfl | rfl <;> omega
theorem md_2 {nw t : Nat} (hn : nw = 4 ∨ nw = 6 ∨ nw = 8) (h : t % nw + 1 ≠ nw) : t % nw + 1 = (t + 1) % nw := by rcases hn with rfl | rfl | rfl <;> omega
set_option maxHeartbeats 4000000 in
set_option maxRecDepth 100000 in
theorem c_Aes_substituted (l : Launch) (G : wG) (x : Int32)  : CMi l G yX0_substituted wsX0_substituted 0 0 [.int x] [] (fun r (_ : Unit) => r = nI (subN (un x))) (fun _ => []) := by
  refine CMi.start cX0_substituted 1 .int (by decide) rfl (Nat.le_of_ble_eq_true rfl) (fun r u h => vp_nar_int r) ?_
  intro p e s m below meth c A Q ls H locs hx hb hml hown hts hK hT hA hP hD hS hl hret
  have hl : lv_has ls 1 [(0, .int x)] := hl
  refine w_gets hx hb hT hS 0 (by decide) hown (hts (.fieldLink RX0 19 "CipherBox$Aes" "SUBSTITUTES" "[I") (by decide +kernel)) dX0_substituted_0 ?_
  refine lv_iload_n hx hb dX0_substituted_3 rfl (lv_at hl 0 rfl) ?_
  refine lv_bipush (v := nI 24) hx hb dX0_substituted_4 (by decide) ?_
  refine lv_iushr (v := ush x (nI 24)) hx hb dX0_substituted_6 rfl ?_
  refine w_top (nI (un x / 2 ^ 24)) (ush_un x (by decide)) ?_
  refine w_ti hx hb hT hS (by decide) (by rw [tb_0]; have := un_lt x; omega) dX0_substituted_7 ?_
  refine lv_bipush (v := nI 24) hx hb dX0_substituted_8 (by decide) ?_
  refine w_ishlN hx hb (by decide) (by have := tb0_lt (un x / 2 ^ 24); omega) dX0_substituted_10 ?_
  refine w_gets hx hb hT hS 0 (by decide) hown (hts (.fieldLink RX0 19 "CipherBox$Aes" "SUBSTITUTES" "[I") (by decide +kernel)) dX0_substituted_11 ?_
  refine lv_iload_n hx hb dX0_substituted_14 rfl (lv_at hl 0 rfl) ?_
  refine lv_bipush (v := nI 16) hx hb dX0_substituted_15 (by decide) ?_
  refine lv_iushr (v := ush x (nI 16)) hx hb dX0_substituted_17 rfl ?_
  refine lv_sipush (v := nI 255) hx hb dX0_substituted_18 (by decide) ?_
  refine lv_iand hx hb dX0_substituted_21 ?_
  refine w_top (nI (un x / 2 ^ 16 % 2 ^ 8)) (ush_255 x (by decide)) ?_
  refine w_ti hx hb hT hS (by decide) (by rw [tb_0]; exact Nat.mod_lt _ (by decide)) dX0_substituted_22 ?_
  refine lv_bipush (v := nI 16) hx hb dX0_substituted_23 (by decide) ?_
  refine w_ishlN hx hb (by decide) (by have := tb0_lt (un x / 2 ^ 16 % 2 ^ 8); omega) dX0_substituted_25 ?_
  refine w_iorN hx hb dX0_substituted_26 ?_
  refine w_gets hx hb hT hS 0 (by decide) hown (hts (.fieldLink RX0 19 "CipherBox$Aes" "SUBSTITUTES" "[I") (by decide +kernel)) dX0_substituted_27 ?_
  refine lv_iload_n hx hb dX0_substituted_30 rfl (lv_at hl 0 rfl) ?_
  refine lv_bipush (v := nI 8) hx hb dX0_substituted_31 (by decide) ?_
  refine lv_iushr (v := ush x (nI 8)) hx hb dX0_substituted_33 rfl ?_
  refine lv_sipush (v := nI 255) hx hb dX0_substituted_34 (by decide) ?_
  refine lv_iand hx hb dX0_substituted_37 ?_
  refine w_top (nI (un x / 2 ^ 8 % 2 ^ 8)) (ush_255 x (by decide)) ?_
  refine w_ti hx hb hT hS (by decide) (by rw [tb_0]; exact Nat.mod_lt _ (by decide)) dX0_substituted_38 ?_
  refine lv_bipush (v := nI 8) hx hb dX0_substituted_39 (by decide) ?_
  refine w_ishlN hx hb (by decide) (by have := tb0_lt (un x / 2 ^ 8 % 2 ^ 8); omega) dX0_substituted_41 ?_
  refine w_iorN hx hb dX0_substituted_42 ?_
  refine w_gets hx hb hT hS 0 (by decide) hown (hts (.fieldLink RX0 19 "CipherBox$Aes" "SUBSTITUTES" "[I") (by decide +kernel)) dX0_substituted_43 ?_
  refine lv_iload_n hx hb dX0_substituted_46 rfl (lv_at hl 0 rfl) ?_
  refine lv_sipush (v := nI 255) hx hb dX0_substituted_47 (by decide) ?_
  refine lv_iand hx hb dX0_substituted_50 ?_
  refine w_top (nI (un x % 2 ^ 8)) (un_255 x) ?_
  refine w_ti hx hb hT hS (by decide) (by rw [tb_0]; exact Nat.mod_lt _ (by decide)) dX0_substituted_51 ?_
  refine w_iorN hx hb dX0_substituted_52 ?_
  exact hret (nI (((((tbV 0 (un x / 2 ^ 24)) * 2 ^ 24) ||| ((tbV 0 (un x / 2 ^ 16 % 2 ^ 8)) * 2 ^ 16)) ||| ((tbV 0 (un x / 2 ^ 8 % 2 ^ 8)) * 2 ^ 8)) ||| (tbV 0 (un x % 2 ^ 8)))) () H _ 53 ls dX0_substituted_53 (rfl) (hP.sub [] rfl) (hD.sub [] (by decide) rfl) hS

set_option maxHeartbeats 4000000 in
set_option maxRecDepth 100000 in
theorem c_Aes_schedule (l : Launch) (G : wG) (h ab ao ak am rd : Nat) (fk : Nat → Int32) (o ob on oz : Nat) (g : Nat → Int32) (nw : Nat) (hn : nw = 4 ∨ nw = 6 ∨ nw = 8) (hz : oz = 4 * nw) (hoz : oz ≤ on) (hon : on < 2 ^ 20) : CMv l G yX0_schedule wsX0_schedule 2 42 0 0 [.ref h, .ref o] [(h, .inr (0, [.ref ab, .int (nI 4), .ref ao, .ref ak, .ref am, .int (nI rd)])), (ak, .inl (G.2.1, 60, .inl fk)), (o, .inr (4, [.ref ob, .int (nI oz)])), (ob, .inl (G.2.1, on, .inl g))] (fun (_ : Unit) => True) (fun _ => [(h, .inr (0, [.ref ab, .int (nI 4), .ref ao, .ref ak, .ref am, .int (nI (nw + 6))])), (ak, .inl (G.2.1, 60, .inl (skA (fl nw (fun i_ => wAt g oz (4 * i_)) fk) nw (3 * nw + 28)))), (o, .inr (4, [.ref ob, .int (nI oz)])), (ob, .inl (G.2.1, on, .inl g))]) := by
  refine CMv.start cX0_schedule 8 (by decide) rfl (Nat.le_of_ble_eq_true rfl) ?_
  intro p e s m below meth c A Q ls H locs hx hb hml hown hnm hts hK hT hA hP hD hS hl hret
  have hinX0 : ∀ w ∈ u_ws RX0 TX0 6, w ∈ wsX0_schedule := by decide +kernel
  have hl : lv_has ls 8 [(0, .ref h), (1, .ref o)] := hl
  refine lv_aload_n hx hb dX0_schedule_0 rfl (lv_at hl 1 rfl) ?_
  refine w_fini (wr := [(h, .inr (0, [.ref ab, .int (nI 4), .ref ao, .ref ak, .ref am, .int (nI rd)])), (ak, .inl (G.2.1, 60, .inl fk))]) (va_runV (As := []) (rest := []) ⟨hx, hb, hml, hown, hts⟩ (c_Row_size l G o ob on oz g H.size) (cwV 0 hts gX0_schedule_X5_size rfl rfl rfl (by decide +kernel) ⟨Nat.le_of_ble_eq_true rfl, Nat.le_of_ble_eq_true rfl⟩) ⟨wPre.blind, (va_recv hK hP (ci := 4) (q0 := 2) rfl rfl), (fun U hU hW => ⟨rfl, w_pre hK hT hA hP hD hS (isC := [2, 3]) (by decide) rfl U hU hW⟩)⟩ rfl rfl hl.1 rfl (lv_room (Nat.le_of_ble_eq_true rfl)) dX0_schedule_1 ⟨Nat.le_of_ble_eq_true rfl, Nat.le_of_ble_eq_true rfl⟩) hA hP hD hS [2, 3] [0, 1] rfl rfl (by decide) (by decide) (fun r u H locs hpost hP hD hS => ?_)
  obtain rfl := hpost
  have hP : va_P G.1 vwCl [(h, .inr (0, [.ref ab, .int (nI 4), .ref ao, .ref ak, .ref am, .int (nI rd)])), (ak, .inl (G.2.1, 60, .inl fk)), (o, .inr (4, [.ref ob, .int (nI oz)])), (ob, .inl (G.2.1, on, .inl g))] H := hP
  have hD : va_D A [(h, .inr (0, [.ref ab, .int (nI 4), .ref ao, .ref ak, .ref am, .int (nI rd)])), (ak, .inl (G.2.1, 60, .inl fk)), (o, .inr (4, [.ref ob, .int (nI oz)])), (ob, .inl (G.2.1, on, .inl g))] := hD
  refine lv_iconst (v := nI 2) hx hb dX0_schedule_4 (by decide) ?_
  refine w_ishrN hx hb (by omega) (by omega) dX0_schedule_5 ?_
  refine w_top (nI nw) (by rw [hz, show 4 * nw / 2 ^ 2 = nw by omega]) ?_
  refine lv_istore_n (lv' := [(2, .int (nI nw)), (0, .ref h), (1, .ref o)]) hx hb dX0_schedule_6 rfl hl (by decide) rfl (fun ls hl => ?_)
  refine lv_iload_n hx hb dX0_schedule_7 rfl (lv_at hl 0 rfl) ?_
  refine lv_iconst (v := nI 4) hx hb dX0_schedule_8 (by decide) ?_
  refine w_icmpN_eq (tgt := 25) hx hb (by omega) (by omega) dX0_schedule_9 (by decide) (fun h1 => ?_) (fun h1 => ?_)
  · refine lv_aload_n hx hb dX0_schedule_25 rfl (lv_at hl 1 rfl) ?_
    refine lv_iload_n hx hb dX0_schedule_26 rfl (lv_at hl 0 rfl) ?_
    refine lv_bipush (v := nI 6) hx hb dX0_schedule_27 (by decide) ?_
    refine w_iaddN hx hb dX0_schedule_29 ?_
    refine va_put (D := G.1) (ci := 0) (v := .int (nI (nw + 6))) (ty := .int) (C := RX0) (T := TX0) (N := 6) hx hb hts hinX0 tyX0 tyX0_ok nmX0 hown hK hP hD hS 0 rfl rfl 5 (by decide) (hts (.fieldLink RX0 28 "CipherBox$Aes" "rounds" "I") (by decide +kernel)) (fun _ h9 => h9) rfl (by decide +kernel) rfl rfl (Nat.le_of_ble_eq_true rfl) dX0_schedule_30 (fun H locs hP hD hS => ?_)
    have hP : va_P G.1 vwCl [(h, .inr (0, [.ref ab, .int (nI 4), .ref ao, .ref ak, .ref am, .int (nI (nw + 6))])), (ak, .inl (G.2.1, 60, .inl fk)), (o, .inr (4, [.ref ob, .int (nI oz)])), (ob, .inl (G.2.1, on, .inl g))] H := hP
    have hD : va_D A [(h, .inr (0, [.ref ab, .int (nI 4), .ref ao, .ref ak, .ref am, .int (nI (nw + 6))])), (ak, .inl (G.2.1, 60, .inl fk)), (o, .inr (4, [.ref ob, .int (nI oz)])), (ob, .inl (G.2.1, on, .inl g))] := hD
    refine lv_iconst (v := nI 0) hx hb dX0_schedule_33 (by decide) ?_
    refine lv_istore_n (lv' := [(3, .int (nI 0)), (2, .int (nI nw)), (0, .ref h), (1, .ref o)]) hx hb dX0_schedule_34 rfl hl (by decide) rfl (fun ls hl => ?_)
    refine w_loop (ι := Nat) (fun k => nw - k) (fun k => k ≤ nw) (fun k => [(h, .inr (0, [.ref ab, .int (nI 4), .ref ao, .ref ak, .ref am, .int (nI (nw + 6))])), (ak, .inl (G.2.1, 60, .inl (fl k (fun i_ => wAt g oz (4 * i_)) fk))), (o, .inr (4, [.ref ob, .int (nI oz)])), (ob, .inl (G.2.1, on, .inl g))]) (fun k => [(3, .int (nI k)), (2, .int (nI nw)), (0, .ref h), (1, .ref o)]) 0 (by omega) (by simp only [fl_0]; exact hP) (by simp only [fl_0]; exact hD) hS hl ?_
    intro k H locs ls hk hP hD hS hl ih
    have hk : k ≤ nw := hk
    have hP : va_P G.1 vwCl [(h, .inr (0, [.ref ab, .int (nI 4), .ref ao, .ref ak, .ref am, .int (nI (nw + 6))])), (ak, .inl (G.2.1, 60, .inl (fl k (fun i_ => wAt g oz (4 * i_)) fk))), (o, .inr (4, [.ref ob, .int (nI oz)])), (ob, .inl (G.2.1, on, .inl g))] H := hP
    have hD : va_D A [(h, .inr (0, [.ref ab, .int (nI 4), .ref ao, .ref ak, .ref am, .int (nI (nw + 6))])), (ak, .inl (G.2.1, 60, .inl (fl k (fun i_ => wAt g oz (4 * i_)) fk))), (o, .inr (4, [.ref ob, .int (nI oz)])), (ob, .inl (G.2.1, on, .inl g))] := hD
    have hl : lv_has ls 8 [(3, .int (nI k)), (2, .int (nI nw)), (0, .ref h), (1, .ref o)] := hl
    refine lv_iload_n hx hb dX0_schedule_35 rfl (lv_at hl 0 rfl) ?_
    refine lv_iload_n hx hb dX0_schedule_36 rfl (lv_at hl 1 rfl) ?_
    refine w_icmpN_ge (tgt := 59) hx hb (by omega) (by omega) dX0_schedule_37 (by decide) (fun h2 => ?_) (fun h2 => ?_)
    · obtain rfl : nw = k := Eq.symm (show k = nw from by omega)
      refine lv_iconst (v := nI 4) hx hb dX0_schedule_59 (by decide) ?_
      refine lv_aload_n hx hb dX0_schedule_60 rfl (lv_at hl 2 rfl) ?_
      refine va_get (D := G.1) (ci := 0) (v := .int (nI (nw + 6))) (C := RX0) (T := TX0) (N := 6) hx hb hts hinX0 hown hK hP 0 rfl rfl 5 (by decide) (hts (.fieldLink RX0 28 "CipherBox$Aes" "rounds" "I") (by decide +kernel)) (fun _ h9 => h9) rfl dX0_schedule_61 ?_
      refine lv_iconst (v := nI 1) hx hb dX0_schedule_64 (by decide) ?_
      refine w_iaddN hx hb dX0_schedule_65 ?_
      refine w_imulN hx hb dX0_schedule_66 ?_
      refine lv_istore_n (lv' := [(3, .int (nI (4 * ((nw + 6) + 1)))), (2, .int (nI nw)), (0, .ref h), (1, .ref o)]) hx hb dX0_schedule_67 rfl hl (by decide) rfl (fun ls hl => ?_)
      refine lv_iconst (v := nI 1) hx hb dX0_schedule_68 (by decide) ?_
      refine lv_istore (lv' := [(4, .int (nI 1)), (3, .int (nI (4 * ((nw + 6) + 1)))), (2, .int (nI nw)), (0, .ref h), (1, .ref o)]) hx hb dX0_schedule_69 hl (by decide) rfl (fun ls hl => ?_)
      refine lv_iconst (v := nI 0) hx hb dX0_schedule_71 (by decide) ?_
      refine lv_istore (lv' := [(5, .int (nI 0)), (4, .int (nI 1)), (3, .int (nI (4 * ((nw + 6) + 1)))), (2, .int (nI nw)), (0, .ref h), (1, .ref o)]) hx hb dX0_schedule_72 hl (by decide) rfl (fun ls hl => ?_)
      refine lv_iload_n hx hb dX0_schedule_74 rfl (lv_at hl 3 rfl) ?_
      refine lv_istore (lv' := [(6, .int (nI nw)), (5, .int (nI 0)), (4, .int (nI 1)), (3, .int (nI (4 * ((nw + 6) + 1)))), (2, .int (nI nw)), (0, .ref h), (1, .ref o)]) hx hb dX0_schedule_75 hl (by decide) rfl (fun ls hl => ?_)
      refine w_loop (ι := Nat) (fun t => 3 * nw + 28 - t) (fun t => t ≤ 3 * nw + 28) (fun t => [(h, .inr (0, [.ref ab, .int (nI 4), .ref ao, .ref ak, .ref am, .int (nI (nw + 6))])), (ak, .inl (G.2.1, 60, .inl (skA (fl nw (fun i_ => wAt g oz (4 * i_)) fk) nw t))), (o, .inr (4, [.ref ob, .int (nI oz)])), (ob, .inl (G.2.1, on, .inl g))]) (fun t => [(6, .int (nI (nw + t))), (5, .int (nI (t % nw))), (4, .int (rcI ((t + nw - 1) / nw))), (3, .int (nI (4 * ((nw + 6) + 1)))), (2, .int (nI nw)), (0, .ref h), (1, .ref o)]) 0 (by omega) hP hD hS (by have h9 := hl; rw [← rc_0 hn] at h9; exact h9) ?_
      intro t H locs ls hk hP hD hS hl ih
      have hk : t ≤ 3 * nw + 28 := hk
      have hP : va_P G.1 vwCl [(h, .inr (0, [.ref ab, .int (nI 4), .ref ao, .ref ak, .ref am, .int (nI (nw + 6))])), (ak, .inl (G.2.1, 60, .inl (skA (fl nw (fun i_ => wAt g oz (4 * i_)) fk) nw t))), (o, .inr (4, [.ref ob, .int (nI oz)])), (ob, .inl (G.2.1, on, .inl g))] H := hP
      have hD : va_D A [(h, .inr (0, [.ref ab, .int (nI 4), .ref ao, .ref ak, .ref am, .int (nI (nw + 6))])), (ak, .inl (G.2.1, 60, .inl (skA (fl nw (fun i_ => wAt g oz (4 * i_)) fk) nw t))), (o, .inr (4, [.ref ob, .int (nI oz)])), (ob, .inl (G.2.1, on, .inl g))] := hD
      have hl : lv_has ls 8 [(6, .int (nI (nw + t))), (5, .int (nI (t % nw))), (4, .int (rcI ((t + nw - 1) / nw))), (3, .int (nI (4 * ((nw + 6) + 1)))), (2, .int (nI nw)), (0, .ref h), (1, .ref o)] := hl
      refine lv_iload hx hb dX0_schedule_77 (lv_at hl 0 rfl) ?_
      refine lv_iload_n hx hb dX0_schedule_79 rfl (lv_at hl 3 rfl) ?_
      refine w_icmpN_ge (tgt := 189) hx hb (by omega) (by omega) dX0_schedule_80 (by decide) (fun h3 => ?_) (fun h3 => ?_)
      · obtain rfl : 3 * nw + 28 = t := Eq.symm (show t = 3 * nw + 28 from by omega)
        exact hret () H _ 189 ls dX0_schedule_189 (trivial) (hP.sub [0, 1, 2, 3] rfl) (hD.sub [0, 1, 2, 3] (by decide) rfl) hS
      · refine lv_aload_n hx hb dX0_schedule_83 rfl (lv_at hl 5 rfl) ?_
        refine va_get (D := G.1) (ci := 0) (v := .ref ak) (C := RX0) (T := TX0) (N := 6) hx hb hts hinX0 hown hK hP 0 rfl rfl 3 (by decide) (hts (.fieldLink RX0 13 "CipherBox$Aes" "roundKeys" "[I") (by decide +kernel)) (fun _ h9 => h9) rfl dX0_schedule_84 ?_
        refine lv_iload hx hb dX0_schedule_87 (lv_at hl 0 rfl) ?_
        refine lv_iconst (v := nI 1) hx hb dX0_schedule_89 (by decide) ?_
        refine w_isubN hx hb (by omega) dX0_schedule_90 ?_
        refine w_iald hx hb hK hP 1 rfl (by omega) (by omega) dX0_schedule_91 ?_
        refine lv_istore (lv' := [(7, .int ((skA (fl nw (fun i_ => wAt g oz (4 * i_)) fk) nw t) ((nw + t) - 1))), (6, .int (nI (nw + t))), (5, .int (nI (t % nw))), (4, .int (rcI ((t + nw - 1) / nw))), (3, .int (nI (4 * ((nw + 6) + 1)))), (2, .int (nI nw)), (0, .ref h), (1, .ref o)]) hx hb dX0_schedule_92 hl (by decide) rfl (fun ls hl => ?_)
        refine lv_iload hx hb dX0_schedule_94 (lv_at hl 2 rfl) ?_
        refine w_ifN_ne (tgt := 127) hx hb (Nat.lt_of_le_of_lt (Nat.mod_le _ _) (by omega)) dX0_schedule_96 (by decide) (fun h4 => ?_) (fun h4 => ?_)
        · refine lv_iload_n hx hb dX0_schedule_127 rfl (lv_at hl 5 rfl) ?_
          refine lv_bipush (v := nI 8) hx hb dX0_schedule_128 (by decide) ?_
          refine w_icmpN_ne (tgt := 146) hx hb (by omega) (by omega) dX0_schedule_130 (by decide) (fun h5 => ?_) (fun h5 => ?_)
          · refine lv_aload_n hx hb dX0_schedule_146 rfl (lv_at hl 6 rfl) ?_
            refine va_get (D := G.1) (ci := 0) (v := .ref ak) (C := RX0) (T := TX0) (N := 6) hx hb hts hinX0 hown hK hP 0 rfl rfl 3 (by decide) (hts (.fieldLink RX0 13 "CipherBox$Aes" "roundKeys" "[I") (by decide +kernel)) (fun _ h9 => h9) rfl dX0_schedule_147 ?_
            refine lv_iload hx hb dX0_schedule_150 (lv_at hl 1 rfl) ?_
            refine lv_aload_n hx hb dX0_schedule_152 rfl (lv_at hl 6 rfl) ?_
            refine va_get (D := G.1) (ci := 0) (v := .ref ak) (C := RX0) (T := TX0) (N := 6) hx hb hts hinX0 hown hK hP 0 rfl rfl 3 (by decide) (hts (.fieldLink RX0 13 "CipherBox$Aes" "roundKeys" "[I") (by decide +kernel)) (fun _ h9 => h9) rfl dX0_schedule_153 ?_
            refine lv_iload hx hb dX0_schedule_156 (lv_at hl 1 rfl) ?_
            refine lv_iload_n hx hb dX0_schedule_158 rfl (lv_at hl 5 rfl) ?_
            refine w_isubN hx hb (by omega) dX0_schedule_159 ?_
            refine w_iald hx hb hK hP 1 rfl (by omega) (by omega) dX0_schedule_160 ?_
            refine lv_iload hx hb dX0_schedule_161 (lv_at hl 0 rfl) ?_
            refine lv_ixor hx hb dX0_schedule_163 ?_
            refine w_iast hx hb hK hP hD hS 1 rfl (by omega) (by omega) (skA (fl nw (fun i_ => wAt g oz (4 * i_)) fk) nw (t + 1)) (skA_s (by unfold skT; first | rw [if_pos (by assumption)] | rw [if_neg (by assumption), if_pos ⟨by assumption, by assumption⟩] | rw [if_neg (by assumption), if_neg (fun q9 => by first | exact absurd q9.1 (by assumption) | exact absurd q9.2 (by assumption))])) dX0_schedule_164 (fun H locs hP hD hS => ?_)
            have hP : va_P G.1 vwCl [(h, .inr (0, [.ref ab, .int (nI 4), .ref ao, .ref ak, .ref am, .int (nI (nw + 6))])), (ak, .inl (G.2.1, 60, .inl (skA (fl nw (fun i_ => wAt g oz (4 * i_)) fk) nw (t + 1)))), (o, .inr (4, [.ref ob, .int (nI oz)])), (ob, .inl (G.2.1, on, .inl g))] H := hP
            have hD : va_D A [(h, .inr (0, [.ref ab, .int (nI 4), .ref ao, .ref ak, .ref am, .int (nI (nw + 6))])), (ak, .inl (G.2.1, 60, .inl (skA (fl nw (fun i_ => wAt g oz (4 * i_)) fk) nw (t + 1)))), (o, .inr (4, [.ref ob, .int (nI oz)])), (ob, .inl (G.2.1, on, .inl g))] := hD
            refine lv_iload hx hb dX0_schedule_165 (lv_at hl 2 rfl) ?_
            refine lv_iconst (v := nI 1) hx hb dX0_schedule_167 (by decide) ?_
            refine w_iaddN hx hb dX0_schedule_168 ?_
            refine lv_iload_n hx hb dX0_schedule_169 rfl (lv_at hl 5 rfl) ?_
            refine w_icmpN_ne (tgt := 177) hx hb (Nat.lt_of_le_of_lt (Nat.add_le_add_right (Nat.mod_le _ _) 1) (by omega)) (by omega) dX0_schedule_170 (by decide) (fun h6 => ?_) (fun h6 => ?_)
            · refine lv_iload hx hb dX0_schedule_177 (lv_at hl 2 rfl) ?_
              refine lv_iconst (v := nI 1) hx hb dX0_schedule_179 (by decide) ?_
              refine w_iaddN hx hb dX0_schedule_180 ?_
              refine lv_istore (lv' := [(5, .int (nI ((t % nw) + 1))), (7, .int ((skA (fl nw (fun i_ => wAt g oz (4 * i_)) fk) nw t) ((nw + t) - 1))), (6, .int (nI (nw + t))), (4, .int (rcI ((t + nw - 1) / nw))), (3, .int (nI (4 * ((nw + 6) + 1)))), (2, .int (nI nw)), (0, .ref h), (1, .ref o)]) hx hb dX0_schedule_181 hl (by decide) rfl (fun ls hl => ?_)
              have hl : lv_has ls 8 [(5, .int (nI ((t + 1) % nw))), (7, .int ((skA (fl nw (fun i_ => wAt g oz (4 * i_)) fk) nw t) ((nw + t) - 1))), (6, .int (nI (nw + t))), (4, .int (rcI ((t + nw - 1) / nw))), (3, .int (nI (4 * ((nw + 6) + 1)))), (2, .int (nI nw)), (0, .ref h), (1, .ref o)] := by have h9 := hl; rw [show nI ((t % nw) + 1) = nI ((t + 1) % nw) by rw [← md_2 hn (by assumption)]] at h9; exact h9
              have hl : lv_has ls 8 [(5, .int (nI ((t + 1) % nw))), (7, .int ((skA (fl nw (fun i_ => wAt g oz (4 * i_)) fk) nw t) ((nw + t) - 1))), (6, .int (nI (nw + t))), (4, .int (rcI ((t + 1 + nw - 1) / nw))), (3, .int (nI (4 * ((nw + 6) + 1)))), (2, .int (nI nw)), (0, .ref h), (1, .ref o)] := by have h9 := hl; rw [rc_s1 hn (by assumption)] at h9; exact h9
              refine lv_iinc (v := nI (nw + t + 1)) (lv' := [(6, .int (nI (nw + t + 1))), (5, .int (nI ((t + 1) % nw))), (7, .int ((skA (fl nw (fun i_ => wAt g oz (4 * i_)) fk) nw t) ((nw + t) - 1))), (4, .int (rcI ((t + 1 + nw - 1) / nw))), (3, .int (nI (4 * ((nw + 6) + 1)))), (2, .int (nI nw)), (0, .ref h), (1, .ref o)]) hx hb dX0_schedule_183 hl (k := 2) rfl (nI_add (nw + t) 1) (by decide) rfl (fun ls hl => ?_)
              refine lv_goto (tgt := 77) hx hb dX0_schedule_186 (by decide) ?_
              exact ih (t + 1) H _ _ (by omega) (by omega) hP hD hS (lv_sub hl [0, 1, 3, 4, 5, 6, 7] rfl)
            · refine lv_iconst (v := nI 0) hx hb dX0_schedule_173 (by decide) ?_
              refine lv_goto (tgt := 181) hx hb dX0_schedule_174 (by decide) ?_
              refine lv_istore (lv' := [(5, .int (nI 0)), (7, .int ((skA (fl nw (fun i_ => wAt g oz (4 * i_)) fk) nw t) ((nw + t) - 1))), (6, .int (nI (nw + t))), (4, .int (rcI ((t + nw - 1) / nw))), (3, .int (nI (4 * ((nw + 6) + 1)))), (2, .int (nI nw)), (0, .ref h), (1, .ref o)]) hx hb dX0_schedule_181 hl (by decide) rfl (fun ls hl => ?_)
              have hl : lv_has ls 8 [(5, .int (nI ((t + 1) % nw))), (7, .int ((skA (fl nw (fun i_ => wAt g oz (4 * i_)) fk) nw t) ((nw + t) - 1))), (6, .int (nI (nw + t))), (4, .int (rcI ((t + nw - 1) / nw))), (3, .int (nI (4 * ((nw + 6) + 1)))), (2, .int (nI nw)), (0, .ref h), (1, .ref o)] := by have h9 := hl; rw [show nI 0 = nI ((t + 1) % nw) by rw [← md_1 hn (by assumption)]] at h9; exact h9
              have hl : lv_has ls 8 [(5, .int (nI ((t + 1) % nw))), (7, .int ((skA (fl nw (fun i_ => wAt g oz (4 * i_)) fk) nw t) ((nw + t) - 1))), (6, .int (nI (nw + t))), (4, .int (rcI ((t + 1 + nw - 1) / nw))), (3, .int (nI (4 * ((nw + 6) + 1)))), (2, .int (nI nw)), (0, .ref h), (1, .ref o)] := by have h9 := hl; rw [rc_s1 hn (by assumption)] at h9; exact h9
              refine lv_iinc (v := nI (nw + t + 1)) (lv' := [(6, .int (nI (nw + t + 1))), (5, .int (nI ((t + 1) % nw))), (7, .int ((skA (fl nw (fun i_ => wAt g oz (4 * i_)) fk) nw t) ((nw + t) - 1))), (4, .int (rcI ((t + 1 + nw - 1) / nw))), (3, .int (nI (4 * ((nw + 6) + 1)))), (2, .int (nI nw)), (0, .ref h), (1, .ref o)]) hx hb dX0_schedule_183 hl (k := 2) rfl (nI_add (nw + t) 1) (by decide) rfl (fun ls hl => ?_)
              refine lv_goto (tgt := 77) hx hb dX0_schedule_186 (by decide) ?_
              exact ih (t + 1) H _ _ (by omega) (by omega) hP hD hS (lv_sub hl [0, 1, 3, 4, 5, 6, 7] rfl)
          · refine lv_iload hx hb dX0_schedule_133 (lv_at hl 2 rfl) ?_
            refine lv_iconst (v := nI 4) hx hb dX0_schedule_135 (by decide) ?_
            refine w_icmpN_ne (tgt := 146) hx hb (Nat.lt_of_le_of_lt (Nat.mod_le _ _) (by omega)) (by decide) dX0_schedule_136 (by decide) (fun h7 => ?_) (fun h7 => ?_)
            · refine lv_aload_n hx hb dX0_schedule_146 rfl (lv_at hl 6 rfl) ?_
              refine va_get (D := G.1) (ci := 0) (v := .ref ak) (C := RX0) (T := TX0) (N := 6) hx hb hts hinX0 hown hK hP 0 rfl rfl 3 (by decide) (hts (.fieldLink RX0 13 "CipherBox$Aes" "roundKeys" "[I") (by decide +kernel)) (fun _ h9 => h9) rfl dX0_schedule_147 ?_
              refine lv_iload hx hb dX0_schedule_150 (lv_at hl 1 rfl) ?_
              refine lv_aload_n hx hb dX0_schedule_152 rfl (lv_at hl 6 rfl) ?_
              refine va_get (D := G.1) (ci := 0) (v := .ref ak) (C := RX0) (T := TX0) (N := 6) hx hb hts hinX0 hown hK hP 0 rfl rfl 3 (by decide) (hts (.fieldLink RX0 13 "CipherBox$Aes" "roundKeys" "[I") (by decide +kernel)) (fun _ h9 => h9) rfl dX0_schedule_153 ?_
              refine lv_iload hx hb dX0_schedule_156 (lv_at hl 1 rfl) ?_
              refine lv_iload_n hx hb dX0_schedule_158 rfl (lv_at hl 5 rfl) ?_
              refine w_isubN hx hb (by omega) dX0_schedule_159 ?_
              refine w_iald hx hb hK hP 1 rfl (by omega) (by omega) dX0_schedule_160 ?_
              refine lv_iload hx hb dX0_schedule_161 (lv_at hl 0 rfl) ?_
              refine lv_ixor hx hb dX0_schedule_163 ?_
              refine w_iast hx hb hK hP hD hS 1 rfl (by omega) (by omega) (skA (fl nw (fun i_ => wAt g oz (4 * i_)) fk) nw (t + 1)) (skA_s (by unfold skT; first | rw [if_pos (by assumption)] | rw [if_neg (by assumption), if_pos ⟨by assumption, by assumption⟩] | rw [if_neg (by assumption), if_neg (fun q9 => by first | exact absurd q9.1 (by assumption) | exact absurd q9.2 (by assumption))])) dX0_schedule_164 (fun H locs hP hD hS => ?_)
              have hP : va_P G.1 vwCl [(h, .inr (0, [.ref ab, .int (nI 4), .ref ao, .ref ak, .ref am, .int (nI (nw + 6))])), (ak, .inl (G.2.1, 60, .inl (skA (fl nw (fun i_ => wAt g oz (4 * i_)) fk) nw (t + 1)))), (o, .inr (4, [.ref ob, .int (nI oz)])), (ob, .inl (G.2.1, on, .inl g))] H := hP
              have hD : va_D A [(h, .inr (0, [.ref ab, .int (nI 4), .ref ao, .ref ak, .ref am, .int (nI (nw + 6))])), (ak, .inl (G.2.1, 60, .inl (skA (fl nw (fun i_ => wAt g oz (4 * i_)) fk) nw (t + 1)))), (o, .inr (4, [.ref ob, .int (nI oz)])), (ob, .inl (G.2.1, on, .inl g))] := hD
              refine lv_iload hx hb dX0_schedule_165 (lv_at hl 2 rfl) ?_
              refine lv_iconst (v := nI 1) hx hb dX0_schedule_167 (by decide) ?_
              refine w_iaddN hx hb dX0_schedule_168 ?_
              refine lv_iload_n hx hb dX0_schedule_169 rfl (lv_at hl 5 rfl) ?_
              refine w_icmpN_ne (tgt := 177) hx hb (Nat.lt_of_le_of_lt (Nat.add_le_add_right (Nat.mod_le _ _) 1) (by omega)) (by omega) dX0_schedule_170 (by decide) (fun h8 => ?_) (fun h8 => ?_)
              · refine lv_iload hx hb dX0_schedule_177 (lv_at hl 2 rfl) ?_
                refine lv_iconst (v := nI 1) hx hb dX0_schedule_179 (by decide) ?_
                refine w_iaddN hx hb dX0_schedule_180 ?_
                refine lv_istore (lv' := [(5, .int (nI ((t % nw) + 1))), (7, .int ((skA (fl nw (fun i_ => wAt g oz (4 * i_)) fk) nw t) ((nw + t) - 1))), (6, .int (nI (nw + t))), (4, .int (rcI ((t + nw - 1) / nw))), (3, .int (nI (4 * ((nw + 6) + 1)))), (2, .int (nI nw)), (0, .ref h), (1, .ref o)]) hx hb dX0_schedule_181 hl (by decide) rfl (fun ls hl => ?_)
                have hl : lv_has ls 8 [(5, .int (nI ((t + 1) % nw))), (7, .int ((skA (fl nw (fun i_ => wAt g oz (4 * i_)) fk) nw t) ((nw + t) - 1))), (6, .int (nI (nw + t))), (4, .int (rcI ((t + nw - 1) / nw))), (3, .int (nI (4 * ((nw + 6) + 1)))), (2, .int (nI nw)), (0, .ref h), (1, .ref o)] := by have h9 := hl; rw [show nI ((t % nw) + 1) = nI ((t + 1) % nw) by rw [← md_2 hn (by assumption)]] at h9; exact h9
                have hl : lv_has ls 8 [(5, .int (nI ((t + 1) % nw))), (7, .int ((skA (fl nw (fun i_ => wAt g oz (4 * i_)) fk) nw t) ((nw + t) - 1))), (6, .int (nI (nw + t))), (4, .int (rcI ((t + 1 + nw - 1) / nw))), (3, .int (nI (4 * ((nw + 6) + 1)))), (2, .int (nI nw)), (0, .ref h), (1, .ref o)] := by have h9 := hl; rw [rc_s1 hn (by assumption)] at h9; exact h9
                refine lv_iinc (v := nI (nw + t + 1)) (lv' := [(6, .int (nI (nw + t + 1))), (5, .int (nI ((t + 1) % nw))), (7, .int ((skA (fl nw (fun i_ => wAt g oz (4 * i_)) fk) nw t) ((nw + t) - 1))), (4, .int (rcI ((t + 1 + nw - 1) / nw))), (3, .int (nI (4 * ((nw + 6) + 1)))), (2, .int (nI nw)), (0, .ref h), (1, .ref o)]) hx hb dX0_schedule_183 hl (k := 2) rfl (nI_add (nw + t) 1) (by decide) rfl (fun ls hl => ?_)
                refine lv_goto (tgt := 77) hx hb dX0_schedule_186 (by decide) ?_
                exact ih (t + 1) H _ _ (by omega) (by omega) hP hD hS (lv_sub hl [0, 1, 3, 4, 5, 6, 7] rfl)
              · refine lv_iconst (v := nI 0) hx hb dX0_schedule_173 (by decide) ?_
                refine lv_goto (tgt := 181) hx hb dX0_schedule_174 (by decide) ?_
                refine lv_istore (lv' := [(5, .int (nI 0)), (7, .int ((skA (fl nw (fun i_ => wAt g oz (4 * i_)) fk) nw t) ((nw + t) - 1))), (6, .int (nI (nw + t))), (4, .int (rcI ((t + nw - 1) / nw))), (3, .int (nI (4 * ((nw + 6) + 1)))), (2, .int (nI nw)), (0, .ref h), (1, .ref o)]) hx hb dX0_schedule_181 hl (by decide) rfl (fun ls hl => ?_)
                have hl : lv_has ls 8 [(5, .int (nI ((t + 1) % nw))), (7, .int ((skA (fl nw (fun i_ => wAt g oz (4 * i_)) fk) nw t) ((nw + t) - 1))), (6, .int (nI (nw + t))), (4, .int (rcI ((t + nw - 1) / nw))), (3, .int (nI (4 * ((nw + 6) + 1)))), (2, .int (nI nw)), (0, .ref h), (1, .ref o)] := by have h9 := hl; rw [show nI 0 = nI ((t + 1) % nw) by rw [← md_1 hn (by assumption)]] at h9; exact h9
                have hl : lv_has ls 8 [(5, .int (nI ((t + 1) % nw))), (7, .int ((skA (fl nw (fun i_ => wAt g oz (4 * i_)) fk) nw t) ((nw + t) - 1))), (6, .int (nI (nw + t))), (4, .int (rcI ((t + 1 + nw - 1) / nw))), (3, .int (nI (4 * ((nw + 6) + 1)))), (2, .int (nI nw)), (0, .ref h), (1, .ref o)] := by have h9 := hl; rw [rc_s1 hn (by assumption)] at h9; exact h9
                refine lv_iinc (v := nI (nw + t + 1)) (lv' := [(6, .int (nI (nw + t + 1))), (5, .int (nI ((t + 1) % nw))), (7, .int ((skA (fl nw (fun i_ => wAt g oz (4 * i_)) fk) nw t) ((nw + t) - 1))), (4, .int (rcI ((t + 1 + nw - 1) / nw))), (3, .int (nI (4 * ((nw + 6) + 1)))), (2, .int (nI nw)), (0, .ref h), (1, .ref o)]) hx hb dX0_schedule_183 hl (k := 2) rfl (nI_add (nw + t) 1) (by decide) rfl (fun ls hl => ?_)
                refine lv_goto (tgt := 77) hx hb dX0_schedule_186 (by decide) ?_
                exact ih (t + 1) H _ _ (by omega) (by omega) hP hD hS (lv_sub hl [0, 1, 3, 4, 5, 6, 7] rfl)
            · refine lv_iload hx hb dX0_schedule_139 (lv_at hl 0 rfl) ?_
              refine w_fini (wr := [(h, .inr (0, [.ref ab, .int (nI 4), .ref ao, .ref ak, .ref am, .int (nI (nw + 6))])), (ak, .inl (G.2.1, 60, .inl (skA (fl nw (fun i_ => wAt g oz (4 * i_)) fk) nw t))), (o, .inr (4, [.ref ob, .int (nI oz)])), (ob, .inl (G.2.1, on, .inl g))]) (va_runS (As := [.int ((skA (fl nw (fun i_ => wAt g oz (4 * i_)) fk) nw t) ((nw + t) - 1))]) (rest := []) ⟨hx, hb, hml, hown, hts⟩ (c_Aes_substituted l G ((skA (fl nw (fun i_ => wAt g oz (4 * i_)) fk) nw t) ((nw + t) - 1)) H.size) (va_cwS 1 hts gX0_schedule_X0_substituted rfl rfl rfl (by decide +kernel) ⟨Nat.le_of_ble_eq_true rfl, Nat.le_of_ble_eq_true rfl⟩) ⟨wPre.blind, (fun U hU hW => ⟨rfl, w_pre hK hT hA hP hD hS (isC := []) (by decide) rfl U hU hW⟩)⟩ rfl rfl hl.1 rfl (lv_room (Nat.le_of_ble_eq_true rfl)) dX0_schedule_141 ⟨Nat.le_of_ble_eq_true rfl, Nat.le_of_ble_eq_true rfl⟩) hA hP hD hS [] [0, 1, 2, 3] rfl rfl (by decide) (by decide) (fun r u H locs hpost hP hD hS => ?_)
              obtain rfl := hpost
              have hP : va_P G.1 vwCl [(h, .inr (0, [.ref ab, .int (nI 4), .ref ao, .ref ak, .ref am, .int (nI (nw + 6))])), (ak, .inl (G.2.1, 60, .inl (skA (fl nw (fun i_ => wAt g oz (4 * i_)) fk) nw t))), (o, .inr (4, [.ref ob, .int (nI oz)])), (ob, .inl (G.2.1, on, .inl g))] H := hP
              have hD : va_D A [(h, .inr (0, [.ref ab, .int (nI 4), .ref ao, .ref ak, .ref am, .int (nI (nw + 6))])), (ak, .inl (G.2.1, 60, .inl (skA (fl nw (fun i_ => wAt g oz (4 * i_)) fk) nw t))), (o, .inr (4, [.ref ob, .int (nI oz)])), (ob, .inl (G.2.1, on, .inl g))] := hD
              refine lv_istore (lv' := [(7, .int (nI (subN (un ((skA (fl nw (fun i_ => wAt g oz (4 * i_)) fk) nw t) ((nw + t) - 1)))))), (6, .int (nI (nw + t))), (5, .int (nI (t % nw))), (4, .int (rcI ((t + nw - 1) / nw))), (3, .int (nI (4 * ((nw + 6) + 1)))), (2, .int (nI nw)), (0, .ref h), (1, .ref o)]) hx hb dX0_schedule_144 hl (by decide) rfl (fun ls hl => ?_)
              refine lv_aload_n hx hb dX0_schedule_146 rfl (lv_at hl 6 rfl) ?_
              refine va_get (D := G.1) (ci := 0) (v := .ref ak) (C := RX0) (T := TX0) (N := 6) hx hb hts hinX0 hown hK hP 0 rfl rfl 3 (by decide) (hts (.fieldLink RX0 13 "CipherBox$Aes" "roundKeys" "[I") (by decide +kernel)) (fun _ h9 => h9) rfl dX0_schedule_147 ?_
              refine lv_iload hx hb dX0_schedule_150 (lv_at hl 1 rfl) ?_
              refine lv_aload_n hx hb dX0_schedule_152 rfl (lv_at hl 6 rfl) ?_
              refine va_get (D := G.1) (ci := 0) (v := .ref ak) (C := RX0) (T := TX0) (N := 6) hx hb hts hinX0 hown hK hP 0 rfl rfl 3 (by decide) (hts (.fieldLink RX0 13 "CipherBox$Aes" "roundKeys" "[I") (by decide +kernel)) (fun _ h9 => h9) rfl dX0_schedule_153 ?_
              refine lv_iload hx hb dX0_schedule_156 (lv_at hl 1 rfl) ?_
              refine lv_iload_n hx hb dX0_schedule_158 rfl (lv_at hl 5 rfl) ?_
              refine w_isubN hx hb (by omega) dX0_schedule_159 ?_
              refine w_iald hx hb hK hP 1 rfl (by omega) (by omega) dX0_schedule_160 ?_
              refine lv_iload hx hb dX0_schedule_161 (lv_at hl 0 rfl) ?_
              refine lv_ixor hx hb dX0_schedule_163 ?_
              refine w_iast hx hb hK hP hD hS 1 rfl (by omega) (by omega) (skA (fl nw (fun i_ => wAt g oz (4 * i_)) fk) nw (t + 1)) (skA_s (by unfold skT; first | rw [if_pos (by assumption)] | rw [if_neg (by assumption), if_pos ⟨by assumption, by assumption⟩] | rw [if_neg (by assumption), if_neg (fun q9 => by first | exact absurd q9.1 (by assumption) | exact absurd q9.2 (by assumption))])) dX0_schedule_164 (fun H locs hP hD hS => ?_)
              have hP : va_P G.1 vwCl [(h, .inr (0, [.ref ab, .int (nI 4), .ref ao, .ref ak, .ref am, .int (nI (nw + 6))])), (ak, .inl (G.2.1, 60, .inl (skA (fl nw (fun i_ => wAt g oz (4 * i_)) fk) nw (t + 1)))), (o, .inr (4, [.ref ob, .int (nI oz)])), (ob, .inl (G.2.1, on, .inl g))] H := hP
              have hD : va_D A [(h, .inr (0, [.ref ab, .int (nI 4), .ref ao, .ref ak, .ref am, .int (nI (nw + 6))])), (ak, .inl (G.2.1, 60, .inl (skA (fl nw (fun i_ => wAt g oz (4 * i_)) fk) nw (t + 1)))), (o, .inr (4, [.ref ob, .int (nI oz)])), (ob, .inl (G.2.1, on, .inl g))] := hD
              refine lv_iload hx hb dX0_schedule_165 (lv_at hl 2 rfl) ?_
              refine lv_iconst (v := nI 1) hx hb dX0_schedule_167 (by decide) ?_
              refine w_iaddN hx hb dX0_schedule_168 ?_
              refine lv_iload_n hx hb dX0_schedule_169 rfl (lv_at hl 5 rfl) ?_
              refine w_icmpN_ne (tgt := 177) hx hb (Nat.lt_of_le_of_lt (Nat.add_le_add_right (Nat.mod_le _ _) 1) (by omega)) (by omega) dX0_schedule_170 (by decide) (fun h9 => ?_) (fun h9 => ?_)
              · refine lv_iload hx hb dX0_schedule_177 (lv_at hl 2 rfl) ?_
                refine lv_iconst (v := nI 1) hx hb dX0_schedule_179 (by decide) ?_
                refine w_iaddN hx hb dX0_schedule_180 ?_
                refine lv_istore (lv' := [(5, .int (nI ((t % nw) + 1))), (7, .int (nI (subN (un ((skA (fl nw (fun i_ => wAt g oz (4 * i_)) fk) nw t) ((nw + t) - 1)))))), (6, .int (nI (nw + t))), (4, .int (rcI ((t + nw - 1) / nw))), (3, .int (nI (4 * ((nw + 6) + 1)))), (2, .int (nI nw)), (0, .ref h), (1, .ref o)]) hx hb dX0_schedule_181 hl (by decide) rfl (fun ls hl => ?_)
                have hl : lv_has ls 8 [(5, .int (nI ((t + 1) % nw))), (7, .int (nI (subN (un ((skA (fl nw (fun i_ => wAt g oz (4 * i_)) fk) nw t) ((nw + t) - 1)))))), (6, .int (nI (nw + t))), (4, .int (rcI ((t + nw - 1) / nw))), (3, .int (nI (4 * ((nw + 6) + 1)))), (2, .int (nI nw)), (0, .ref h), (1, .ref o)] := by have h9 := hl; rw [show nI ((t % nw) + 1) = nI ((t + 1) % nw) by rw [← md_2 hn (by assumption)]] at h9; exact h9
                have hl : lv_has ls 8 [(5, .int (nI ((t + 1) % nw))), (7, .int (nI (subN (un ((skA (fl nw (fun i_ => wAt g oz (4 * i_)) fk) nw t) ((nw + t) - 1)))))), (6, .int (nI (nw + t))), (4, .int (rcI ((t + 1 + nw - 1) / nw))), (3, .int (nI (4 * ((nw + 6) + 1)))), (2, .int (nI nw)), (0, .ref h), (1, .ref o)] := by have h9 := hl; rw [rc_s1 hn (by assumption)] at h9; exact h9
                refine lv_iinc (v := nI (nw + t + 1)) (lv' := [(6, .int (nI (nw + t + 1))), (5, .int (nI ((t + 1) % nw))), (7, .int (nI (subN (un ((skA (fl nw (fun i_ => wAt g oz (4 * i_)) fk) nw t) ((nw + t) - 1)))))), (4, .int (rcI ((t + 1 + nw - 1) / nw))), (3, .int (nI (4 * ((nw + 6) + 1)))), (2, .int (nI nw)), (0, .ref h), (1, .ref o)]) hx hb dX0_schedule_183 hl (k := 2) rfl (nI_add (nw + t) 1) (by decide) rfl (fun ls hl => ?_)
                refine lv_goto (tgt := 77) hx hb dX0_schedule_186 (by decide) ?_
                exact ih (t + 1) H _ _ (by omega) (by omega) hP hD hS (lv_sub hl [0, 1, 3, 4, 5, 6, 7] rfl)
              · refine lv_iconst (v := nI 0) hx hb dX0_schedule_173 (by decide) ?_
                refine lv_goto (tgt := 181) hx hb dX0_schedule_174 (by decide) ?_
                refine lv_istore (lv' := [(5, .int (nI 0)), (7, .int (nI (subN (un ((skA (fl nw (fun i_ => wAt g oz (4 * i_)) fk) nw t) ((nw + t) - 1)))))), (6, .int (nI (nw + t))), (4, .int (rcI ((t + nw - 1) / nw))), (3, .int (nI (4 * ((nw + 6) + 1)))), (2, .int (nI nw)), (0, .ref h), (1, .ref o)]) hx hb dX0_schedule_181 hl (by decide) rfl (fun ls hl => ?_)
                have hl : lv_has ls 8 [(5, .int (nI ((t + 1) % nw))), (7, .int (nI (subN (un ((skA (fl nw (fun i_ => wAt g oz (4 * i_)) fk) nw t) ((nw + t) - 1)))))), (6, .int (nI (nw + t))), (4, .int (rcI ((t + nw - 1) / nw))), (3, .int (nI (4 * ((nw + 6) + 1)))), (2, .int (nI nw)), (0, .ref h), (1, .ref o)] := by have h9 := hl; rw [show nI 0 = nI ((t + 1) % nw) by rw [← md_1 hn (by assumption)]] at h9; exact h9
                have hl : lv_has ls 8 [(5, .int (nI ((t + 1) % nw))), (7, .int (nI (subN (un ((skA (fl nw (fun i_ => wAt g oz (4 * i_)) fk) nw t) ((nw + t) - 1)))))), (6, .int (nI (nw + t))), (4, .int (rcI ((t + 1 + nw - 1) / nw))), (3, .int (nI (4 * ((nw + 6) + 1)))), (2, .int (nI nw)), (0, .ref h), (1, .ref o)] := by have h9 := hl; rw [rc_s1 hn (by assumption)] at h9; exact h9
                refine lv_iinc (v := nI (nw + t + 1)) (lv' := [(6, .int (nI (nw + t + 1))), (5, .int (nI ((t + 1) % nw))), (7, .int (nI (subN (un ((skA (fl nw (fun i_ => wAt g oz (4 * i_)) fk) nw t) ((nw + t) - 1)))))), (4, .int (rcI ((t + 1 + nw - 1) / nw))), (3, .int (nI (4 * ((nw + 6) + 1)))), (2, .int (nI nw)), (0, .ref h), (1, .ref o)]) hx hb dX0_schedule_183 hl (k := 2) rfl (nI_add (nw + t) 1) (by decide) rfl (fun ls hl => ?_)
                refine lv_goto (tgt := 77) hx hb dX0_schedule_186 (by decide) ?_
                exact ih (t + 1) H _ _ (by omega) (by omega) hP hD hS (lv_sub hl [0, 1, 3, 4, 5, 6, 7] rfl)
        · refine lv_iload hx hb dX0_schedule_99 (lv_at hl 0 rfl) ?_
          refine lv_bipush (v := nI 24) hx hb dX0_schedule_101 (by decide) ?_
          refine w_fini (wr := [(h, .inr (0, [.ref ab, .int (nI 4), .ref ao, .ref ak, .ref am, .int (nI (nw + 6))])), (ak, .inl (G.2.1, 60, .inl (skA (fl nw (fun i_ => wAt g oz (4 * i_)) fk) nw t))), (o, .inr (4, [.ref ob, .int (nI oz)])), (ob, .inl (G.2.1, on, .inl g))]) (va_runSN (As := [.int ((skA (fl nw (fun i_ => wAt g oz (4 * i_)) fk) nw t) ((nw + t) - 1)), .int (nI 24)]) (rest := []) ⟨hx, hb, hml, hown, hts⟩ (c_turnRight l G ((skA (fl nw (fun i_ => wAt g oz (4 * i_)) fk) nw t) ((nw + t) - 1)) 24 H.size) ⟨va_cnB 2 hts gX0_schedule_X7_turnRight_n36 rfl rfl rfl hT.2.2.2.1 (hts (.initialized RX7) (by decide +kernel)) (by decide +kernel) ⟨Nat.le_of_ble_eq_true rfl, Nat.le_of_ble_eq_true rfl⟩, hts (.static yX7_turnRight) (by decide +kernel), trivial⟩ ⟨wPre.blind, (fun U hU hW => ⟨rfl, w_pre hK hT hA hP hD hS (isC := []) (by decide) rfl U hU hW⟩)⟩ rfl rfl hl.1 rfl (lv_room (Nat.le_of_ble_eq_true rfl)) dX0_schedule_103 ⟨Nat.le_of_ble_eq_true rfl, Nat.le_of_ble_eq_true rfl⟩) hA hP hD hS [] [0, 1, 2, 3] rfl rfl (by decide) (by decide) (fun r u H locs hpost hP hD hS => ?_)
          obtain rfl := hpost
          have hP : va_P G.1 vwCl [(h, .inr (0, [.ref ab, .int (nI 4), .ref ao, .ref ak, .ref am, .int (nI (nw + 6))])), (ak, .inl (G.2.1, 60, .inl (skA (fl nw (fun i_ => wAt g oz (4 * i_)) fk) nw t))), (o, .inr (4, [.ref ob, .int (nI oz)])), (ob, .inl (G.2.1, on, .inl g))] H := hP
          have hD : va_D A [(h, .inr (0, [.ref ab, .int (nI 4), .ref ao, .ref ak, .ref am, .int (nI (nw + 6))])), (ak, .inl (G.2.1, 60, .inl (skA (fl nw (fun i_ => wAt g oz (4 * i_)) fk) nw t))), (o, .inr (4, [.ref ob, .int (nI oz)])), (ob, .inl (G.2.1, on, .inl g))] := hD
          refine w_fini (wr := [(h, .inr (0, [.ref ab, .int (nI 4), .ref ao, .ref ak, .ref am, .int (nI (nw + 6))])), (ak, .inl (G.2.1, 60, .inl (skA (fl nw (fun i_ => wAt g oz (4 * i_)) fk) nw t))), (o, .inr (4, [.ref ob, .int (nI oz)])), (ob, .inl (G.2.1, on, .inl g))]) (va_runS (As := [.int (rot 24 ((skA (fl nw (fun i_ => wAt g oz (4 * i_)) fk) nw t) ((nw + t) - 1)))]) (rest := []) ⟨hx, hb, hml, hown, hts⟩ (c_Aes_substituted l G (rot 24 ((skA (fl nw (fun i_ => wAt g oz (4 * i_)) fk) nw t) ((nw + t) - 1))) H.size) (va_cwS 1 hts gX0_schedule_X0_substituted rfl rfl rfl (by decide +kernel) ⟨Nat.le_of_ble_eq_true rfl, Nat.le_of_ble_eq_true rfl⟩) ⟨wPre.blind, (fun U hU hW => ⟨rfl, w_pre hK hT hA hP hD hS (isC := []) (by decide) rfl U hU hW⟩)⟩ rfl rfl hl.1 rfl (lv_room (Nat.le_of_ble_eq_true rfl)) dX0_schedule_106 ⟨Nat.le_of_ble_eq_true rfl, Nat.le_of_ble_eq_true rfl⟩) hA hP hD hS [] [0, 1, 2, 3] rfl rfl (by decide) (by decide) (fun r u H locs hpost hP hD hS => ?_)
          obtain rfl := hpost
          have hP : va_P G.1 vwCl [(h, .inr (0, [.ref ab, .int (nI 4), .ref ao, .ref ak, .ref am, .int (nI (nw + 6))])), (ak, .inl (G.2.1, 60, .inl (skA (fl nw (fun i_ => wAt g oz (4 * i_)) fk) nw t))), (o, .inr (4, [.ref ob, .int (nI oz)])), (ob, .inl (G.2.1, on, .inl g))] H := hP
          have hD : va_D A [(h, .inr (0, [.ref ab, .int (nI 4), .ref ao, .ref ak, .ref am, .int (nI (nw + 6))])), (ak, .inl (G.2.1, 60, .inl (skA (fl nw (fun i_ => wAt g oz (4 * i_)) fk) nw t))), (o, .inr (4, [.ref ob, .int (nI oz)])), (ob, .inl (G.2.1, on, .inl g))] := hD
          refine lv_iload hx hb dX0_schedule_109 (lv_at hl 3 rfl) ?_
          refine lv_bipush (v := nI 24) hx hb dX0_schedule_111 (by decide) ?_
          refine lv_ishl hx hb dX0_schedule_113 ?_
          refine lv_ixor hx hb dX0_schedule_114 ?_
          refine lv_istore (lv' := [(7, .int ((nI (subN (un (rot 24 ((skA (fl nw (fun i_ => wAt g oz (4 * i_)) fk) nw t) ((nw + t) - 1)))))) ^^^ ((rcI ((t + nw - 1) / nw)) <<< ((nI 24) &&& 31)))), (6, .int (nI (nw + t))), (5, .int (nI (t % nw))), (4, .int (rcI ((t + nw - 1) / nw))), (3, .int (nI (4 * ((nw + 6) + 1)))), (2, .int (nI nw)), (0, .ref h), (1, .ref o)]) hx hb dX0_schedule_115 hl (by decide) rfl (fun ls hl => ?_)
          refine lv_iload hx hb dX0_schedule_117 (lv_at hl 3 rfl) ?_
          refine w_fini (wr := [(h, .inr (0, [.ref ab, .int (nI 4), .ref ao, .ref ak, .ref am, .int (nI (nw + 6))])), (ak, .inl (G.2.1, 60, .inl (skA (fl nw (fun i_ => wAt g oz (4 * i_)) fk) nw t))), (o, .inr (4, [.ref ob, .int (nI oz)])), (ob, .inl (G.2.1, on, .inl g))]) (va_runS (As := [.int (rcI ((t + nw - 1) / nw))]) (rest := []) ⟨hx, hb, hml, hown, hts⟩ (c_Aes_doubled l G (rcI ((t + nw - 1) / nw)) H.size) (va_cwS 1 hts gX0_schedule_X0_doubled rfl rfl rfl (by decide +kernel) ⟨Nat.le_of_ble_eq_true rfl, Nat.le_of_ble_eq_true rfl⟩) ⟨wPre.blind, (fun U hU hW => ⟨rfl, w_pre hK hT hA hP hD hS (isC := []) (by decide) rfl U hU hW⟩)⟩ rfl rfl hl.1 rfl (lv_room (Nat.le_of_ble_eq_true rfl)) dX0_schedule_119 ⟨Nat.le_of_ble_eq_true rfl, Nat.le_of_ble_eq_true rfl⟩) hA hP hD hS [] [0, 1, 2, 3] rfl rfl (by decide) (by decide) (fun r u H locs hpost hP hD hS => ?_)
          obtain rfl := hpost
          have hP : va_P G.1 vwCl [(h, .inr (0, [.ref ab, .int (nI 4), .ref ao, .ref ak, .ref am, .int (nI (nw + 6))])), (ak, .inl (G.2.1, 60, .inl (skA (fl nw (fun i_ => wAt g oz (4 * i_)) fk) nw t))), (o, .inr (4, [.ref ob, .int (nI oz)])), (ob, .inl (G.2.1, on, .inl g))] H := hP
          have hD : va_D A [(h, .inr (0, [.ref ab, .int (nI 4), .ref ao, .ref ak, .ref am, .int (nI (nw + 6))])), (ak, .inl (G.2.1, 60, .inl (skA (fl nw (fun i_ => wAt g oz (4 * i_)) fk) nw t))), (o, .inr (4, [.ref ob, .int (nI oz)])), (ob, .inl (G.2.1, on, .inl g))] := hD
          refine lv_istore (lv' := [(4, .int (dblI (rcI ((t + nw - 1) / nw)))), (7, .int ((nI (subN (un (rot 24 ((skA (fl nw (fun i_ => wAt g oz (4 * i_)) fk) nw t) ((nw + t) - 1)))))) ^^^ ((rcI ((t + nw - 1) / nw)) <<< ((nI 24) &&& 31)))), (6, .int (nI (nw + t))), (5, .int (nI (t % nw))), (3, .int (nI (4 * ((nw + 6) + 1)))), (2, .int (nI nw)), (0, .ref h), (1, .ref o)]) hx hb dX0_schedule_122 hl (by decide) rfl (fun ls hl => ?_)
          refine lv_goto (tgt := 146) hx hb dX0_schedule_124 (by decide) ?_
          refine lv_aload_n hx hb dX0_schedule_146 rfl (lv_at hl 6 rfl) ?_
          refine va_get (D := G.1) (ci := 0) (v := .ref ak) (C := RX0) (T := TX0) (N := 6) hx hb hts hinX0 hown hK hP 0 rfl rfl 3 (by decide) (hts (.fieldLink RX0 13 "CipherBox$Aes" "roundKeys" "[I") (by decide +kernel)) (fun _ h9 => h9) rfl dX0_schedule_147 ?_
          refine lv_iload hx hb dX0_schedule_150 (lv_at hl 2 rfl) ?_
          refine lv_aload_n hx hb dX0_schedule_152 rfl (lv_at hl 6 rfl) ?_
          refine va_get (D := G.1) (ci := 0) (v := .ref ak) (C := RX0) (T := TX0) (N := 6) hx hb hts hinX0 hown hK hP 0 rfl rfl 3 (by decide) (hts (.fieldLink RX0 13 "CipherBox$Aes" "roundKeys" "[I") (by decide +kernel)) (fun _ h9 => h9) rfl dX0_schedule_153 ?_
          refine lv_iload hx hb dX0_schedule_156 (lv_at hl 2 rfl) ?_
          refine lv_iload_n hx hb dX0_schedule_158 rfl (lv_at hl 5 rfl) ?_
          refine w_isubN hx hb (by omega) dX0_schedule_159 ?_
          refine w_iald hx hb hK hP 1 rfl (by omega) (by omega) dX0_schedule_160 ?_
          refine lv_iload hx hb dX0_schedule_161 (lv_at hl 1 rfl) ?_
          refine lv_ixor hx hb dX0_schedule_163 ?_
          refine w_iast hx hb hK hP hD hS 1 rfl (by omega) (by omega) (skA (fl nw (fun i_ => wAt g oz (4 * i_)) fk) nw (t + 1)) (skA_s (by unfold skT; first | rw [if_pos (by assumption)] | rw [if_neg (by assumption), if_pos ⟨by assumption, by assumption⟩] | rw [if_neg (by assumption), if_neg (fun q9 => by first | exact absurd q9.1 (by assumption) | exact absurd q9.2 (by assumption))])) dX0_schedule_164 (fun H locs hP hD hS => ?_)
          have hP : va_P G.1 vwCl [(h, .inr (0, [.ref ab, .int (nI 4), .ref ao, .ref ak, .ref am, .int (nI (nw + 6))])), (ak, .inl (G.2.1, 60, .inl (skA (fl nw (fun i_ => wAt g oz (4 * i_)) fk) nw (t + 1)))), (o, .inr (4, [.ref ob, .int (nI oz)])), (ob, .inl (G.2.1, on, .inl g))] H := hP
          have hD : va_D A [(h, .inr (0, [.ref ab, .int (nI 4), .ref ao, .ref ak, .ref am, .int (nI (nw + 6))])), (ak, .inl (G.2.1, 60, .inl (skA (fl nw (fun i_ => wAt g oz (4 * i_)) fk) nw (t + 1)))), (o, .inr (4, [.ref ob, .int (nI oz)])), (ob, .inl (G.2.1, on, .inl g))] := hD
          refine lv_iload hx hb dX0_schedule_165 (lv_at hl 3 rfl) ?_
          refine lv_iconst (v := nI 1) hx hb dX0_schedule_167 (by decide) ?_
          refine w_iaddN hx hb dX0_schedule_168 ?_
          refine lv_iload_n hx hb dX0_schedule_169 rfl (lv_at hl 5 rfl) ?_
          refine w_icmpN_ne (tgt := 177) hx hb (Nat.lt_of_le_of_lt (Nat.add_le_add_right (Nat.mod_le _ _) 1) (by omega)) (by omega) dX0_schedule_170 (by decide) (fun h10 => ?_) (fun h10 => ?_)
          · refine lv_iload hx hb dX0_schedule_177 (lv_at hl 3 rfl) ?_
            refine lv_iconst (v := nI 1) hx hb dX0_schedule_179 (by decide) ?_
            refine w_iaddN hx hb dX0_schedule_180 ?_
            refine lv_istore (lv' := [(5, .int (nI ((t % nw) + 1))), (4, .int (dblI (rcI ((t + nw - 1) / nw)))), (7, .int ((nI (subN (un (rot 24 ((skA (fl nw (fun i_ => wAt g oz (4 * i_)) fk) nw t) ((nw + t) - 1)))))) ^^^ ((rcI ((t + nw - 1) / nw)) <<< ((nI 24) &&& 31)))), (6, .int (nI (nw + t))), (3, .int (nI (4 * ((nw + 6) + 1)))), (2, .int (nI nw)), (0, .ref h), (1, .ref o)]) hx hb dX0_schedule_181 hl (by decide) rfl (fun ls hl => ?_)
            have hl : lv_has ls 8 [(5, .int (nI ((t + 1) % nw))), (4, .int (dblI (rcI ((t + nw - 1) / nw)))), (7, .int ((nI (subN (un (rot 24 ((skA (fl nw (fun i_ => wAt g oz (4 * i_)) fk) nw t) ((nw + t) - 1)))))) ^^^ ((rcI ((t + nw - 1) / nw)) <<< ((nI 24) &&& 31)))), (6, .int (nI (nw + t))), (3, .int (nI (4 * ((nw + 6) + 1)))), (2, .int (nI nw)), (0, .ref h), (1, .ref o)] := by have h9 := hl; rw [show nI ((t % nw) + 1) = nI ((t + 1) % nw) by rw [← md_2 hn (by assumption)]] at h9; exact h9
            have hl : lv_has ls 8 [(5, .int (nI ((t + 1) % nw))), (4, .int (rcI ((t + 1 + nw - 1) / nw))), (7, .int ((nI (subN (un (rot 24 ((skA (fl nw (fun i_ => wAt g oz (4 * i_)) fk) nw t) ((nw + t) - 1)))))) ^^^ ((rcI ((t + nw - 1) / nw)) <<< ((nI 24) &&& 31)))), (6, .int (nI (nw + t))), (3, .int (nI (4 * ((nw + 6) + 1)))), (2, .int (nI nw)), (0, .ref h), (1, .ref o)] := by have h9 := hl; rw [rc_s0 hn (by assumption)] at h9; exact h9
            refine lv_iinc (v := nI (nw + t + 1)) (lv' := [(6, .int (nI (nw + t + 1))), (5, .int (nI ((t + 1) % nw))), (4, .int (rcI ((t + 1 + nw - 1) / nw))), (7, .int ((nI (subN (un (rot 24 ((skA (fl nw (fun i_ => wAt g oz (4 * i_)) fk) nw t) ((nw + t) - 1)))))) ^^^ ((rcI ((t + nw - 1) / nw)) <<< ((nI 24) &&& 31)))), (3, .int (nI (4 * ((nw + 6) + 1)))), (2, .int (nI nw)), (0, .ref h), (1, .ref o)]) hx hb dX0_schedule_183 hl (k := 3) rfl (nI_add (nw + t) 1) (by decide) rfl (fun ls hl => ?_)
            refine lv_goto (tgt := 77) hx hb dX0_schedule_186 (by decide) ?_
            exact ih (t + 1) H _ _ (by omega) (by omega) hP hD hS (lv_sub hl [0, 1, 2, 4, 5, 6, 7] rfl)
          · refine lv_iconst (v := nI 0) hx hb dX0_schedule_173 (by decide) ?_
            refine lv_goto (tgt := 181) hx hb dX0_schedule_174 (by decide) ?_
            refine lv_istore (lv' := [(5, .int (nI 0)), (4, .int (dblI (rcI ((t + nw - 1) / nw)))), (7, .int ((nI (subN (un (rot 24 ((skA (fl nw (fun i_ => wAt g oz (4 * i_)) fk) nw t) ((nw + t) - 1)))))) ^^^ ((rcI ((t + nw - 1) / nw)) <<< ((nI 24) &&& 31)))), (6, .int (nI (nw + t))), (3, .int (nI (4 * ((nw + 6) + 1)))), (2, .int (nI nw)), (0, .ref h), (1, .ref o)]) hx hb dX0_schedule_181 hl (by decide) rfl (fun ls hl => ?_)
            have hl : lv_has ls 8 [(5, .int (nI ((t + 1) % nw))), (4, .int (dblI (rcI ((t + nw - 1) / nw)))), (7, .int ((nI (subN (un (rot 24 ((skA (fl nw (fun i_ => wAt g oz (4 * i_)) fk) nw t) ((nw + t) - 1)))))) ^^^ ((rcI ((t + nw - 1) / nw)) <<< ((nI 24) &&& 31)))), (6, .int (nI (nw + t))), (3, .int (nI (4 * ((nw + 6) + 1)))), (2, .int (nI nw)), (0, .ref h), (1, .ref o)] := by have h9 := hl; rw [show nI 0 = nI ((t + 1) % nw) by rw [← md_1 hn (by assumption)]] at h9; exact h9
            have hl : lv_has ls 8 [(5, .int (nI ((t + 1) % nw))), (4, .int (rcI ((t + 1 + nw - 1) / nw))), (7, .int ((nI (subN (un (rot 24 ((skA (fl nw (fun i_ => wAt g oz (4 * i_)) fk) nw t) ((nw + t) - 1)))))) ^^^ ((rcI ((t + nw - 1) / nw)) <<< ((nI 24) &&& 31)))), (6, .int (nI (nw + t))), (3, .int (nI (4 * ((nw + 6) + 1)))), (2, .int (nI nw)), (0, .ref h), (1, .ref o)] := by have h9 := hl; rw [rc_s0 hn (by assumption)] at h9; exact h9
            refine lv_iinc (v := nI (nw + t + 1)) (lv' := [(6, .int (nI (nw + t + 1))), (5, .int (nI ((t + 1) % nw))), (4, .int (rcI ((t + 1 + nw - 1) / nw))), (7, .int ((nI (subN (un (rot 24 ((skA (fl nw (fun i_ => wAt g oz (4 * i_)) fk) nw t) ((nw + t) - 1)))))) ^^^ ((rcI ((t + nw - 1) / nw)) <<< ((nI 24) &&& 31)))), (3, .int (nI (4 * ((nw + 6) + 1)))), (2, .int (nI nw)), (0, .ref h), (1, .ref o)]) hx hb dX0_schedule_183 hl (k := 3) rfl (nI_add (nw + t) 1) (by decide) rfl (fun ls hl => ?_)
            refine lv_goto (tgt := 77) hx hb dX0_schedule_186 (by decide) ?_
            exact ih (t + 1) H _ _ (by omega) (by omega) hP hD hS (lv_sub hl [0, 1, 2, 4, 5, 6, 7] rfl)
    · refine lv_aload_n hx hb dX0_schedule_40 rfl (lv_at hl 2 rfl) ?_
      refine va_get (D := G.1) (ci := 0) (v := .ref ak) (C := RX0) (T := TX0) (N := 6) hx hb hts hinX0 hown hK hP 0 rfl rfl 3 (by decide) (hts (.fieldLink RX0 13 "CipherBox$Aes" "roundKeys" "[I") (by decide +kernel)) (fun _ h9 => h9) rfl dX0_schedule_41 ?_
      refine lv_iload_n hx hb dX0_schedule_44 rfl (lv_at hl 0 rfl) ?_
      refine lv_aload_n hx hb dX0_schedule_45 rfl (lv_at hl 3 rfl) ?_
      refine lv_iconst (v := nI 4) hx hb dX0_schedule_46 (by decide) ?_
      refine lv_iload_n hx hb dX0_schedule_47 rfl (lv_at hl 0 rfl) ?_
      refine w_imulN hx hb dX0_schedule_48 ?_
      refine w_fini (wr := [(h, .inr (0, [.ref ab, .int (nI 4), .ref ao, .ref ak, .ref am, .int (nI (nw + 6))])), (ak, .inl (G.2.1, 60, .inl (fl k (fun i_ => wAt g oz (4 * i_)) fk)))]) (va_runV (As := [.int (nI (4 * k))]) (rest := [.int (nI k), .ref ak]) ⟨hx, hb, hml, hown, hts⟩ (c_Row_wordAt l G o ob on oz g (4 * k) (by omega) (by omega) (by omega) H.size) (cwV 1 hts gX0_schedule_X5_wordAt rfl rfl rfl (by decide +kernel) ⟨Nat.le_of_ble_eq_true rfl, Nat.le_of_ble_eq_true rfl⟩) ⟨wPre.blind, (va_recv hK hP (ci := 4) (q0 := 2) rfl rfl), (fun U hU hW => ⟨rfl, w_pre hK hT hA hP hD hS (isC := [2, 3]) (by decide) rfl U hU hW⟩)⟩ rfl rfl hl.1 rfl (lv_room (Nat.le_of_ble_eq_true rfl)) dX0_schedule_49 ⟨Nat.le_of_ble_eq_true rfl, Nat.le_of_ble_eq_true rfl⟩) hA hP hD hS [2, 3] [0, 1] rfl rfl (by decide) (by decide) (fun r u H locs hpost hP hD hS => ?_)
      obtain rfl := hpost
      have hP : va_P G.1 vwCl [(h, .inr (0, [.ref ab, .int (nI 4), .ref ao, .ref ak, .ref am, .int (nI (nw + 6))])), (ak, .inl (G.2.1, 60, .inl (fl k (fun i_ => wAt g oz (4 * i_)) fk))), (o, .inr (4, [.ref ob, .int (nI oz)])), (ob, .inl (G.2.1, on, .inl g))] H := hP
      have hD : va_D A [(h, .inr (0, [.ref ab, .int (nI 4), .ref ao, .ref ak, .ref am, .int (nI (nw + 6))])), (ak, .inl (G.2.1, 60, .inl (fl k (fun i_ => wAt g oz (4 * i_)) fk))), (o, .inr (4, [.ref ob, .int (nI oz)])), (ob, .inl (G.2.1, on, .inl g))] := hD
      refine w_iast hx hb hK hP hD hS 1 rfl (by omega) (by omega) (fl (k + 1) (fun i_ => wAt g oz (4 * i_)) fk) (fl_s rfl) dX0_schedule_52 (fun H locs hP hD hS => ?_)
      have hP : va_P G.1 vwCl [(h, .inr (0, [.ref ab, .int (nI 4), .ref ao, .ref ak, .ref am, .int (nI (nw + 6))])), (ak, .inl (G.2.1, 60, .inl (fl (k + 1) (fun i_ => wAt g oz (4 * i_)) fk))), (o, .inr (4, [.ref ob, .int (nI oz)])), (ob, .inl (G.2.1, on, .inl g))] H := hP
      have hD : va_D A [(h, .inr (0, [.ref ab, .int (nI 4), .ref ao, .ref ak, .ref am, .int (nI (nw + 6))])), (ak, .inl (G.2.1, 60, .inl (fl (k + 1) (fun i_ => wAt g oz (4 * i_)) fk))), (o, .inr (4, [.ref ob, .int (nI oz)])), (ob, .inl (G.2.1, on, .inl g))] := hD
      refine lv_iinc (v := nI (k + 1)) (lv' := [(3, .int (nI (k + 1))), (2, .int (nI nw)), (0, .ref h), (1, .ref o)]) hx hb dX0_schedule_53 hl (k := 0) rfl (nI_add k 1) (by decide) rfl (fun ls hl => ?_)
      refine lv_goto (tgt := 35) hx hb dX0_schedule_56 (by decide) ?_
      exact ih (k + 1) H _ _ (by omega) (by omega) hP hD hS (lv_sub hl [0, 1, 2, 3] rfl)
  · refine lv_iload_n hx hb dX0_schedule_12 rfl (lv_at hl 0 rfl) ?_
    refine lv_bipush (v := nI 6) hx hb dX0_schedule_13 (by decide) ?_
    refine w_icmpN_eq (tgt := 25) hx hb (by omega) (by omega) dX0_schedule_15 (by decide) (fun h11 => ?_) (fun h11 => ?_)
    · refine lv_aload_n hx hb dX0_schedule_25 rfl (lv_at hl 1 rfl) ?_
      refine lv_iload_n hx hb dX0_schedule_26 rfl (lv_at hl 0 rfl) ?_
      refine lv_bipush (v := nI 6) hx hb dX0_schedule_27 (by decide) ?_
      refine w_iaddN hx hb dX0_schedule_29 ?_
      refine va_put (D := G.1) (ci := 0) (v := .int (nI (nw + 6))) (ty := .int) (C := RX0) (T := TX0) (N := 6) hx hb hts hinX0 tyX0 tyX0_ok nmX0 hown hK hP hD hS 0 rfl rfl 5 (by decide) (hts (.fieldLink RX0 28 "CipherBox$Aes" "rounds" "I") (by decide +kernel)) (fun _ h9 => h9) rfl (by decide +kernel) rfl rfl (Nat.le_of_ble_eq_true rfl) dX0_schedule_30 (fun H locs hP hD hS => ?_)
      have hP : va_P G.1 vwCl [(h, .inr (0, [.ref ab, .int (nI 4), .ref ao, .ref ak, .ref am, .int (nI (nw + 6))])), (ak, .inl (G.2.1, 60, .inl fk)), (o, .inr (4, [.ref ob, .int (nI oz)])), (ob, .inl (G.2.1, on, .inl g))] H := hP
      have hD : va_D A [(h, .inr (0, [.ref ab, .int (nI 4), .ref ao, .ref ak, .ref am, .int (nI (nw + 6))])), (ak, .inl (G.2.1, 60, .inl fk)), (o, .inr (4, [.ref ob, .int (nI oz)])), (ob, .inl (G.2.1, on, .inl g))] := hD
      refine lv_iconst (v := nI 0) hx hb dX0_schedule_33 (by decide) ?_
      refine lv_istore_n (lv' := [(3, .int (nI 0)), (2, .int (nI nw)), (0, .ref h), (1, .ref o)]) hx hb dX0_schedule_34 rfl hl (by decide) rfl (fun ls hl => ?_)
      refine w_loop (ι := Nat) (fun k => nw - k) (fun k => k ≤ nw) (fun k => [(h, .inr (0, [.ref ab, .int (nI 4), .ref ao, .ref ak, .ref am, .int (nI (nw + 6))])), (ak, .inl (G.2.1, 60, .inl (fl k (fun i_ => wAt g oz (4 * i_)) fk))), (o, .inr (4, [.ref ob, .int (nI oz)])), (ob, .inl (G.2.1, on, .inl g))]) (fun k => [(3, .int (nI k)), (2, .int (nI nw)), (0, .ref h), (1, .ref o)]) 0 (by omega) (by simp only [fl_0]; exact hP) (by simp only [fl_0]; exact hD) hS hl ?_
      intro k H locs ls hk hP hD hS hl ih
      have hk : k ≤ nw := hk
      have hP : va_P G.1 vwCl [(h, .inr (0, [.ref ab, .int (nI 4), .ref ao, .ref ak, .ref am, .int (nI (nw + 6))])), (ak, .inl (G.2.1, 60, .inl (fl k (fun i_ => wAt g oz (4 * i_)) fk))), (o, .inr (4, [.ref ob, .int (nI oz)])), (ob, .inl (G.2.1, on, .inl g))] H := hP
      have hD : va_D A [(h, .inr (0, [.ref ab, .int (nI 4), .ref ao, .ref ak, .ref am, .int (nI (nw + 6))])), (ak, .inl (G.2.1, 60, .inl (fl k (fun i_ => wAt g oz (4 * i_)) fk))), (o, .inr (4, [.ref ob, .int (nI oz)])), (ob, .inl (G.2.1, on, .inl g))] := hD
      have hl : lv_has ls 8 [(3, .int (nI k)), (2, .int (nI nw)), (0, .ref h), (1, .ref o)] := hl
      refine lv_iload_n hx hb dX0_schedule_35 rfl (lv_at hl 0 rfl) ?_
      refine lv_iload_n hx hb dX0_schedule_36 rfl (lv_at hl 1 rfl) ?_
      refine w_icmpN_ge (tgt := 59) hx hb (by omega) (by omega) dX0_schedule_37 (by decide) (fun h12 => ?_) (fun h12 => ?_)
      · obtain rfl : nw = k := Eq.symm (show k = nw from by omega)
        refine lv_iconst (v := nI 4) hx hb dX0_schedule_59 (by decide) ?_
        refine lv_aload_n hx hb dX0_schedule_60 rfl (lv_at hl 2 rfl) ?_
        refine va_get (D := G.1) (ci := 0) (v := .int (nI (nw + 6))) (C := RX0) (T := TX0) (N := 6) hx hb hts hinX0 hown hK hP 0 rfl rfl 5 (by decide) (hts (.fieldLink RX0 28 "CipherBox$Aes" "rounds" "I") (by decide +kernel)) (fun _ h9 => h9) rfl dX0_schedule_61 ?_
        refine lv_iconst (v := nI 1) hx hb dX0_schedule_64 (by decide) ?_
        refine w_iaddN hx hb dX0_schedule_65 ?_
        refine w_imulN hx hb dX0_schedule_66 ?_
        refine lv_istore_n (lv' := [(3, .int (nI (4 * ((nw + 6) + 1)))), (2, .int (nI nw)), (0, .ref h), (1, .ref o)]) hx hb dX0_schedule_67 rfl hl (by decide) rfl (fun ls hl => ?_)
        refine lv_iconst (v := nI 1) hx hb dX0_schedule_68 (by decide) ?_
        refine lv_istore (lv' := [(4, .int (nI 1)), (3, .int (nI (4 * ((nw + 6) + 1)))), (2, .int (nI nw)), (0, .ref h), (1, .ref o)]) hx hb dX0_schedule_69 hl (by decide) rfl (fun ls hl => ?_)
        refine lv_iconst (v := nI 0) hx hb dX0_schedule_71 (by decide) ?_
        refine lv_istore (lv' := [(5, .int (nI 0)), (4, .int (nI 1)), (3, .int (nI (4 * ((nw + 6) + 1)))), (2, .int (nI nw)), (0, .ref h), (1, .ref o)]) hx hb dX0_schedule_72 hl (by decide) rfl (fun ls hl => ?_)
        refine lv_iload_n hx hb dX0_schedule_74 rfl (lv_at hl 3 rfl) ?_
        refine lv_istore (lv' := [(6, .int (nI nw)), (5, .int (nI 0)), (4, .int (nI 1)), (3, .int (nI (4 * ((nw + 6) + 1)))), (2, .int (nI nw)), (0, .ref h), (1, .ref o)]) hx hb dX0_schedule_75 hl (by decide) rfl (fun ls hl => ?_)
        refine w_loop (ι := Nat) (fun t => 3 * nw + 28 - t) (fun t => t ≤ 3 * nw + 28) (fun t => [(h, .inr (0, [.ref ab, .int (nI 4), .ref ao, .ref ak, .ref am, .int (nI (nw + 6))])), (ak, .inl (G.2.1, 60, .inl (skA (fl nw (fun i_ => wAt g oz (4 * i_)) fk) nw t))), (o, .inr (4, [.ref ob, .int (nI oz)])), (ob, .inl (G.2.1, on, .inl g))]) (fun t => [(6, .int (nI (nw + t))), (5, .int (nI (t % nw))), (4, .int (rcI ((t + nw - 1) / nw))), (3, .int (nI (4 * ((nw + 6) + 1)))), (2, .int (nI nw)), (0, .ref h), (1, .ref o)]) 0 (by omega) hP hD hS (by have h9 := hl; rw [← rc_0 hn] at h9; exact h9) ?_
        intro t H locs ls hk hP hD hS hl ih
        have hk : t ≤ 3 * nw + 28 := hk
        have hP : va_P G.1 vwCl [(h, .inr (0, [.ref ab, .int (nI 4), .ref ao, .ref ak, .ref am, .int (nI (nw + 6))])), (ak, .inl (G.2.1, 60, .inl (skA (fl nw (fun i_ => wAt g oz (4 * i_)) fk) nw t))), (o, .inr (4, [.ref ob, .int (nI oz)])), (ob, .inl (G.2.1, on, .inl g))] H := hP
        have hD : va_D A [(h, .inr (0, [.ref ab, .int (nI 4), .ref ao, .ref ak, .ref am, .int (nI (nw + 6))])), (ak, .inl (G.2.1, 60, .inl (skA (fl nw (fun i_ => wAt g oz (4 * i_)) fk) nw t))), (o, .inr (4, [.ref ob, .int (nI oz)])), (ob, .inl (G.2.1, on, .inl g))] := hD
        have hl : lv_has ls 8 [(6, .int (nI (nw + t))), (5, .int (nI (t % nw))), (4, .int (rcI ((t + nw - 1) / nw))), (3, .int (nI (4 * ((nw + 6) + 1)))), (2, .int (nI nw)), (0, .ref h), (1, .ref o)] := hl
        refine lv_iload hx hb dX0_schedule_77 (lv_at hl 0 rfl) ?_
        refine lv_iload_n hx hb dX0_schedule_79 rfl (lv_at hl 3 rfl) ?_
        refine w_icmpN_ge (tgt := 189) hx hb (by omega) (by omega) dX0_schedule_80 (by decide) (fun h13 => ?_) (fun h13 => ?_)
        · obtain rfl : 3 * nw + 28 = t := Eq.symm (show t = 3 * nw + 28 from by omega)
          exact hret () H _ 189 ls dX0_schedule_189 (trivial) (hP.sub [0, 1, 2, 3] rfl) (hD.sub [0, 1, 2, 3] (by decide) rfl) hS
        · refine lv_aload_n hx hb dX0_schedule_83 rfl (lv_at hl 5 rfl) ?_
          refine va_get (D := G.1) (ci := 0) (v := .ref ak) (C := RX0) (T := TX0) (N := 6) hx hb hts hinX0 hown hK hP 0 rfl rfl 3 (by decide) (hts (.fieldLink RX0 13 "CipherBox$Aes" "roundKeys" "[I") (by decide +kernel)) (fun _ h9 => h9) rfl dX0_schedule_84 ?_
          refine lv_iload hx hb dX0_schedule_87 (lv_at hl 0 rfl) ?_
          refine lv_iconst (v := nI 1) hx hb dX0_schedule_89 (by decide) ?_
          refine w_isubN hx hb (by omega) dX0_schedule_90 ?_
          refine w_iald hx hb hK hP 1 rfl (by omega) (by omega) dX0_schedule_91 ?_
          refine lv_istore (lv' := [(7, .int ((skA (fl nw (fun i_ => wAt g oz (4 * i_)) fk) nw t) ((nw + t) - 1))), (6, .int (nI (nw + t))), (5, .int (nI (t % nw))), (4, .int (rcI ((t + nw - 1) / nw))), (3, .int (nI (4 * ((nw + 6) + 1)))), (2, .int (nI nw)), (0, .ref h), (1, .ref o)]) hx hb dX0_schedule_92 hl (by decide) rfl (fun ls hl => ?_)
          refine lv_iload hx hb dX0_schedule_94 (lv_at hl 2 rfl) ?_
          refine w_ifN_ne (tgt := 127) hx hb (Nat.lt_of_le_of_lt (Nat.mod_le _ _) (by omega)) dX0_schedule_96 (by decide) (fun h14 => ?_) (fun h14 => ?_)
          · refine lv_iload_n hx hb dX0_schedule_127 rfl (lv_at hl 5 rfl) ?_
            refine lv_bipush (v := nI 8) hx hb dX0_schedule_128 (by decide) ?_
            refine w_icmpN_ne (tgt := 146) hx hb (by omega) (by omega) dX0_schedule_130 (by decide) (fun h15 => ?_) (fun h15 => ?_)
            · refine lv_aload_n hx hb dX0_schedule_146 rfl (lv_at hl 6 rfl) ?_
              refine va_get (D := G.1) (ci := 0) (v := .ref ak) (C := RX0) (T := TX0) (N := 6) hx hb hts hinX0 hown hK hP 0 rfl rfl 3 (by decide) (hts (.fieldLink RX0 13 "CipherBox$Aes" "roundKeys" "[I") (by decide +kernel)) (fun _ h9 => h9) rfl dX0_schedule_147 ?_
              refine lv_iload hx hb dX0_schedule_150 (lv_at hl 1 rfl) ?_
              refine lv_aload_n hx hb dX0_schedule_152 rfl (lv_at hl 6 rfl) ?_
              refine va_get (D := G.1) (ci := 0) (v := .ref ak) (C := RX0) (T := TX0) (N := 6) hx hb hts hinX0 hown hK hP 0 rfl rfl 3 (by decide) (hts (.fieldLink RX0 13 "CipherBox$Aes" "roundKeys" "[I") (by decide +kernel)) (fun _ h9 => h9) rfl dX0_schedule_153 ?_
              refine lv_iload hx hb dX0_schedule_156 (lv_at hl 1 rfl) ?_
              refine lv_iload_n hx hb dX0_schedule_158 rfl (lv_at hl 5 rfl) ?_
              refine w_isubN hx hb (by omega) dX0_schedule_159 ?_
              refine w_iald hx hb hK hP 1 rfl (by omega) (by omega) dX0_schedule_160 ?_
              refine lv_iload hx hb dX0_schedule_161 (lv_at hl 0 rfl) ?_
              refine lv_ixor hx hb dX0_schedule_163 ?_
              refine w_iast hx hb hK hP hD hS 1 rfl (by omega) (by omega) (skA (fl nw (fun i_ => wAt g oz (4 * i_)) fk) nw (t + 1)) (skA_s (by unfold skT; first | rw [if_pos (by assumption)] | rw [if_neg (by assumption), if_pos ⟨by assumption, by assumption⟩] | rw [if_neg (by assumption), if_neg (fun q9 => by first | exact absurd q9.1 (by assumption) | exact absurd q9.2 (by assumption))])) dX0_schedule_164 (fun H locs hP hD hS => ?_)
              have hP : va_P G.1 vwCl [(h, .inr (0, [.ref ab, .int (nI 4), .ref ao, .ref ak, .ref am, .int (nI (nw + 6))])), (ak, .inl (G.2.1, 60, .inl (skA (fl nw (fun i_ => wAt g oz (4 * i_)) fk) nw (t + 1)))), (o, .inr (4, [.ref ob, .int (nI oz)])), (ob, .inl (G.2.1, on, .inl g))] H := hP
              have hD : va_D A [(h, .inr (0, [.ref ab, .int (nI 4), .ref ao, .ref ak, .ref am, .int (nI (nw + 6))])), (ak, .inl (G.2.1, 60, .inl (skA (fl nw (fun i_ => wAt g oz (4 * i_)) fk) nw (t + 1)))), (o, .inr (4, [.ref ob, .int (nI oz)])), (ob, .inl (G.2.1, on, .inl g))] := hD
              refine lv_iload hx hb dX0_schedule_165 (lv_at hl 2 rfl) ?_
              refine lv_iconst (v := nI 1) hx hb dX0_schedule_167 (by decide) ?_
              refine w_iaddN hx hb dX0_schedule_168 ?_
              refine lv_iload_n hx hb dX0_schedule_169 rfl (lv_at hl 5 rfl) ?_
              refine w_icmpN_ne (tgt := 177) hx hb (Nat.lt_of_le_of_lt (Nat.add_le_add_right (Nat.mod_le _ _) 1) (by omega)) (by omega) dX0_schedule_170 (by decide) (fun h16 => ?_) (fun h16 => ?_)
              · refine lv_iload hx hb dX0_schedule_177 (lv_at hl 2 rfl) ?_
                refine lv_iconst (v := nI 1) hx hb dX0_schedule_179 (by decide) ?_
                refine w_iaddN hx hb dX0_schedule_180 ?_
                refine lv_istore (lv' := [(5, .int (nI ((t % nw) + 1))), (7, .int ((skA (fl nw (fun i_ => wAt g oz (4 * i_)) fk) nw t) ((nw + t) - 1))), (6, .int (nI (nw + t))), (4, .int (rcI ((t + nw - 1) / nw))), (3, .int (nI (4 * ((nw + 6) + 1)))), (2, .int (nI nw)), (0, .ref h), (1, .ref o)]) hx hb dX0_schedule_181 hl (by decide) rfl (fun ls hl => ?_)
                have hl : lv_has ls 8 [(5, .int (nI ((t + 1) % nw))), (7, .int ((skA (fl nw (fun i_ => wAt g oz (4 * i_)) fk) nw t) ((nw + t) - 1))), (6, .int (nI (nw + t))), (4, .int (rcI ((t + nw - 1) / nw))), (3, .int (nI (4 * ((nw + 6) + 1)))), (2, .int (nI nw)), (0, .ref h), (1, .ref o)] := by have h9 := hl; rw [show nI ((t % nw) + 1) = nI ((t + 1) % nw) by rw [← md_2 hn (by assumption)]] at h9; exact h9
                have hl : lv_has ls 8 [(5, .int (nI ((t + 1) % nw))), (7, .int ((skA (fl nw (fun i_ => wAt g oz (4 * i_)) fk) nw t) ((nw + t) - 1))), (6, .int (nI (nw + t))), (4, .int (rcI ((t + 1 + nw - 1) / nw))), (3, .int (nI (4 * ((nw + 6) + 1)))), (2, .int (nI nw)), (0, .ref h), (1, .ref o)] := by have h9 := hl; rw [rc_s1 hn (by assumption)] at h9; exact h9
                refine lv_iinc (v := nI (nw + t + 1)) (lv' := [(6, .int (nI (nw + t + 1))), (5, .int (nI ((t + 1) % nw))), (7, .int ((skA (fl nw (fun i_ => wAt g oz (4 * i_)) fk) nw t) ((nw + t) - 1))), (4, .int (rcI ((t + 1 + nw - 1) / nw))), (3, .int (nI (4 * ((nw + 6) + 1)))), (2, .int (nI nw)), (0, .ref h), (1, .ref o)]) hx hb dX0_schedule_183 hl (k := 2) rfl (nI_add (nw + t) 1) (by decide) rfl (fun ls hl => ?_)
                refine lv_goto (tgt := 77) hx hb dX0_schedule_186 (by decide) ?_
                exact ih (t + 1) H _ _ (by omega) (by omega) hP hD hS (lv_sub hl [0, 1, 3, 4, 5, 6, 7] rfl)
              · refine lv_iconst (v := nI 0) hx hb dX0_schedule_173 (by decide) ?_
                refine lv_goto (tgt := 181) hx hb dX0_schedule_174 (by decide) ?_
                refine lv_istore (lv' := [(5, .int (nI 0)), (7, .int ((skA (fl nw (fun i_ => wAt g oz (4 * i_)) fk) nw t) ((nw + t) - 1))), (6, .int (nI (nw + t))), (4, .int (rcI ((t + nw - 1) / nw))), (3, .int (nI (4 * ((nw + 6) + 1)))), (2, .int (nI nw)), (0, .ref h), (1, .ref o)]) hx hb dX0_schedule_181 hl (by decide) rfl (fun ls hl => ?_)
                have hl : lv_has ls 8 [(5, .int (nI ((t + 1) % nw))), (7, .int ((skA (fl nw (fun i_ => wAt g oz (4 * i_)) fk) nw t) ((nw + t) - 1))), (6, .int (nI (nw + t))), (4, .int (rcI ((t + nw - 1) / nw))), (3, .int (nI (4 * ((nw + 6) + 1)))), (2, .int (nI nw)), (0, .ref h), (1, .ref o)] := by have h9 := hl; rw [show nI 0 = nI ((t + 1) % nw) by rw [← md_1 hn (by assumption)]] at h9; exact h9
                have hl : lv_has ls 8 [(5, .int (nI ((t + 1) % nw))), (7, .int ((skA (fl nw (fun i_ => wAt g oz (4 * i_)) fk) nw t) ((nw + t) - 1))), (6, .int (nI (nw + t))), (4, .int (rcI ((t + 1 + nw - 1) / nw))), (3, .int (nI (4 * ((nw + 6) + 1)))), (2, .int (nI nw)), (0, .ref h), (1, .ref o)] := by have h9 := hl; rw [rc_s1 hn (by assumption)] at h9; exact h9
                refine lv_iinc (v := nI (nw + t + 1)) (lv' := [(6, .int (nI (nw + t + 1))), (5, .int (nI ((t + 1) % nw))), (7, .int ((skA (fl nw (fun i_ => wAt g oz (4 * i_)) fk) nw t) ((nw + t) - 1))), (4, .int (rcI ((t + 1 + nw - 1) / nw))), (3, .int (nI (4 * ((nw + 6) + 1)))), (2, .int (nI nw)), (0, .ref h), (1, .ref o)]) hx hb dX0_schedule_183 hl (k := 2) rfl (nI_add (nw + t) 1) (by decide) rfl (fun ls hl => ?_)
                refine lv_goto (tgt := 77) hx hb dX0_schedule_186 (by decide) ?_
                exact ih (t + 1) H _ _ (by omega) (by omega) hP hD hS (lv_sub hl [0, 1, 3, 4, 5, 6, 7] rfl)
            · refine lv_iload hx hb dX0_schedule_133 (lv_at hl 2 rfl) ?_
              refine lv_iconst (v := nI 4) hx hb dX0_schedule_135 (by decide) ?_
              refine w_icmpN_ne (tgt := 146) hx hb (Nat.lt_of_le_of_lt (Nat.mod_le _ _) (by omega)) (by decide) dX0_schedule_136 (by decide) (fun h17 => ?_) (fun h17 => ?_)
              · refine lv_aload_n hx hb dX0_schedule_146 rfl (lv_at hl 6 rfl) ?_
                refine va_get (D := G.1) (ci := 0) (v := .ref ak) (C := RX0) (T := TX0) (N := 6) hx hb hts hinX0 hown hK hP 0 rfl rfl 3 (by decide) (hts (.fieldLink RX0 13 "CipherBox$Aes" "roundKeys" "[I") (by decide +kernel)) (fun _ h9 => h9) rfl dX0_schedule_147 ?_
                refine lv_iload hx hb dX0_schedule_150 (lv_at hl 1 rfl) ?_
                refine lv_aload_n hx hb dX0_schedule_152 rfl (lv_at hl 6 rfl) ?_
                refine va_get (D := G.1) (ci := 0) (v := .ref ak) (C := RX0) (T := TX0) (N := 6) hx hb hts hinX0 hown hK hP 0 rfl rfl 3 (by decide) (hts (.fieldLink RX0 13 "CipherBox$Aes" "roundKeys" "[I") (by decide +kernel)) (fun _ h9 => h9) rfl dX0_schedule_153 ?_
                refine lv_iload hx hb dX0_schedule_156 (lv_at hl 1 rfl) ?_
                refine lv_iload_n hx hb dX0_schedule_158 rfl (lv_at hl 5 rfl) ?_
                refine w_isubN hx hb (by omega) dX0_schedule_159 ?_
                refine w_iald hx hb hK hP 1 rfl (by omega) (by omega) dX0_schedule_160 ?_
                refine lv_iload hx hb dX0_schedule_161 (lv_at hl 0 rfl) ?_
                refine lv_ixor hx hb dX0_schedule_163 ?_
                refine w_iast hx hb hK hP hD hS 1 rfl (by omega) (by omega) (skA (fl nw (fun i_ => wAt g oz (4 * i_)) fk) nw (t + 1)) (skA_s (by unfold skT; first | rw [if_pos (by assumption)] | rw [if_neg (by assumption), if_pos ⟨by assumption, by assumption⟩] | rw [if_neg (by assumption), if_neg (fun q9 => by first | exact absurd q9.1 (by assumption) | exact absurd q9.2 (by assumption))])) dX0_schedule_164 (fun H locs hP hD hS => ?_)
                have hP : va_P G.1 vwCl [(h, .inr (0, [.ref ab, .int (nI 4), .ref ao, .ref ak, .ref am, .int (nI (nw + 6))])), (ak, .inl (G.2.1, 60, .inl (skA (fl nw (fun i_ => wAt g oz (4 * i_)) fk) nw (t + 1)))), (o, .inr (4, [.ref ob, .int (nI oz)])), (ob, .inl (G.2.1, on, .inl g))] H := hP
                have hD : va_D A [(h, .inr (0, [.ref ab, .int (nI 4), .ref ao, .ref ak, .ref am, .int (nI (nw + 6))])), (ak, .inl (G.2.1, 60, .inl (skA (fl nw (fun i_ => wAt g oz (4 * i_)) fk) nw (t + 1)))), (o, .inr (4, [.ref ob, .int (nI oz)])), (ob, .inl (G.2.1, on, .inl g))] := hD
                refine lv_iload hx hb dX0_schedule_165 (lv_at hl 2 rfl) ?_
                refine lv_iconst (v := nI 1) hx hb dX0_schedule_167 (by decide) ?_
                refine w_iaddN hx hb dX0_schedule_168 ?_
                refine lv_iload_n hx hb dX0_schedule_169 rfl (lv_at hl 5 rfl) ?_
                refine w_icmpN_ne (tgt := 177) hx hb (Nat.lt_of_le_of_lt (Nat.add_le_add_right (Nat.mod_le _ _) 1) (by omega)) (by omega) dX0_schedule_170 (by decide) (fun h18 => ?_) (fun h18 => ?_)
                · refine lv_iload hx hb dX0_schedule_177 (lv_at hl 2 rfl) ?_
                  refine lv_iconst (v := nI 1) hx hb dX0_schedule_179 (by decide) ?_
                  refine w_iaddN hx hb dX0_schedule_180 ?_
                  refine lv_istore (lv' := [(5, .int (nI ((t % nw) + 1))), (7, .int ((skA (fl nw (fun i_ => wAt g oz (4 * i_)) fk) nw t) ((nw + t) - 1))), (6, .int (nI (nw + t))), (4, .int (rcI ((t + nw - 1) / nw))), (3, .int (nI (4 * ((nw + 6) + 1)))), (2, .int (nI nw)), (0, .ref h), (1, .ref o)]) hx hb dX0_schedule_181 hl (by decide) rfl (fun ls hl => ?_)
                  have hl : lv_has ls 8 [(5, .int (nI ((t + 1) % nw))), (7, .int ((skA (fl nw (fun i_ => wAt g oz (4 * i_)) fk) nw t) ((nw + t) - 1))), (6, .int (nI (nw + t))), (4, .int (rcI ((t + nw - 1) / nw))), (3, .int (nI (4 * ((nw + 6) + 1)))), (2, .int (nI nw)), (0, .ref h), (1, .ref o)] := by have h9 := hl; rw [show nI ((t % nw) + 1) = nI ((t + 1) % nw) by rw [← md_2 hn (by assumption)]] at h9; exact h9
                  have hl : lv_has ls 8 [(5, .int (nI ((t + 1) % nw))), (7, .int ((skA (fl nw (fun i_ => wAt g oz (4 * i_)) fk) nw t) ((nw + t) - 1))), (6, .int (nI (nw + t))), (4, .int (rcI ((t + 1 + nw - 1) / nw))), (3, .int (nI (4 * ((nw + 6) + 1)))), (2, .int (nI nw)), (0, .ref h), (1, .ref o)] := by have h9 := hl; rw [rc_s1 hn (by assumption)] at h9; exact h9
                  refine lv_iinc (v := nI (nw + t + 1)) (lv' := [(6, .int (nI (nw + t + 1))), (5, .int (nI ((t + 1) % nw))), (7, .int ((skA (fl nw (fun i_ => wAt g oz (4 * i_)) fk) nw t) ((nw + t) - 1))), (4, .int (rcI ((t + 1 + nw - 1) / nw))), (3, .int (nI (4 * ((nw + 6) + 1)))), (2, .int (nI nw)), (0, .ref h), (1, .ref o)]) hx hb dX0_schedule_183 hl (k := 2) rfl (nI_add (nw + t) 1) (by decide) rfl (fun ls hl => ?_)
                  refine lv_goto (tgt := 77) hx hb dX0_schedule_186 (by decide) ?_
                  exact ih (t + 1) H _ _ (by omega) (by omega) hP hD hS (lv_sub hl [0, 1, 3, 4, 5, 6, 7] rfl)
                · refine lv_iconst (v := nI 0) hx hb dX0_schedule_173 (by decide) ?_
                  refine lv_goto (tgt := 181) hx hb dX0_schedule_174 (by decide) ?_
                  refine lv_istore (lv' := [(5, .int (nI 0)), (7, .int ((skA (fl nw (fun i_ => wAt g oz (4 * i_)) fk) nw t) ((nw + t) - 1))), (6, .int (nI (nw + t))), (4, .int (rcI ((t + nw - 1) / nw))), (3, .int (nI (4 * ((nw + 6) + 1)))), (2, .int (nI nw)), (0, .ref h), (1, .ref o)]) hx hb dX0_schedule_181 hl (by decide) rfl (fun ls hl => ?_)
                  have hl : lv_has ls 8 [(5, .int (nI ((t + 1) % nw))), (7, .int ((skA (fl nw (fun i_ => wAt g oz (4 * i_)) fk) nw t) ((nw + t) - 1))), (6, .int (nI (nw + t))), (4, .int (rcI ((t + nw - 1) / nw))), (3, .int (nI (4 * ((nw + 6) + 1)))), (2, .int (nI nw)), (0, .ref h), (1, .ref o)] := by have h9 := hl; rw [show nI 0 = nI ((t + 1) % nw) by rw [← md_1 hn (by assumption)]] at h9; exact h9
                  have hl : lv_has ls 8 [(5, .int (nI ((t + 1) % nw))), (7, .int ((skA (fl nw (fun i_ => wAt g oz (4 * i_)) fk) nw t) ((nw + t) - 1))), (6, .int (nI (nw + t))), (4, .int (rcI ((t + 1 + nw - 1) / nw))), (3, .int (nI (4 * ((nw + 6) + 1)))), (2, .int (nI nw)), (0, .ref h), (1, .ref o)] := by have h9 := hl; rw [rc_s1 hn (by assumption)] at h9; exact h9
                  refine lv_iinc (v := nI (nw + t + 1)) (lv' := [(6, .int (nI (nw + t + 1))), (5, .int (nI ((t + 1) % nw))), (7, .int ((skA (fl nw (fun i_ => wAt g oz (4 * i_)) fk) nw t) ((nw + t) - 1))), (4, .int (rcI ((t + 1 + nw - 1) / nw))), (3, .int (nI (4 * ((nw + 6) + 1)))), (2, .int (nI nw)), (0, .ref h), (1, .ref o)]) hx hb dX0_schedule_183 hl (k := 2) rfl (nI_add (nw + t) 1) (by decide) rfl (fun ls hl => ?_)
                  refine lv_goto (tgt := 77) hx hb dX0_schedule_186 (by decide) ?_
                  exact ih (t + 1) H _ _ (by omega) (by omega) hP hD hS (lv_sub hl [0, 1, 3, 4, 5, 6, 7] rfl)
              · refine lv_iload hx hb dX0_schedule_139 (lv_at hl 0 rfl) ?_
                refine w_fini (wr := [(h, .inr (0, [.ref ab, .int (nI 4), .ref ao, .ref ak, .ref am, .int (nI (nw + 6))])), (ak, .inl (G.2.1, 60, .inl (skA (fl nw (fun i_ => wAt g oz (4 * i_)) fk) nw t))), (o, .inr (4, [.ref ob, .int (nI oz)])), (ob, .inl (G.2.1, on, .inl g))]) (va_runS (As := [.int ((skA (fl nw (fun i_ => wAt g oz (4 * i_)) fk) nw t) ((nw + t) - 1))]) (rest := []) ⟨hx, hb, hml, hown, hts⟩ (c_Aes_substituted l G ((skA (fl nw (fun i_ => wAt g oz (4 * i_)) fk) nw t) ((nw + t) - 1)) H.size) (va_cwS 1 hts gX0_schedule_X0_substituted rfl rfl rfl (by decide +kernel) ⟨Nat.le_of_ble_eq_true rfl, Nat.le_of_ble_eq_true rfl⟩) ⟨wPre.blind, (fun U hU hW => ⟨rfl, w_pre hK hT hA hP hD hS (isC := []) (by decide) rfl U hU hW⟩)⟩ rfl rfl hl.1 rfl (lv_room (Nat.le_of_ble_eq_true rfl)) dX0_schedule_141 ⟨Nat.le_of_ble_eq_true rfl, Nat.le_of_ble_eq_true rfl⟩) hA hP hD hS [] [0, 1, 2, 3] rfl rfl (by decide) (by decide) (fun r u H locs hpost hP hD hS => ?_)
                obtain rfl := hpost
                have hP : va_P G.1 vwCl [(h, .inr (0, [.ref ab, .int (nI 4), .ref ao, .ref ak, .ref am, .int (nI (nw + 6))])), (ak, .inl (G.2.1, 60, .inl (skA (fl nw (fun i_ => wAt g oz (4 * i_)) fk) nw t))), (o, .inr (4, [.ref ob, .int (nI oz)])), (ob, .inl (G.2.1, on, .inl g))] H := hP
                have hD : va_D A [(h, .inr (0, [.ref ab, .int (nI 4), .ref ao, .ref ak, .ref am, .int (nI (nw + 6))])), (ak, .inl (G.2.1, 60, .inl (skA (fl nw (fun i_ => wAt g oz (4 * i_)) fk) nw t))), (o, .inr (4, [.ref ob, .int (nI oz)])), (ob, .inl (G.2.1, on, .inl g))] := hD
                refine lv_istore (lv' := [(7, .int (nI (subN (un ((skA (fl nw (fun i_ => wAt g oz (4 * i_)) fk) nw t) ((nw + t) - 1)))))), (6, .int (nI (nw + t))), (5, .int (nI (t % nw))), (4, .int (rcI ((t + nw - 1) / nw))), (3, .int (nI (4 * ((nw + 6) + 1)))), (2, .int (nI nw)), (0, .ref h), (1, .ref o)]) hx hb dX0_schedule_144 hl (by decide) rfl (fun ls hl => ?_)
                refine lv_aload_n hx hb dX0_schedule_146 rfl (lv_at hl 6 rfl) ?_
                refine va_get (D := G.1) (ci := 0) (v := .ref ak) (C := RX0) (T := TX0) (N := 6) hx hb hts hinX0 hown hK hP 0 rfl rfl 3 (by decide) (hts (.fieldLink RX0 13 "CipherBox$Aes" "roundKeys" "[I") (by decide +kernel)) (fun _ h9 => h9) rfl dX0_schedule_147 ?_
                refine lv_iload hx hb dX0_schedule_150 (lv_at hl 1 rfl) ?_
                refine lv_aload_n hx hb dX0_schedule_152 rfl (lv_at hl 6 rfl) ?_
                refine va_get (D := G.1) (ci := 0) (v := .ref ak) (C := RX0) (T := TX0) (N := 6) hx hb hts hinX0 hown hK hP 0 rfl rfl 3 (by decide) (hts (.fieldLink RX0 13 "CipherBox$Aes" "roundKeys" "[I") (by decide +kernel)) (fun _ h9 => h9) rfl dX0_schedule_153 ?_
                refine lv_iload hx hb dX0_schedule_156 (lv_at hl 1 rfl) ?_
                refine lv_iload_n hx hb dX0_schedule_158 rfl (lv_at hl 5 rfl) ?_
                refine w_isubN hx hb (by omega) dX0_schedule_159 ?_
                refine w_iald hx hb hK hP 1 rfl (by omega) (by omega) dX0_schedule_160 ?_
                refine lv_iload hx hb dX0_schedule_161 (lv_at hl 0 rfl) ?_
                refine lv_ixor hx hb dX0_schedule_163 ?_
                refine w_iast hx hb hK hP hD hS 1 rfl (by omega) (by omega) (skA (fl nw (fun i_ => wAt g oz (4 * i_)) fk) nw (t + 1)) (skA_s (by unfold skT; first | rw [if_pos (by assumption)] | rw [if_neg (by assumption), if_pos ⟨by assumption, by assumption⟩] | rw [if_neg (by assumption), if_neg (fun q9 => by first | exact absurd q9.1 (by assumption) | exact absurd q9.2 (by assumption))])) dX0_schedule_164 (fun H locs hP hD hS => ?_)
                have hP : va_P G.1 vwCl [(h, .inr (0, [.ref ab, .int (nI 4), .ref ao, .ref ak, .ref am, .int (nI (nw + 6))])), (ak, .inl (G.2.1, 60, .inl (skA (fl nw (fun i_ => wAt g oz (4 * i_)) fk) nw (t + 1)))), (o, .inr (4, [.ref ob, .int (nI oz)])), (ob, .inl (G.2.1, on, .inl g))] H := hP
                have hD : va_D A [(h, .inr (0, [.ref ab, .int (nI 4), .ref ao, .ref ak, .ref am, .int (nI (nw + 6))])), (ak, .inl (G.2.1, 60, .inl (skA (fl nw (fun i_ => wAt g oz (4 * i_)) fk) nw (t + 1)))), (o, .inr (4, [.ref ob, .int (nI oz)])), (ob, .inl (G.2.1, on, .inl g))] := hD
                refine lv_iload hx hb dX0_schedule_165 (lv_at hl 2 rfl) ?_
                refine lv_iconst (v := nI 1) hx hb dX0_schedule_167 (by decide) ?_
                refine w_iaddN hx hb dX0_schedule_168 ?_
                refine lv_iload_n hx hb dX0_schedule_169 rfl (lv_at hl 5 rfl) ?_
                refine w_icmpN_ne (tgt := 177) hx hb (Nat.lt_of_le_of_lt (Nat.add_le_add_right (Nat.mod_le _ _) 1) (by omega)) (by omega) dX0_schedule_170 (by decide) (fun h19 => ?_) (fun h19 => ?_)
                · refine lv_iload hx hb dX0_schedule_177 (lv_at hl 2 rfl) ?_
                  refine lv_iconst (v := nI 1) hx hb dX0_schedule_179 (by decide) ?_
                  refine w_iaddN hx hb dX0_schedule_180 ?_
                  refine lv_istore (lv' := [(5, .int (nI ((t % nw) + 1))), (7, .int (nI (subN (un ((skA (fl nw (fun i_ => wAt g oz (4 * i_)) fk) nw t) ((nw + t) - 1)))))), (6, .int (nI (nw + t))), (4, .int (rcI ((t + nw - 1) / nw))), (3, .int (nI (4 * ((nw + 6) + 1)))), (2, .int (nI nw)), (0, .ref h), (1, .ref o)]) hx hb dX0_schedule_181 hl (by decide) rfl (fun ls hl => ?_)
                  have hl : lv_has ls 8 [(5, .int (nI ((t + 1) % nw))), (7, .int (nI (subN (un ((skA (fl nw (fun i_ => wAt g oz (4 * i_)) fk) nw t) ((nw + t) - 1)))))), (6, .int (nI (nw + t))), (4, .int (rcI ((t + nw - 1) / nw))), (3, .int (nI (4 * ((nw + 6) + 1)))), (2, .int (nI nw)), (0, .ref h), (1, .ref o)] := by have h9 := hl; rw [show nI ((t % nw) + 1) = nI ((t + 1) % nw) by rw [← md_2 hn (by assumption)]] at h9; exact h9
                  have hl : lv_has ls 8 [(5, .int (nI ((t + 1) % nw))), (7, .int (nI (subN (un ((skA (fl nw (fun i_ => wAt g oz (4 * i_)) fk) nw t) ((nw + t) - 1)))))), (6, .int (nI (nw + t))), (4, .int (rcI ((t + 1 + nw - 1) / nw))), (3, .int (nI (4 * ((nw + 6) + 1)))), (2, .int (nI nw)), (0, .ref h), (1, .ref o)] := by have h9 := hl; rw [rc_s1 hn (by assumption)] at h9; exact h9
                  refine lv_iinc (v := nI (nw + t + 1)) (lv' := [(6, .int (nI (nw + t + 1))), (5, .int (nI ((t + 1) % nw))), (7, .int (nI (subN (un ((skA (fl nw (fun i_ => wAt g oz (4 * i_)) fk) nw t) ((nw + t) - 1)))))), (4, .int (rcI ((t + 1 + nw - 1) / nw))), (3, .int (nI (4 * ((nw + 6) + 1)))), (2, .int (nI nw)), (0, .ref h), (1, .ref o)]) hx hb dX0_schedule_183 hl (k := 2) rfl (nI_add (nw + t) 1) (by decide) rfl (fun ls hl => ?_)
                  refine lv_goto (tgt := 77) hx hb dX0_schedule_186 (by decide) ?_
                  exact ih (t + 1) H _ _ (by omega) (by omega) hP hD hS (lv_sub hl [0, 1, 3, 4, 5, 6, 7] rfl)
                · refine lv_iconst (v := nI 0) hx hb dX0_schedule_173 (by decide) ?_
                  refine lv_goto (tgt := 181) hx hb dX0_schedule_174 (by decide) ?_
                  refine lv_istore (lv' := [(5, .int (nI 0)), (7, .int (nI (subN (un ((skA (fl nw (fun i_ => wAt g oz (4 * i_)) fk) nw t) ((nw + t) - 1)))))), (6, .int (nI (nw + t))), (4, .int (rcI ((t + nw - 1) / nw))), (3, .int (nI (4 * ((nw + 6) + 1)))), (2, .int (nI nw)), (0, .ref h), (1, .ref o)]) hx hb dX0_schedule_181 hl (by decide) rfl (fun ls hl => ?_)
                  have hl : lv_has ls 8 [(5, .int (nI ((t + 1) % nw))), (7, .int (nI (subN (un ((skA (fl nw (fun i_ => wAt g oz (4 * i_)) fk) nw t) ((nw + t) - 1)))))), (6, .int (nI (nw + t))), (4, .int (rcI ((t + nw - 1) / nw))), (3, .int (nI (4 * ((nw + 6) + 1)))), (2, .int (nI nw)), (0, .ref h), (1, .ref o)] := by have h9 := hl; rw [show nI 0 = nI ((t + 1) % nw) by rw [← md_1 hn (by assumption)]] at h9; exact h9
                  have hl : lv_has ls 8 [(5, .int (nI ((t + 1) % nw))), (7, .int (nI (subN (un ((skA (fl nw (fun i_ => wAt g oz (4 * i_)) fk) nw t) ((nw + t) - 1)))))), (6, .int (nI (nw + t))), (4, .int (rcI ((t + 1 + nw - 1) / nw))), (3, .int (nI (4 * ((nw + 6) + 1)))), (2, .int (nI nw)), (0, .ref h), (1, .ref o)] := by have h9 := hl; rw [rc_s1 hn (by assumption)] at h9; exact h9
                  refine lv_iinc (v := nI (nw + t + 1)) (lv' := [(6, .int (nI (nw + t + 1))), (5, .int (nI ((t + 1) % nw))), (7, .int (nI (subN (un ((skA (fl nw (fun i_ => wAt g oz (4 * i_)) fk) nw t) ((nw + t) - 1)))))), (4, .int (rcI ((t + 1 + nw - 1) / nw))), (3, .int (nI (4 * ((nw + 6) + 1)))), (2, .int (nI nw)), (0, .ref h), (1, .ref o)]) hx hb dX0_schedule_183 hl (k := 2) rfl (nI_add (nw + t) 1) (by decide) rfl (fun ls hl => ?_)
                  refine lv_goto (tgt := 77) hx hb dX0_schedule_186 (by decide) ?_
                  exact ih (t + 1) H _ _ (by omega) (by omega) hP hD hS (lv_sub hl [0, 1, 3, 4, 5, 6, 7] rfl)
          · refine lv_iload hx hb dX0_schedule_99 (lv_at hl 0 rfl) ?_
            refine lv_bipush (v := nI 24) hx hb dX0_schedule_101 (by decide) ?_
            refine w_fini (wr := [(h, .inr (0, [.ref ab, .int (nI 4), .ref ao, .ref ak, .ref am, .int (nI (nw + 6))])), (ak, .inl (G.2.1, 60, .inl (skA (fl nw (fun i_ => wAt g oz (4 * i_)) fk) nw t))), (o, .inr (4, [.ref ob, .int (nI oz)])), (ob, .inl (G.2.1, on, .inl g))]) (va_runSN (As := [.int ((skA (fl nw (fun i_ => wAt g oz (4 * i_)) fk) nw t) ((nw + t) - 1)), .int (nI 24)]) (rest := []) ⟨hx, hb, hml, hown, hts⟩ (c_turnRight l G ((skA (fl nw (fun i_ => wAt g oz (4 * i_)) fk) nw t) ((nw + t) - 1)) 24 H.size) ⟨va_cnB 2 hts gX0_schedule_X7_turnRight_n36 rfl rfl rfl hT.2.2.2.1 (hts (.initialized RX7) (by decide +kernel)) (by decide +kernel) ⟨Nat.le_of_ble_eq_true rfl, Nat.le_of_ble_eq_true rfl⟩, hts (.static yX7_turnRight) (by decide +kernel), trivial⟩ ⟨wPre.blind, (fun U hU hW => ⟨rfl, w_pre hK hT hA hP hD hS (isC := []) (by decide) rfl U hU hW⟩)⟩ rfl rfl hl.1 rfl (lv_room (Nat.le_of_ble_eq_true rfl)) dX0_schedule_103 ⟨Nat.le_of_ble_eq_true rfl, Nat.le_of_ble_eq_true rfl⟩) hA hP hD hS [] [0, 1, 2, 3] rfl rfl (by decide) (by decide) (fun r u H locs hpost hP hD hS => ?_)
            obtain rfl := hpost
            have hP : va_P G.1 vwCl [(h, .inr (0, [.ref ab, .int (nI 4), .ref ao, .ref ak, .ref am, .int (nI (nw + 6))])), (ak, .inl (G.2.1, 60, .inl (skA (fl nw (fun i_ => wAt g oz (4 * i_)) fk) nw t))), (o, .inr (4, [.ref ob, .int (nI oz)])), (ob, .inl (G.2.1, on, .inl g))] H := hP
            have hD : va_D A [(h, .inr (0, [.ref ab, .int (nI 4), .ref ao, .ref ak, .ref am, .int (nI (nw + 6))])), (ak, .inl (G.2.1, 60, .inl (skA (fl nw (fun i_ => wAt g oz (4 * i_)) fk) nw t))), (o, .inr (4, [.ref ob, .int (nI oz)])), (ob, .inl (G.2.1, on, .inl g))] := hD
            refine w_fini (wr := [(h, .inr (0, [.ref ab, .int (nI 4), .ref ao, .ref ak, .ref am, .int (nI (nw + 6))])), (ak, .inl (G.2.1, 60, .inl (skA (fl nw (fun i_ => wAt g oz (4 * i_)) fk) nw t))), (o, .inr (4, [.ref ob, .int (nI oz)])), (ob, .inl (G.2.1, on, .inl g))]) (va_runS (As := [.int (rot 24 ((skA (fl nw (fun i_ => wAt g oz (4 * i_)) fk) nw t) ((nw + t) - 1)))]) (rest := []) ⟨hx, hb, hml, hown, hts⟩ (c_Aes_substituted l G (rot 24 ((skA (fl nw (fun i_ => wAt g oz (4 * i_)) fk) nw t) ((nw + t) - 1))) H.size) (va_cwS 1 hts gX0_schedule_X0_substituted rfl rfl rfl (by decide +kernel) ⟨Nat.le_of_ble_eq_true rfl, Nat.le_of_ble_eq_true rfl⟩) ⟨wPre.blind, (fun U hU hW => ⟨rfl, w_pre hK hT hA hP hD hS (isC := []) (by decide) rfl U hU hW⟩)⟩ rfl rfl hl.1 rfl (lv_room (Nat.le_of_ble_eq_true rfl)) dX0_schedule_106 ⟨Nat.le_of_ble_eq_true rfl, Nat.le_of_ble_eq_true rfl⟩) hA hP hD hS [] [0, 1, 2, 3] rfl rfl (by decide) (by decide) (fun r u H locs hpost hP hD hS => ?_)
            obtain rfl := hpost
            have hP : va_P G.1 vwCl [(h, .inr (0, [.ref ab, .int (nI 4), .ref ao, .ref ak, .ref am, .int (nI (nw + 6))])), (ak, .inl (G.2.1, 60, .inl (skA (fl nw (fun i_ => wAt g oz (4 * i_)) fk) nw t))), (o, .inr (4, [.ref ob, .int (nI oz)])), (ob, .inl (G.2.1, on, .inl g))] H := hP
            have hD : va_D A [(h, .inr (0, [.ref ab, .int (nI 4), .ref ao, .ref ak, .ref am, .int (nI (nw + 6))])), (ak, .inl (G.2.1, 60, .inl (skA (fl nw (fun i_ => wAt g oz (4 * i_)) fk) nw t))), (o, .inr (4, [.ref ob, .int (nI oz)])), (ob, .inl (G.2.1, on, .inl g))] := hD
            refine lv_iload hx hb dX0_schedule_109 (lv_at hl 3 rfl) ?_
            refine lv_bipush (v := nI 24) hx hb dX0_schedule_111 (by decide) ?_
            refine lv_ishl hx hb dX0_schedule_113 ?_
            refine lv_ixor hx hb dX0_schedule_114 ?_
            refine lv_istore (lv' := [(7, .int ((nI (subN (un (rot 24 ((skA (fl nw (fun i_ => wAt g oz (4 * i_)) fk) nw t) ((nw + t) - 1)))))) ^^^ ((rcI ((t + nw - 1) / nw)) <<< ((nI 24) &&& 31)))), (6, .int (nI (nw + t))), (5, .int (nI (t % nw))), (4, .int (rcI ((t + nw - 1) / nw))), (3, .int (nI (4 * ((nw + 6) + 1)))), (2, .int (nI nw)), (0, .ref h), (1, .ref o)]) hx hb dX0_schedule_115 hl (by decide) rfl (fun ls hl => ?_)
            refine lv_iload hx hb dX0_schedule_117 (lv_at hl 3 rfl) ?_
            refine w_fini (wr := [(h, .inr (0, [.ref ab, .int (nI 4), .ref ao, .ref ak, .ref am, .int (nI (nw + 6))])), (ak, .inl (G.2.1, 60, .inl (skA (fl nw (fun i_ => wAt g oz (4 * i_)) fk) nw t))), (o, .inr (4, [.ref ob, .int (nI oz)])), (ob, .inl (G.2.1, on, .inl g))]) (va_runS (As := [.int (rcI ((t + nw - 1) / nw))]) (rest := []) ⟨hx, hb, hml, hown, hts⟩ (c_Aes_doubled l G (rcI ((t + nw - 1) / nw)) H.size) (va_cwS 1 hts gX0_schedule_X0_doubled rfl rfl rfl (by decide +kernel) ⟨Nat.le_of_ble_eq_true rfl, Nat.le_of_ble_eq_true rfl⟩) ⟨wPre.blind, (fun U hU hW => ⟨rfl, w_pre hK hT hA hP hD hS (isC := []) (by decide) rfl U hU hW⟩)⟩ rfl rfl hl.1 rfl (lv_room (Nat.le_of_ble_eq_true rfl)) dX0_schedule_119 ⟨Nat.le_of_ble_eq_true rfl, Nat.le_of_ble_eq_true rfl⟩) hA hP hD hS [] [0, 1, 2, 3] rfl rfl (by decide) (by decide) (fun r u H locs hpost hP hD hS => ?_)
            obtain rfl := hpost
            have hP : va_P G.1 vwCl [(h, .inr (0, [.ref ab, .int (nI 4), .ref ao, .ref ak, .ref am, .int (nI (nw + 6))])), (ak, .inl (G.2.1, 60, .inl (skA (fl nw (fun i_ => wAt g oz (4 * i_)) fk) nw t))), (o, .inr (4, [.ref ob, .int (nI oz)])), (ob, .inl (G.2.1, on, .inl g))] H := hP
            have hD : va_D A [(h, .inr (0, [.ref ab, .int (nI 4), .ref ao, .ref ak, .ref am, .int (nI (nw + 6))])), (ak, .inl (G.2.1, 60, .inl (skA (fl nw (fun i_ => wAt g oz (4 * i_)) fk) nw t))), (o, .inr (4, [.ref ob, .int (nI oz)])), (ob, .inl (G.2.1, on, .inl g))] := hD
            refine lv_istore (lv' := [(4, .int (dblI (rcI ((t + nw - 1) / nw)))), (7, .int ((nI (subN (un (rot 24 ((skA (fl nw (fun i_ => wAt g oz (4 * i_)) fk) nw t) ((nw + t) - 1)))))) ^^^ ((rcI ((t + nw - 1) / nw)) <<< ((nI 24) &&& 31)))), (6, .int (nI (nw + t))), (5, .int (nI (t % nw))), (3, .int (nI (4 * ((nw + 6) + 1)))), (2, .int (nI nw)), (0, .ref h), (1, .ref o)]) hx hb dX0_schedule_122 hl (by decide) rfl (fun ls hl => ?_)
            refine lv_goto (tgt := 146) hx hb dX0_schedule_124 (by decide) ?_
            refine lv_aload_n hx hb dX0_schedule_146 rfl (lv_at hl 6 rfl) ?_
            refine va_get (D := G.1) (ci := 0) (v := .ref ak) (C := RX0) (T := TX0) (N := 6) hx hb hts hinX0 hown hK hP 0 rfl rfl 3 (by decide) (hts (.fieldLink RX0 13 "CipherBox$Aes" "roundKeys" "[I") (by decide +kernel)) (fun _ h9 => h9) rfl dX0_schedule_147 ?_
            refine lv_iload hx hb dX0_schedule_150 (lv_at hl 2 rfl) ?_
            refine lv_aload_n hx hb dX0_schedule_152 rfl (lv_at hl 6 rfl) ?_
            refine va_get (D := G.1) (ci := 0) (v := .ref ak) (C := RX0) (T := TX0) (N := 6) hx hb hts hinX0 hown hK hP 0 rfl rfl 3 (by decide) (hts (.fieldLink RX0 13 "CipherBox$Aes" "roundKeys" "[I") (by decide +kernel)) (fun _ h9 => h9) rfl dX0_schedule_153 ?_
            refine lv_iload hx hb dX0_schedule_156 (lv_at hl 2 rfl) ?_
            refine lv_iload_n hx hb dX0_schedule_158 rfl (lv_at hl 5 rfl) ?_
            refine w_isubN hx hb (by omega) dX0_schedule_159 ?_
            refine w_iald hx hb hK hP 1 rfl (by omega) (by omega) dX0_schedule_160 ?_
            refine lv_iload hx hb dX0_schedule_161 (lv_at hl 1 rfl) ?_
            refine lv_ixor hx hb dX0_schedule_163 ?_
            refine w_iast hx hb hK hP hD hS 1 rfl (by omega) (by omega) (skA (fl nw (fun i_ => wAt g oz (4 * i_)) fk) nw (t + 1)) (skA_s (by unfold skT; first | rw [if_pos (by assumption)] | rw [if_neg (by assumption), if_pos ⟨by assumption, by assumption⟩] | rw [if_neg (by assumption), if_neg (fun q9 => by first | exact absurd q9.1 (by assumption) | exact absurd q9.2 (by assumption))])) dX0_schedule_164 (fun H locs hP hD hS => ?_)
            have hP : va_P G.1 vwCl [(h, .inr (0, [.ref ab, .int (nI 4), .ref ao, .ref ak, .ref am, .int (nI (nw + 6))])), (ak, .inl (G.2.1, 60, .inl (skA (fl nw (fun i_ => wAt g oz (4 * i_)) fk) nw (t + 1)))), (o, .inr (4, [.ref ob, .int (nI oz)])), (ob, .inl (G.2.1, on, .inl g))] H := hP
            have hD : va_D A [(h, .inr (0, [.ref ab, .int (nI 4), .ref ao, .ref ak, .ref am, .int (nI (nw + 6))])), (ak, .inl (G.2.1, 60, .inl (skA (fl nw (fun i_ => wAt g oz (4 * i_)) fk) nw (t + 1)))), (o, .inr (4, [.ref ob, .int (nI oz)])), (ob, .inl (G.2.1, on, .inl g))] := hD
            refine lv_iload hx hb dX0_schedule_165 (lv_at hl 3 rfl) ?_
            refine lv_iconst (v := nI 1) hx hb dX0_schedule_167 (by decide) ?_
            refine w_iaddN hx hb dX0_schedule_168 ?_
            refine lv_iload_n hx hb dX0_schedule_169 rfl (lv_at hl 5 rfl) ?_
            refine w_icmpN_ne (tgt := 177) hx hb (Nat.lt_of_le_of_lt (Nat.add_le_add_right (Nat.mod_le _ _) 1) (by omega)) (by omega) dX0_schedule_170 (by decide) (fun h20 => ?_) (fun h20 => ?_)
            · refine lv_iload hx hb dX0_schedule_177 (lv_at hl 3 rfl) ?_
              refine lv_iconst (v := nI 1) hx hb dX0_schedule_179 (by decide) ?_
              refine w_iaddN hx hb dX0_schedule_180 ?_
              refine lv_istore (lv' := [(5, .int (nI ((t % nw) + 1))), (4, .int (dblI (rcI ((t + nw - 1) / nw)))), (7, .int ((nI (subN (un (rot 24 ((skA (fl nw (fun i_ => wAt g oz (4 * i_)) fk) nw t) ((nw + t) - 1)))))) ^^^ ((rcI ((t + nw - 1) / nw)) <<< ((nI 24) &&& 31)))), (6, .int (nI (nw + t))), (3, .int (nI (4 * ((nw + 6) + 1)))), (2, .int (nI nw)), (0, .ref h), (1, .ref o)]) hx hb dX0_schedule_181 hl (by decide) rfl (fun ls hl => ?_)
              have hl : lv_has ls 8 [(5, .int (nI ((t + 1) % nw))), (4, .int (dblI (rcI ((t + nw - 1) / nw)))), (7, .int ((nI (subN (un (rot 24 ((skA (fl nw (fun i_ => wAt g oz (4 * i_)) fk) nw t) ((nw + t) - 1)))))) ^^^ ((rcI ((t + nw - 1) / nw)) <<< ((nI 24) &&& 31)))), (6, .int (nI (nw + t))), (3, .int (nI (4 * ((nw + 6) + 1)))), (2, .int (nI nw)), (0, .ref h), (1, .ref o)] := by have h9 := hl; rw [show nI ((t % nw) + 1) = nI ((t + 1) % nw) by rw [← md_2 hn (by assumption)]] at h9; exact h9
              have hl : lv_has ls 8 [(5, .int (nI ((t + 1) % nw))), (4, .int (rcI ((t + 1 + nw - 1) / nw))), (7, .int ((nI (subN (un (rot 24 ((skA (fl nw (fun i_ => wAt g oz (4 * i_)) fk) nw t) ((nw + t) - 1)))))) ^^^ ((rcI ((t + nw - 1) / nw)) <<< ((nI 24) &&& 31)))), (6, .int (nI (nw + t))), (3, .int (nI (4 * ((nw + 6) + 1)))), (2, .int (nI nw)), (0, .ref h), (1, .ref o)] := by have h9 := hl; rw [rc_s0 hn (by assumption)] at h9; exact h9
              refine lv_iinc (v := nI (nw + t + 1)) (lv' := [(6, .int (nI (nw + t + 1))), (5, .int (nI ((t + 1) % nw))), (4, .int (rcI ((t + 1 + nw - 1) / nw))), (7, .int ((nI (subN (un (rot 24 ((skA (fl nw (fun i_ => wAt g oz (4 * i_)) fk) nw t) ((nw + t) - 1)))))) ^^^ ((rcI ((t + nw - 1) / nw)) <<< ((nI 24) &&& 31)))), (3, .int (nI (4 * ((nw + 6) + 1)))), (2, .int (nI nw)), (0, .ref h), (1, .ref o)]) hx hb dX0_schedule_183 hl (k := 3) rfl (nI_add (nw + t) 1) (by decide) rfl (fun ls hl => ?_)
              refine lv_goto (tgt := 77) hx hb dX0_schedule_186 (by decide) ?_
              exact ih (t + 1) H _ _ (by omega) (by omega) hP hD hS (lv_sub hl [0, 1, 2, 4, 5, 6, 7] rfl)
            · refine lv_iconst (v := nI 0) hx hb dX0_schedule_173 (by decide) ?_
              refine lv_goto (tgt := 181) hx hb dX0_schedule_174 (by decide) ?_
              refine lv_istore (lv' := [(5, .int (nI 0)), (4, .int (dblI (rcI ((t + nw - 1) / nw)))), (7, .int ((nI (subN (un (rot 24 ((skA (fl nw (fun i_ => wAt g oz (4 * i_)) fk) nw t) ((nw + t) - 1)))))) ^^^ ((rcI ((t + nw - 1) / nw)) <<< ((nI 24) &&& 31)))), (6, .int (nI (nw + t))), (3, .int (nI (4 * ((nw + 6) + 1)))), (2, .int (nI nw)), (0, .ref h), (1, .ref o)]) hx hb dX0_schedule_181 hl (by decide) rfl (fun ls hl => ?_)
              have hl : lv_has ls 8 [(5, .int (nI ((t + 1) % nw))), (4, .int (dblI (rcI ((t + nw - 1) / nw)))), (7, .int ((nI (subN (un (rot 24 ((skA (fl nw (fun i_ => wAt g oz (4 * i_)) fk) nw t) ((nw + t) - 1)))))) ^^^ ((rcI ((t + nw - 1) / nw)) <<< ((nI 24) &&& 31)))), (6, .int (nI (nw + t))), (3, .int (nI (4 * ((nw + 6) + 1)))), (2, .int (nI nw)), (0, .ref h), (1, .ref o)] := by have h9 := hl; rw [show nI 0 = nI ((t + 1) % nw) by rw [← md_1 hn (by assumption)]] at h9; exact h9
              have hl : lv_has ls 8 [(5, .int (nI ((t + 1) % nw))), (4, .int (rcI ((t + 1 + nw - 1) / nw))), (7, .int ((nI (subN (un (rot 24 ((skA (fl nw (fun i_ => wAt g oz (4 * i_)) fk) nw t) ((nw + t) - 1)))))) ^^^ ((rcI ((t + nw - 1) / nw)) <<< ((nI 24) &&& 31)))), (6, .int (nI (nw + t))), (3, .int (nI (4 * ((nw + 6) + 1)))), (2, .int (nI nw)), (0, .ref h), (1, .ref o)] := by have h9 := hl; rw [rc_s0 hn (by assumption)] at h9; exact h9
              refine lv_iinc (v := nI (nw + t + 1)) (lv' := [(6, .int (nI (nw + t + 1))), (5, .int (nI ((t + 1) % nw))), (4, .int (rcI ((t + 1 + nw - 1) / nw))), (7, .int ((nI (subN (un (rot 24 ((skA (fl nw (fun i_ => wAt g oz (4 * i_)) fk) nw t) ((nw + t) - 1)))))) ^^^ ((rcI ((t + nw - 1) / nw)) <<< ((nI 24) &&& 31)))), (3, .int (nI (4 * ((nw + 6) + 1)))), (2, .int (nI nw)), (0, .ref h), (1, .ref o)]) hx hb dX0_schedule_183 hl (k := 3) rfl (nI_add (nw + t) 1) (by decide) rfl (fun ls hl => ?_)
              refine lv_goto (tgt := 77) hx hb dX0_schedule_186 (by decide) ?_
              exact ih (t + 1) H _ _ (by omega) (by omega) hP hD hS (lv_sub hl [0, 1, 2, 4, 5, 6, 7] rfl)
      · refine lv_aload_n hx hb dX0_schedule_40 rfl (lv_at hl 2 rfl) ?_
        refine va_get (D := G.1) (ci := 0) (v := .ref ak) (C := RX0) (T := TX0) (N := 6) hx hb hts hinX0 hown hK hP 0 rfl rfl 3 (by decide) (hts (.fieldLink RX0 13 "CipherBox$Aes" "roundKeys" "[I") (by decide +kernel)) (fun _ h9 => h9) rfl dX0_schedule_41 ?_
        refine lv_iload_n hx hb dX0_schedule_44 rfl (lv_at hl 0 rfl) ?_
        refine lv_aload_n hx hb dX0_schedule_45 rfl (lv_at hl 3 rfl) ?_
        refine lv_iconst (v := nI 4) hx hb dX0_schedule_46 (by decide) ?_
        refine lv_iload_n hx hb dX0_schedule_47 rfl (lv_at hl 0 rfl) ?_
        refine w_imulN hx hb dX0_schedule_48 ?_
        refine w_fini (wr := [(h, .inr (0, [.ref ab, .int (nI 4), .ref ao, .ref ak, .ref am, .int (nI (nw + 6))])), (ak, .inl (G.2.1, 60, .inl (fl k (fun i_ => wAt g oz (4 * i_)) fk)))]) (va_runV (As := [.int (nI (4 * k))]) (rest := [.int (nI k), .ref ak]) ⟨hx, hb, hml, hown, hts⟩ (c_Row_wordAt l G o ob on oz g (4 * k) (by omega) (by omega) (by omega) H.size) (cwV 1 hts gX0_schedule_X5_wordAt rfl rfl rfl (by decide +kernel) ⟨Nat.le_of_ble_eq_true rfl, Nat.le_of_ble_eq_true rfl⟩) ⟨wPre.blind, (va_recv hK hP (ci := 4) (q0 := 2) rfl rfl), (fun U hU hW => ⟨rfl, w_pre hK hT hA hP hD hS (isC := [2, 3]) (by decide) rfl U hU hW⟩)⟩ rfl rfl hl.1 rfl (lv_room (Nat.le_of_ble_eq_true rfl)) dX0_schedule_49 ⟨Nat.le_of_ble_eq_true rfl, Nat.le_of_ble_eq_true rfl⟩) hA hP hD hS [2, 3] [0, 1] rfl rfl (by decide) (by decide) (fun r u H locs hpost hP hD hS => ?_)
        obtain rfl := hpost
        have hP : va_P G.1 vwCl [(h, .inr (0, [.ref ab, .int (nI 4), .ref ao, .ref ak, .ref am, .int (nI (nw + 6))])), (ak, .inl (G.2.1, 60, .inl (fl k (fun i_ => wAt g oz (4 * i_)) fk))), (o, .inr (4, [.ref ob, .int (nI oz)])), (ob, .inl (G.2.1, on, .inl g))] H := hP
        have hD : va_D A [(h, .inr (0, [.ref ab, .int (nI 4), .ref ao, .ref ak, .ref am, .int (nI (nw + 6))])), (ak, .inl (G.2.1, 60, .inl (fl k (fun i_ => wAt g oz (4 * i_)) fk))), (o, .inr (4, [.ref ob, .int (nI oz)])), (ob, .inl (G.2.1, on, .inl g))] := hD
        refine w_iast hx hb hK hP hD hS 1 rfl (by omega) (by omega) (fl (k + 1) (fun i_ => wAt g oz (4 * i_)) fk) (fl_s rfl) dX0_schedule_52 (fun H locs hP hD hS => ?_)
        have hP : va_P G.1 vwCl [(h, .inr (0, [.ref ab, .int (nI 4), .ref ao, .ref ak, .ref am, .int (nI (nw + 6))])), (ak, .inl (G.2.1, 60, .inl (fl (k + 1) (fun i_ => wAt g oz (4 * i_)) fk))), (o, .inr (4, [.ref ob, .int (nI oz)])), (ob, .inl (G.2.1, on, .inl g))] H := hP
        have hD : va_D A [(h, .inr (0, [.ref ab, .int (nI 4), .ref ao, .ref ak, .ref am, .int (nI (nw + 6))])), (ak, .inl (G.2.1, 60, .inl (fl (k + 1) (fun i_ => wAt g oz (4 * i_)) fk))), (o, .inr (4, [.ref ob, .int (nI oz)])), (ob, .inl (G.2.1, on, .inl g))] := hD
        refine lv_iinc (v := nI (k + 1)) (lv' := [(3, .int (nI (k + 1))), (2, .int (nI nw)), (0, .ref h), (1, .ref o)]) hx hb dX0_schedule_53 hl (k := 0) rfl (nI_add k 1) (by decide) rfl (fun ls hl => ?_)
        refine lv_goto (tgt := 35) hx hb dX0_schedule_56 (by decide) ?_
        exact ih (k + 1) H _ _ (by omega) (by omega) hP hD hS (lv_sub hl [0, 1, 2, 3] rfl)
    · refine lv_iload_n hx hb dX0_schedule_18 rfl (lv_at hl 0 rfl) ?_
      refine lv_bipush (v := nI 8) hx hb dX0_schedule_19 (by decide) ?_
      refine w_icmpN_eq (tgt := 25) hx hb (by omega) (by omega) dX0_schedule_21 (by decide) (fun h21 => ?_) (fun h21 => ?_)
      · refine lv_aload_n hx hb dX0_schedule_25 rfl (lv_at hl 1 rfl) ?_
        refine lv_iload_n hx hb dX0_schedule_26 rfl (lv_at hl 0 rfl) ?_
        refine lv_bipush (v := nI 6) hx hb dX0_schedule_27 (by decide) ?_
        refine w_iaddN hx hb dX0_schedule_29 ?_
        refine va_put (D := G.1) (ci := 0) (v := .int (nI (nw + 6))) (ty := .int) (C := RX0) (T := TX0) (N := 6) hx hb hts hinX0 tyX0 tyX0_ok nmX0 hown hK hP hD hS 0 rfl rfl 5 (by decide) (hts (.fieldLink RX0 28 "CipherBox$Aes" "rounds" "I") (by decide +kernel)) (fun _ h9 => h9) rfl (by decide +kernel) rfl rfl (Nat.le_of_ble_eq_true rfl) dX0_schedule_30 (fun H locs hP hD hS => ?_)
        have hP : va_P G.1 vwCl [(h, .inr (0, [.ref ab, .int (nI 4), .ref ao, .ref ak, .ref am, .int (nI (nw + 6))])), (ak, .inl (G.2.1, 60, .inl fk)), (o, .inr (4, [.ref ob, .int (nI oz)])), (ob, .inl (G.2.1, on, .inl g))] H := hP
        have hD : va_D A [(h, .inr (0, [.ref ab, .int (nI 4), .ref ao, .ref ak, .ref am, .int (nI (nw + 6))])), (ak, .inl (G.2.1, 60, .inl fk)), (o, .inr (4, [.ref ob, .int (nI oz)])), (ob, .inl (G.2.1, on, .inl g))] := hD
        refine lv_iconst (v := nI 0) hx hb dX0_schedule_33 (by decide) ?_
        refine lv_istore_n (lv' := [(3, .int (nI 0)), (2, .int (nI nw)), (0, .ref h), (1, .ref o)]) hx hb dX0_schedule_34 rfl hl (by decide) rfl (fun ls hl => ?_)
        refine w_loop (ι := Nat) (fun k => nw - k) (fun k => k ≤ nw) (fun k => [(h, .inr (0, [.ref ab, .int (nI 4), .ref ao, .ref ak, .ref am, .int (nI (nw + 6))])), (ak, .inl (G.2.1, 60, .inl (fl k (fun i_ => wAt g oz (4 * i_)) fk))), (o, .inr (4, [.ref ob, .int (nI oz)])), (ob, .inl (G.2.1, on, .inl g))]) (fun k => [(3, .int (nI k)), (2, .int (nI nw)), (0, .ref h), (1, .ref o)]) 0 (by omega) (by simp only [fl_0]; exact hP) (by simp only [fl_0]; exact hD) hS hl ?_
        intro k H locs ls hk hP hD hS hl ih
        have hk : k ≤ nw := hk
        have hP : va_P G.1 vwCl [(h, .inr (0, [.ref ab, .int (nI 4), .ref ao, .ref ak, .ref am, .int (nI (nw + 6))])), (ak, .inl (G.2.1, 60, .inl (fl k (fun i_ => wAt g oz (4 * i_)) fk))), (o, .inr (4, [.ref ob, .int (nI oz)])), (ob, .inl (G.2.1, on, .inl g))] H := hP
        have hD : va_D A [(h, .inr (0, [.ref ab, .int (nI 4), .ref ao, .ref ak, .ref am, .int (nI (nw + 6))])), (ak, .inl (G.2.1, 60, .inl (fl k (fun i_ => wAt g oz (4 * i_)) fk))), (o, .inr (4, [.ref ob, .int (nI oz)])), (ob, .inl (G.2.1, on, .inl g))] := hD
        have hl : lv_has ls 8 [(3, .int (nI k)), (2, .int (nI nw)), (0, .ref h), (1, .ref o)] := hl
        refine lv_iload_n hx hb dX0_schedule_35 rfl (lv_at hl 0 rfl) ?_
        refine lv_iload_n hx hb dX0_schedule_36 rfl (lv_at hl 1 rfl) ?_
        refine w_icmpN_ge (tgt := 59) hx hb (by omega) (by omega) dX0_schedule_37 (by decide) (fun h22 => ?_) (fun h22 => ?_)
        · obtain rfl : nw = k := Eq.symm (show k = nw from by omega)
          refine lv_iconst (v := nI 4) hx hb dX0_schedule_59 (by decide) ?_
          refine lv_aload_n hx hb dX0_schedule_60 rfl (lv_at hl 2 rfl) ?_
          refine va_get (D := G.1) (ci := 0) (v := .int (nI (nw + 6))) (C := RX0) (T := TX0) (N := 6) hx hb hts hinX0 hown hK hP 0 rfl rfl 5 (by decide) (hts (.fieldLink RX0 28 "CipherBox$Aes" "rounds" "I") (by decide +kernel)) (fun _ h9 => h9) rfl dX0_schedule_61 ?_
          refine lv_iconst (v := nI 1) hx hb dX0_schedule_64 (by decide) ?_
          refine w_iaddN hx hb dX0_schedule_65 ?_
          refine w_imulN hx hb dX0_schedule_66 ?_
          refine lv_istore_n (lv' := [(3, .int (nI (4 * ((nw + 6) + 1)))), (2, .int (nI nw)), (0, .ref h), (1, .ref o)]) hx hb dX0_schedule_67 rfl hl (by decide) rfl (fun ls hl => ?_)
          refine lv_iconst (v := nI 1) hx hb dX0_schedule_68 (by decide) ?_
          refine lv_istore (lv' := [(4, .int (nI 1)), (3, .int (nI (4 * ((nw + 6) + 1)))), (2, .int (nI nw)), (0, .ref h), (1, .ref o)]) hx hb dX0_schedule_69 hl (by decide) rfl (fun ls hl => ?_)
          refine lv_iconst (v := nI 0) hx hb dX0_schedule_71 (by decide) ?_
          refine lv_istore (lv' := [(5, .int (nI 0)), (4, .int (nI 1)), (3, .int (nI (4 * ((nw + 6) + 1)))), (2, .int (nI nw)), (0, .ref h), (1, .ref o)]) hx hb dX0_schedule_72 hl (by decide) rfl (fun ls hl => ?_)
          refine lv_iload_n hx hb dX0_schedule_74 rfl (lv_at hl 3 rfl) ?_
          refine lv_istore (lv' := [(6, .int (nI nw)), (5, .int (nI 0)), (4, .int (nI 1)), (3, .int (nI (4 * ((nw + 6) + 1)))), (2, .int (nI nw)), (0, .ref h), (1, .ref o)]) hx hb dX0_schedule_75 hl (by decide) rfl (fun ls hl => ?_)
          refine w_loop (ι := Nat) (fun t => 3 * nw + 28 - t) (fun t => t ≤ 3 * nw + 28) (fun t => [(h, .inr (0, [.ref ab, .int (nI 4), .ref ao, .ref ak, .ref am, .int (nI (nw + 6))])), (ak, .inl (G.2.1, 60, .inl (skA (fl nw (fun i_ => wAt g oz (4 * i_)) fk) nw t))), (o, .inr (4, [.ref ob, .int (nI oz)])), (ob, .inl (G.2.1, on, .inl g))]) (fun t => [(6, .int (nI (nw + t))), (5, .int (nI (t % nw))), (4, .int (rcI ((t + nw - 1) / nw))), (3, .int (nI (4 * ((nw + 6) + 1)))), (2, .int (nI nw)), (0, .ref h), (1, .ref o)]) 0 (by omega) hP hD hS (by have h9 := hl; rw [← rc_0 hn] at h9; exact h9) ?_
          intro t H locs ls hk hP hD hS hl ih
          have hk : t ≤ 3 * nw + 28 := hk
          have hP : va_P G.1 vwCl [(h, .inr (0, [.ref ab, .int (nI 4), .ref ao, .ref ak, .ref am, .int (nI (nw + 6))])), (ak, .inl (G.2.1, 60, .inl (skA (fl nw (fun i_ => wAt g oz (4 * i_)) fk) nw t))), (o, .inr (4, [.ref ob, .int (nI oz)])), (ob, .inl (G.2.1, on, .inl g))] H := hP
          have hD : va_D A [(h, .inr (0, [.ref ab, .int (nI 4), .ref ao, .ref ak, .ref am, .int (nI (nw + 6))])), (ak, .inl (G.2.1, 60, .inl (skA (fl nw (fun i_ => wAt g oz (4 * i_)) fk) nw t))), (o, .inr (4, [.ref ob, .int (nI oz)])), (ob, .inl (G.2.1, on, .inl g))] := hD
          have hl : lv_has ls 8 [(6, .int (nI (nw + t))), (5, .int (nI (t % nw))), (4, .int (rcI ((t + nw - 1) / nw))), (3, .int (nI (4 * ((nw + 6) + 1)))), (2, .int (nI nw)), (0, .ref h), (1, .ref o)] := hl
          refine lv_iload hx hb dX0_schedule_77 (lv_at hl 0 rfl) ?_
          refine lv_iload_n hx hb dX0_schedule_79 rfl (lv_at hl 3 rfl) ?_
          refine w_icmpN_ge (tgt := 189) hx hb (by omega) (by omega) dX0_schedule_80 (by decide) (fun h23 => ?_) (fun h23 => ?_)
          · obtain rfl : 3 * nw + 28 = t := Eq.symm (show t = 3 * nw + 28 from by omega)
            exact hret () H _ 189 ls dX0_schedule_189 (trivial) (hP.sub [0, 1, 2, 3] rfl) (hD.sub [0, 1, 2, 3] (by decide) rfl) hS
          · refine lv_aload_n hx hb dX0_schedule_83 rfl (lv_at hl 5 rfl) ?_
            refine va_get (D := G.1) (ci := 0) (v := .ref ak) (C := RX0) (T := TX0) (N := 6) hx hb hts hinX0 hown hK hP 0 rfl rfl 3 (by decide) (hts (.fieldLink RX0 13 "CipherBox$Aes" "roundKeys" "[I") (by decide +kernel)) (fun _ h9 => h9) rfl dX0_schedule_84 ?_
            refine lv_iload hx hb dX0_schedule_87 (lv_at hl 0 rfl) ?_
            refine lv_iconst (v := nI 1) hx hb dX0_schedule_89 (by decide) ?_
            refine w_isubN hx hb (by omega) dX0_schedule_90 ?_
            refine w_iald hx hb hK hP 1 rfl (by omega) (by omega) dX0_schedule_91 ?_
            refine lv_istore (lv' := [(7, .int ((skA (fl nw (fun i_ => wAt g oz (4 * i_)) fk) nw t) ((nw + t) - 1))), (6, .int (nI (nw + t))), (5, .int (nI (t % nw))), (4, .int (rcI ((t + nw - 1) / nw))), (3, .int (nI (4 * ((nw + 6) + 1)))), (2, .int (nI nw)), (0, .ref h), (1, .ref o)]) hx hb dX0_schedule_92 hl (by decide) rfl (fun ls hl => ?_)
            refine lv_iload hx hb dX0_schedule_94 (lv_at hl 2 rfl) ?_
            refine w_ifN_ne (tgt := 127) hx hb (Nat.lt_of_le_of_lt (Nat.mod_le _ _) (by omega)) dX0_schedule_96 (by decide) (fun h24 => ?_) (fun h24 => ?_)
            · refine lv_iload_n hx hb dX0_schedule_127 rfl (lv_at hl 5 rfl) ?_
              refine lv_bipush (v := nI 8) hx hb dX0_schedule_128 (by decide) ?_
              refine w_icmpN_ne (tgt := 146) hx hb (by omega) (by omega) dX0_schedule_130 (by decide) (fun h25 => ?_) (fun h25 => ?_)
              · refine lv_aload_n hx hb dX0_schedule_146 rfl (lv_at hl 6 rfl) ?_
                refine va_get (D := G.1) (ci := 0) (v := .ref ak) (C := RX0) (T := TX0) (N := 6) hx hb hts hinX0 hown hK hP 0 rfl rfl 3 (by decide) (hts (.fieldLink RX0 13 "CipherBox$Aes" "roundKeys" "[I") (by decide +kernel)) (fun _ h9 => h9) rfl dX0_schedule_147 ?_
                refine lv_iload hx hb dX0_schedule_150 (lv_at hl 1 rfl) ?_
                refine lv_aload_n hx hb dX0_schedule_152 rfl (lv_at hl 6 rfl) ?_
                refine va_get (D := G.1) (ci := 0) (v := .ref ak) (C := RX0) (T := TX0) (N := 6) hx hb hts hinX0 hown hK hP 0 rfl rfl 3 (by decide) (hts (.fieldLink RX0 13 "CipherBox$Aes" "roundKeys" "[I") (by decide +kernel)) (fun _ h9 => h9) rfl dX0_schedule_153 ?_
                refine lv_iload hx hb dX0_schedule_156 (lv_at hl 1 rfl) ?_
                refine lv_iload_n hx hb dX0_schedule_158 rfl (lv_at hl 5 rfl) ?_
                refine w_isubN hx hb (by omega) dX0_schedule_159 ?_
                refine w_iald hx hb hK hP 1 rfl (by omega) (by omega) dX0_schedule_160 ?_
                refine lv_iload hx hb dX0_schedule_161 (lv_at hl 0 rfl) ?_
                refine lv_ixor hx hb dX0_schedule_163 ?_
                refine w_iast hx hb hK hP hD hS 1 rfl (by omega) (by omega) (skA (fl nw (fun i_ => wAt g oz (4 * i_)) fk) nw (t + 1)) (skA_s (by unfold skT; first | rw [if_pos (by assumption)] | rw [if_neg (by assumption), if_pos ⟨by assumption, by assumption⟩] | rw [if_neg (by assumption), if_neg (fun q9 => by first | exact absurd q9.1 (by assumption) | exact absurd q9.2 (by assumption))])) dX0_schedule_164 (fun H locs hP hD hS => ?_)
                have hP : va_P G.1 vwCl [(h, .inr (0, [.ref ab, .int (nI 4), .ref ao, .ref ak, .ref am, .int (nI (nw + 6))])), (ak, .inl (G.2.1, 60, .inl (skA (fl nw (fun i_ => wAt g oz (4 * i_)) fk) nw (t + 1)))), (o, .inr (4, [.ref ob, .int (nI oz)])), (ob, .inl (G.2.1, on, .inl g))] H := hP
                have hD : va_D A [(h, .inr (0, [.ref ab, .int (nI 4), .ref ao, .ref ak, .ref am, .int (nI (nw + 6))])), (ak, .inl (G.2.1, 60, .inl (skA (fl nw (fun i_ => wAt g oz (4 * i_)) fk) nw (t + 1)))), (o, .inr (4, [.ref ob, .int (nI oz)])), (ob, .inl (G.2.1, on, .inl g))] := hD
                refine lv_iload hx hb dX0_schedule_165 (lv_at hl 2 rfl) ?_
                refine lv_iconst (v := nI 1) hx hb dX0_schedule_167 (by decide) ?_
                refine w_iaddN hx hb dX0_schedule_168 ?_
                refine lv_iload_n hx hb dX0_schedule_169 rfl (lv_at hl 5 rfl) ?_
                refine w_icmpN_ne (tgt := 177) hx hb (Nat.lt_of_le_of_lt (Nat.add_le_add_right (Nat.mod_le _ _) 1) (by omega)) (by omega) dX0_schedule_170 (by decide) (fun h26 => ?_) (fun h26 => ?_)
                · refine lv_iload hx hb dX0_schedule_177 (lv_at hl 2 rfl) ?_
                  refine lv_iconst (v := nI 1) hx hb dX0_schedule_179 (by decide) ?_
                  refine w_iaddN hx hb dX0_schedule_180 ?_
                  refine lv_istore (lv' := [(5, .int (nI ((t % nw) + 1))), (7, .int ((skA (fl nw (fun i_ => wAt g oz (4 * i_)) fk) nw t) ((nw + t) - 1))), (6, .int (nI (nw + t))), (4, .int (rcI ((t + nw - 1) / nw))), (3, .int (nI (4 * ((nw + 6) + 1)))), (2, .int (nI nw)), (0, .ref h), (1, .ref o)]) hx hb dX0_schedule_181 hl (by decide) rfl (fun ls hl => ?_)
                  have hl : lv_has ls 8 [(5, .int (nI ((t + 1) % nw))), (7, .int ((skA (fl nw (fun i_ => wAt g oz (4 * i_)) fk) nw t) ((nw + t) - 1))), (6, .int (nI (nw + t))), (4, .int (rcI ((t + nw - 1) / nw))), (3, .int (nI (4 * ((nw + 6) + 1)))), (2, .int (nI nw)), (0, .ref h), (1, .ref o)] := by have h9 := hl; rw [show nI ((t % nw) + 1) = nI ((t + 1) % nw) by rw [← md_2 hn (by assumption)]] at h9; exact h9
                  have hl : lv_has ls 8 [(5, .int (nI ((t + 1) % nw))), (7, .int ((skA (fl nw (fun i_ => wAt g oz (4 * i_)) fk) nw t) ((nw + t) - 1))), (6, .int (nI (nw + t))), (4, .int (rcI ((t + 1 + nw - 1) / nw))), (3, .int (nI (4 * ((nw + 6) + 1)))), (2, .int (nI nw)), (0, .ref h), (1, .ref o)] := by have h9 := hl; rw [rc_s1 hn (by assumption)] at h9; exact h9
                  refine lv_iinc (v := nI (nw + t + 1)) (lv' := [(6, .int (nI (nw + t + 1))), (5, .int (nI ((t + 1) % nw))), (7, .int ((skA (fl nw (fun i_ => wAt g oz (4 * i_)) fk) nw t) ((nw + t) - 1))), (4, .int (rcI ((t + 1 + nw - 1) / nw))), (3, .int (nI (4 * ((nw + 6) + 1)))), (2, .int (nI nw)), (0, .ref h), (1, .ref o)]) hx hb dX0_schedule_183 hl (k := 2) rfl (nI_add (nw + t) 1) (by decide) rfl (fun ls hl => ?_)
                  refine lv_goto (tgt := 77) hx hb dX0_schedule_186 (by decide) ?_
                  exact ih (t + 1) H _ _ (by omega) (by omega) hP hD hS (lv_sub hl [0, 1, 3, 4, 5, 6, 7] rfl)
                · refine lv_iconst (v := nI 0) hx hb dX0_schedule_173 (by decide) ?_
                  refine lv_goto (tgt := 181) hx hb dX0_schedule_174 (by decide) ?_
                  refine lv_istore (lv' := [(5, .int (nI 0)), (7, .int ((skA (fl nw (fun i_ => wAt g oz (4 * i_)) fk) nw t) ((nw + t) - 1))), (6, .int (nI (nw + t))), (4, .int (rcI ((t + nw - 1) / nw))), (3, .int (nI (4 * ((nw + 6) + 1)))), (2, .int (nI nw)), (0, .ref h), (1, .ref o)]) hx hb dX0_schedule_181 hl (by decide) rfl (fun ls hl => ?_)
                  have hl : lv_has ls 8 [(5, .int (nI ((t + 1) % nw))), (7, .int ((skA (fl nw (fun i_ => wAt g oz (4 * i_)) fk) nw t) ((nw + t) - 1))), (6, .int (nI (nw + t))), (4, .int (rcI ((t + nw - 1) / nw))), (3, .int (nI (4 * ((nw + 6) + 1)))), (2, .int (nI nw)), (0, .ref h), (1, .ref o)] := by have h9 := hl; rw [show nI 0 = nI ((t + 1) % nw) by rw [← md_1 hn (by assumption)]] at h9; exact h9
                  have hl : lv_has ls 8 [(5, .int (nI ((t + 1) % nw))), (7, .int ((skA (fl nw (fun i_ => wAt g oz (4 * i_)) fk) nw t) ((nw + t) - 1))), (6, .int (nI (nw + t))), (4, .int (rcI ((t + 1 + nw - 1) / nw))), (3, .int (nI (4 * ((nw + 6) + 1)))), (2, .int (nI nw)), (0, .ref h), (1, .ref o)] := by have h9 := hl; rw [rc_s1 hn (by assumption)] at h9; exact h9
                  refine lv_iinc (v := nI (nw + t + 1)) (lv' := [(6, .int (nI (nw + t + 1))), (5, .int (nI ((t + 1) % nw))), (7, .int ((skA (fl nw (fun i_ => wAt g oz (4 * i_)) fk) nw t) ((nw + t) - 1))), (4, .int (rcI ((t + 1 + nw - 1) / nw))), (3, .int (nI (4 * ((nw + 6) + 1)))), (2, .int (nI nw)), (0, .ref h), (1, .ref o)]) hx hb dX0_schedule_183 hl (k := 2) rfl (nI_add (nw + t) 1) (by decide) rfl (fun ls hl => ?_)
                  refine lv_goto (tgt := 77) hx hb dX0_schedule_186 (by decide) ?_
                  exact ih (t + 1) H _ _ (by omega) (by omega) hP hD hS (lv_sub hl [0, 1, 3, 4, 5, 6, 7] rfl)
              · refine lv_iload hx hb dX0_schedule_133 (lv_at hl 2 rfl) ?_
                refine lv_iconst (v := nI 4) hx hb dX0_schedule_135 (by decide) ?_
                refine w_icmpN_ne (tgt := 146) hx hb (Nat.lt_of_le_of_lt (Nat.mod_le _ _) (by omega)) (by decide) dX0_schedule_136 (by decide) (fun h27 => ?_) (fun h27 => ?_)
                · refine lv_aload_n hx hb dX0_schedule_146 rfl (lv_at hl 6 rfl) ?_
                  refine va_get (D := G.1) (ci := 0) (v := .ref ak) (C := RX0) (T := TX0) (N := 6) hx hb hts hinX0 hown hK hP 0 rfl rfl 3 (by decide) (hts (.fieldLink RX0 13 "CipherBox$Aes" "roundKeys" "[I") (by decide +kernel)) (fun _ h9 => h9) rfl dX0_schedule_147 ?_
                  refine lv_iload hx hb dX0_schedule_150 (lv_at hl 1 rfl) ?_
                  refine lv_aload_n hx hb dX0_schedule_152 rfl (lv_at hl 6 rfl) ?_
                  refine va_get (D := G.1) (ci := 0) (v := .ref ak) (C := RX0) (T := TX0) (N := 6) hx hb hts hinX0 hown hK hP 0 rfl rfl 3 (by decide) (hts (.fieldLink RX0 13 "CipherBox$Aes" "roundKeys" "[I") (by decide +kernel)) (fun _ h9 => h9) rfl dX0_schedule_153 ?_
                  refine lv_iload hx hb dX0_schedule_156 (lv_at hl 1 rfl) ?_
                  refine lv_iload_n hx hb dX0_schedule_158 rfl (lv_at hl 5 rfl) ?_
                  refine w_isubN hx hb (by omega) dX0_schedule_159 ?_
                  refine w_iald hx hb hK hP 1 rfl (by omega) (by omega) dX0_schedule_160 ?_
                  refine lv_iload hx hb dX0_schedule_161 (lv_at hl 0 rfl) ?_
                  refine lv_ixor hx hb dX0_schedule_163 ?_
                  refine w_iast hx hb hK hP hD hS 1 rfl (by omega) (by omega) (skA (fl nw (fun i_ => wAt g oz (4 * i_)) fk) nw (t + 1)) (skA_s (by unfold skT; first | rw [if_pos (by assumption)] | rw [if_neg (by assumption), if_pos ⟨by assumption, by assumption⟩] | rw [if_neg (by assumption), if_neg (fun q9 => by first | exact absurd q9.1 (by assumption) | exact absurd q9.2 (by assumption))])) dX0_schedule_164 (fun H locs hP hD hS => ?_)
                  have hP : va_P G.1 vwCl [(h, .inr (0, [.ref ab, .int (nI 4), .ref ao, .ref ak, .ref am, .int (nI (nw + 6))])), (ak, .inl (G.2.1, 60, .inl (skA (fl nw (fun i_ => wAt g oz (4 * i_)) fk) nw (t + 1)))), (o, .inr (4, [.ref ob, .int (nI oz)])), (ob, .inl (G.2.1, on, .inl g))] H := hP
                  have hD : va_D A [(h, .inr (0, [.ref ab, .int (nI 4), .ref ao, .ref ak, .ref am, .int (nI (nw + 6))])), (ak, .inl (G.2.1, 60, .inl (skA (fl nw (fun i_ => wAt g oz (4 * i_)) fk) nw (t + 1)))), (o, .inr (4, [.ref ob, .int (nI oz)])), (ob, .inl (G.2.1, on, .inl g))] := hD
                  refine lv_iload hx hb dX0_schedule_165 (lv_at hl 2 rfl) ?_
                  refine lv_iconst (v := nI 1) hx hb dX0_schedule_167 (by decide) ?_
                  refine w_iaddN hx hb dX0_schedule_168 ?_
                  refine lv_iload_n hx hb dX0_schedule_169 rfl (lv_at hl 5 rfl) ?_
                  refine w_icmpN_ne (tgt := 177) hx hb (Nat.lt_of_le_of_lt (Nat.add_le_add_right (Nat.mod_le _ _) 1) (by omega)) (by omega) dX0_schedule_170 (by decide) (fun h28 => ?_) (fun h28 => ?_)
                  · refine lv_iload hx hb dX0_schedule_177 (lv_at hl 2 rfl) ?_
                    refine lv_iconst (v := nI 1) hx hb dX0_schedule_179 (by decide) ?_
                    refine w_iaddN hx hb dX0_schedule_180 ?_
                    refine lv_istore (lv' := [(5, .int (nI ((t % nw) + 1))), (7, .int ((skA (fl nw (fun i_ => wAt g oz (4 * i_)) fk) nw t) ((nw + t) - 1))), (6, .int (nI (nw + t))), (4, .int (rcI ((t + nw - 1) / nw))), (3, .int (nI (4 * ((nw + 6) + 1)))), (2, .int (nI nw)), (0, .ref h), (1, .ref o)]) hx hb dX0_schedule_181 hl (by decide) rfl (fun ls hl => ?_)
                    have hl : lv_has ls 8 [(5, .int (nI ((t + 1) % nw))), (7, .int ((skA (fl nw (fun i_ => wAt g oz (4 * i_)) fk) nw t) ((nw + t) - 1))), (6, .int (nI (nw + t))), (4, .int (rcI ((t + nw - 1) / nw))), (3, .int (nI (4 * ((nw + 6) + 1)))), (2, .int (nI nw)), (0, .ref h), (1, .ref o)] := by have h9 := hl; rw [show nI ((t % nw) + 1) = nI ((t + 1) % nw) by rw [← md_2 hn (by assumption)]] at h9; exact h9
                    have hl : lv_has ls 8 [(5, .int (nI ((t + 1) % nw))), (7, .int ((skA (fl nw (fun i_ => wAt g oz (4 * i_)) fk) nw t) ((nw + t) - 1))), (6, .int (nI (nw + t))), (4, .int (rcI ((t + 1 + nw - 1) / nw))), (3, .int (nI (4 * ((nw + 6) + 1)))), (2, .int (nI nw)), (0, .ref h), (1, .ref o)] := by have h9 := hl; rw [rc_s1 hn (by assumption)] at h9; exact h9
                    refine lv_iinc (v := nI (nw + t + 1)) (lv' := [(6, .int (nI (nw + t + 1))), (5, .int (nI ((t + 1) % nw))), (7, .int ((skA (fl nw (fun i_ => wAt g oz (4 * i_)) fk) nw t) ((nw + t) - 1))), (4, .int (rcI ((t + 1 + nw - 1) / nw))), (3, .int (nI (4 * ((nw + 6) + 1)))), (2, .int (nI nw)), (0, .ref h), (1, .ref o)]) hx hb dX0_schedule_183 hl (k := 2) rfl (nI_add (nw + t) 1) (by decide) rfl (fun ls hl => ?_)
                    refine lv_goto (tgt := 77) hx hb dX0_schedule_186 (by decide) ?_
                    exact ih (t + 1) H _ _ (by omega) (by omega) hP hD hS (lv_sub hl [0, 1, 3, 4, 5, 6, 7] rfl)
                  · refine lv_iconst (v := nI 0) hx hb dX0_schedule_173 (by decide) ?_
                    refine lv_goto (tgt := 181) hx hb dX0_schedule_174 (by decide) ?_
                    refine lv_istore (lv' := [(5, .int (nI 0)), (7, .int ((skA (fl nw (fun i_ => wAt g oz (4 * i_)) fk) nw t) ((nw + t) - 1))), (6, .int (nI (nw + t))), (4, .int (rcI ((t + nw - 1) / nw))), (3, .int (nI (4 * ((nw + 6) + 1)))), (2, .int (nI nw)), (0, .ref h), (1, .ref o)]) hx hb dX0_schedule_181 hl (by decide) rfl (fun ls hl => ?_)
                    have hl : lv_has ls 8 [(5, .int (nI ((t + 1) % nw))), (7, .int ((skA (fl nw (fun i_ => wAt g oz (4 * i_)) fk) nw t) ((nw + t) - 1))), (6, .int (nI (nw + t))), (4, .int (rcI ((t + nw - 1) / nw))), (3, .int (nI (4 * ((nw + 6) + 1)))), (2, .int (nI nw)), (0, .ref h), (1, .ref o)] := by have h9 := hl; rw [show nI 0 = nI ((t + 1) % nw) by rw [← md_1 hn (by assumption)]] at h9; exact h9
                    have hl : lv_has ls 8 [(5, .int (nI ((t + 1) % nw))), (7, .int ((skA (fl nw (fun i_ => wAt g oz (4 * i_)) fk) nw t) ((nw + t) - 1))), (6, .int (nI (nw + t))), (4, .int (rcI ((t + 1 + nw - 1) / nw))), (3, .int (nI (4 * ((nw + 6) + 1)))), (2, .int (nI nw)), (0, .ref h), (1, .ref o)] := by have h9 := hl; rw [rc_s1 hn (by assumption)] at h9; exact h9
                    refine lv_iinc (v := nI (nw + t + 1)) (lv' := [(6, .int (nI (nw + t + 1))), (5, .int (nI ((t + 1) % nw))), (7, .int ((skA (fl nw (fun i_ => wAt g oz (4 * i_)) fk) nw t) ((nw + t) - 1))), (4, .int (rcI ((t + 1 + nw - 1) / nw))), (3, .int (nI (4 * ((nw + 6) + 1)))), (2, .int (nI nw)), (0, .ref h), (1, .ref o)]) hx hb dX0_schedule_183 hl (k := 2) rfl (nI_add (nw + t) 1) (by decide) rfl (fun ls hl => ?_)
                    refine lv_goto (tgt := 77) hx hb dX0_schedule_186 (by decide) ?_
                    exact ih (t + 1) H _ _ (by omega) (by omega) hP hD hS (lv_sub hl [0, 1, 3, 4, 5, 6, 7] rfl)
                · refine lv_iload hx hb dX0_schedule_139 (lv_at hl 0 rfl) ?_
                  refine w_fini (wr := [(h, .inr (0, [.ref ab, .int (nI 4), .ref ao, .ref ak, .ref am, .int (nI (nw + 6))])), (ak, .inl (G.2.1, 60, .inl (skA (fl nw (fun i_ => wAt g oz (4 * i_)) fk) nw t))), (o, .inr (4, [.ref ob, .int (nI oz)])), (ob, .inl (G.2.1, on, .inl g))]) (va_runS (As := [.int ((skA (fl nw (fun i_ => wAt g oz (4 * i_)) fk) nw t) ((nw + t) - 1))]) (rest := []) ⟨hx, hb, hml, hown, hts⟩ (c_Aes_substituted l G ((skA (fl nw (fun i_ => wAt g oz (4 * i_)) fk) nw t) ((nw + t) - 1)) H.size) (va_cwS 1 hts gX0_schedule_X0_substituted rfl rfl rfl (by decide +kernel) ⟨Nat.le_of_ble_eq_true rfl, Nat.le_of_ble_eq_true rfl⟩) ⟨wPre.blind, (fun U hU hW => ⟨rfl, w_pre hK hT hA hP hD hS (isC := []) (by decide) rfl U hU hW⟩)⟩ rfl rfl hl.1 rfl (lv_room (Nat.le_of_ble_eq_true rfl)) dX0_schedule_141 ⟨Nat.le_of_ble_eq_true rfl, Nat.le_of_ble_eq_true rfl⟩) hA hP hD hS [] [0, 1, 2, 3] rfl rfl (by decide) (by decide) (fun r u H locs hpost hP hD hS => ?_)
                  obtain rfl := hpost
                  have hP : va_P G.1 vwCl [(h, .inr (0, [.ref ab, .int (nI 4), .ref ao, .ref ak, .ref am, .int (nI (nw + 6))])), (ak, .inl (G.2.1, 60, .inl (skA (fl nw (fun i_ => wAt g oz (4 * i_)) fk) nw t))), (o, .inr (4, [.ref ob, .int (nI oz)])), (ob, .inl (G.2.1, on, .inl g))] H := hP
                  have hD : va_D A [(h, .inr (0, [.ref ab, .int (nI 4), .ref ao, .ref ak, .ref am, .int (nI (nw + 6))])), (ak, .inl (G.2.1, 60, .inl (skA (fl nw (fun i_ => wAt g oz (4 * i_)) fk) nw t))), (o, .inr (4, [.ref ob, .int (nI oz)])), (ob, .inl (G.2.1, on, .inl g))] := hD
                  refine lv_istore (lv' := [(7, .int (nI (subN (un ((skA (fl nw (fun i_ => wAt g oz (4 * i_)) fk) nw t) ((nw + t) - 1)))))), (6, .int (nI (nw + t))), (5, .int (nI (t % nw))), (4, .int (rcI ((t + nw - 1) / nw))), (3, .int (nI (4 * ((nw + 6) + 1)))), (2, .int (nI nw)), (0, .ref h), (1, .ref o)]) hx hb dX0_schedule_144 hl (by decide) rfl (fun ls hl => ?_)
                  refine lv_aload_n hx hb dX0_schedule_146 rfl (lv_at hl 6 rfl) ?_
                  refine va_get (D := G.1) (ci := 0) (v := .ref ak) (C := RX0) (T := TX0) (N := 6) hx hb hts hinX0 hown hK hP 0 rfl rfl 3 (by decide) (hts (.fieldLink RX0 13 "CipherBox$Aes" "roundKeys" "[I") (by decide +kernel)) (fun _ h9 => h9) rfl dX0_schedule_147 ?_
                  refine lv_iload hx hb dX0_schedule_150 (lv_at hl 1 rfl) ?_
                  refine lv_aload_n hx hb dX0_schedule_152 rfl (lv_at hl 6 rfl) ?_
                  refine va_get (D := G.1) (ci := 0) (v := .ref ak) (C := RX0) (T := TX0) (N := 6) hx hb hts hinX0 hown hK hP 0 rfl rfl 3 (by decide) (hts (.fieldLink RX0 13 "CipherBox$Aes" "roundKeys" "[I") (by decide +kernel)) (fun _ h9 => h9) rfl dX0_schedule_153 ?_
                  refine lv_iload hx hb dX0_schedule_156 (lv_at hl 1 rfl) ?_
                  refine lv_iload_n hx hb dX0_schedule_158 rfl (lv_at hl 5 rfl) ?_
                  refine w_isubN hx hb (by omega) dX0_schedule_159 ?_
                  refine w_iald hx hb hK hP 1 rfl (by omega) (by omega) dX0_schedule_160 ?_
                  refine lv_iload hx hb dX0_schedule_161 (lv_at hl 0 rfl) ?_
                  refine lv_ixor hx hb dX0_schedule_163 ?_
                  refine w_iast hx hb hK hP hD hS 1 rfl (by omega) (by omega) (skA (fl nw (fun i_ => wAt g oz (4 * i_)) fk) nw (t + 1)) (skA_s (by unfold skT; first | rw [if_pos (by assumption)] | rw [if_neg (by assumption), if_pos ⟨by assumption, by assumption⟩] | rw [if_neg (by assumption), if_neg (fun q9 => by first | exact absurd q9.1 (by assumption) | exact absurd q9.2 (by assumption))])) dX0_schedule_164 (fun H locs hP hD hS => ?_)
                  have hP : va_P G.1 vwCl [(h, .inr (0, [.ref ab, .int (nI 4), .ref ao, .ref ak, .ref am, .int (nI (nw + 6))])), (ak, .inl (G.2.1, 60, .inl (skA (fl nw (fun i_ => wAt g oz (4 * i_)) fk) nw (t + 1)))), (o, .inr (4, [.ref ob, .int (nI oz)])), (ob, .inl (G.2.1, on, .inl g))] H := hP
                  have hD : va_D A [(h, .inr (0, [.ref ab, .int (nI 4), .ref ao, .ref ak, .ref am, .int (nI (nw + 6))])), (ak, .inl (G.2.1, 60, .inl (skA (fl nw (fun i_ => wAt g oz (4 * i_)) fk) nw (t + 1)))), (o, .inr (4, [.ref ob, .int (nI oz)])), (ob, .inl (G.2.1, on, .inl g))] := hD
                  refine lv_iload hx hb dX0_schedule_165 (lv_at hl 2 rfl) ?_
                  refine lv_iconst (v := nI 1) hx hb dX0_schedule_167 (by decide) ?_
                  refine w_iaddN hx hb dX0_schedule_168 ?_
                  refine lv_iload_n hx hb dX0_schedule_169 rfl (lv_at hl 5 rfl) ?_
                  refine w_icmpN_ne (tgt := 177) hx hb (Nat.lt_of_le_of_lt (Nat.add_le_add_right (Nat.mod_le _ _) 1) (by omega)) (by omega) dX0_schedule_170 (by decide) (fun h29 => ?_) (fun h29 => ?_)
                  · refine lv_iload hx hb dX0_schedule_177 (lv_at hl 2 rfl) ?_
                    refine lv_iconst (v := nI 1) hx hb dX0_schedule_179 (by decide) ?_
                    refine w_iaddN hx hb dX0_schedule_180 ?_
                    refine lv_istore (lv' := [(5, .int (nI ((t % nw) + 1))), (7, .int (nI (subN (un ((skA (fl nw (fun i_ => wAt g oz (4 * i_)) fk) nw t) ((nw + t) - 1)))))), (6, .int (nI (nw + t))), (4, .int (rcI ((t + nw - 1) / nw))), (3, .int (nI (4 * ((nw + 6) + 1)))), (2, .int (nI nw)), (0, .ref h), (1, .ref o)]) hx hb dX0_schedule_181 hl (by decide) rfl (fun ls hl => ?_)
                    have hl : lv_has ls 8 [(5, .int (nI ((t + 1) % nw))), (7, .int (nI (subN (un ((skA (fl nw (fun i_ => wAt g oz (4 * i_)) fk) nw t) ((nw + t) - 1)))))), (6, .int (nI (nw + t))), (4, .int (rcI ((t + nw - 1) / nw))), (3, .int (nI (4 * ((nw + 6) + 1)))), (2, .int (nI nw)), (0, .ref h), (1, .ref o)] := by have h9 := hl; rw [show nI ((t % nw) + 1) = nI ((t + 1) % nw) by rw [← md_2 hn (by assumption)]] at h9; exact h9
                    have hl : lv_has ls 8 [(5, .int (nI ((t + 1) % nw))), (7, .int (nI (subN (un ((skA (fl nw (fun i_ => wAt g oz (4 * i_)) fk) nw t) ((nw + t) - 1)))))), (6, .int (nI (nw + t))), (4, .int (rcI ((t + 1 + nw - 1) / nw))), (3, .int (nI (4 * ((nw + 6) + 1)))), (2, .int (nI nw)), (0, .ref h), (1, .ref o)] := by have h9 := hl; rw [rc_s1 hn (by assumption)] at h9; exact h9
                    refine lv_iinc (v := nI (nw + t + 1)) (lv' := [(6, .int (nI (nw + t + 1))), (5, .int (nI ((t + 1) % nw))), (7, .int (nI (subN (un ((skA (fl nw (fun i_ => wAt g oz (4 * i_)) fk) nw t) ((nw + t) - 1)))))), (4, .int (rcI ((t + 1 + nw - 1) / nw))), (3, .int (nI (4 * ((nw + 6) + 1)))), (2, .int (nI nw)), (0, .ref h), (1, .ref o)]) hx hb dX0_schedule_183 hl (k := 2) rfl (nI_add (nw + t) 1) (by decide) rfl (fun ls hl => ?_)
                    refine lv_goto (tgt := 77) hx hb dX0_schedule_186 (by decide) ?_
                    exact ih (t + 1) H _ _ (by omega) (by omega) hP hD hS (lv_sub hl [0, 1, 3, 4, 5, 6, 7] rfl)
                  · refine lv_iconst (v := nI 0) hx hb dX0_schedule_173 (by decide) ?_
                    refine lv_goto (tgt := 181) hx hb dX0_schedule_174 (by decide) ?_
                    refine lv_istore (lv' := [(5, .int (nI 0)), (7, .int (nI (subN (un ((skA (fl nw (fun i_ => wAt g oz (4 * i_)) fk) nw t) ((nw + t) - 1)))))), (6, .int (nI (nw + t))), (4, .int (rcI ((t + nw - 1) / nw))), (3, .int (nI (4 * ((nw + 6) + 1)))), (2, .int (nI nw)), (0, .ref h), (1, .ref o)]) hx hb dX0_schedule_181 hl (by decide) rfl (fun ls hl => ?_)
                    have hl : lv_has ls 8 [(5, .int (nI ((t + 1) % nw))), (7, .int (nI (subN (un ((skA (fl nw (fun i_ => wAt g oz (4 * i_)) fk) nw t) ((nw + t) - 1)))))), (6, .int (nI (nw + t))), (4, .int (rcI ((t + nw - 1) / nw))), (3, .int (nI (4 * ((nw + 6) + 1)))), (2, .int (nI nw)), (0, .ref h), (1, .ref o)] := by have h9 := hl; rw [show nI 0 = nI ((t + 1) % nw) by rw [← md_1 hn (by assumption)]] at h9; exact h9
                    have hl : lv_has ls 8 [(5, .int (nI ((t + 1) % nw))), (7, .int (nI (subN (un ((skA (fl nw (fun i_ => wAt g oz (4 * i_)) fk) nw t) ((nw + t) - 1)))))), (6, .int (nI (nw + t))), (4, .int (rcI ((t + 1 + nw - 1) / nw))), (3, .int (nI (4 * ((nw + 6) + 1)))), (2, .int (nI nw)), (0, .ref h), (1, .ref o)] := by have h9 := hl; rw [rc_s1 hn (by assumption)] at h9; exact h9
                    refine lv_iinc (v := nI (nw + t + 1)) (lv' := [(6, .int (nI (nw + t + 1))), (5, .int (nI ((t + 1) % nw))), (7, .int (nI (subN (un ((skA (fl nw (fun i_ => wAt g oz (4 * i_)) fk) nw t) ((nw + t) - 1)))))), (4, .int (rcI ((t + 1 + nw - 1) / nw))), (3, .int (nI (4 * ((nw + 6) + 1)))), (2, .int (nI nw)), (0, .ref h), (1, .ref o)]) hx hb dX0_schedule_183 hl (k := 2) rfl (nI_add (nw + t) 1) (by decide) rfl (fun ls hl => ?_)
                    refine lv_goto (tgt := 77) hx hb dX0_schedule_186 (by decide) ?_
                    exact ih (t + 1) H _ _ (by omega) (by omega) hP hD hS (lv_sub hl [0, 1, 3, 4, 5, 6, 7] rfl)
            · refine lv_iload hx hb dX0_schedule_99 (lv_at hl 0 rfl) ?_
              refine lv_bipush (v := nI 24) hx hb dX0_schedule_101 (by decide) ?_
              refine w_fini (wr := [(h, .inr (0, [.ref ab, .int (nI 4), .ref ao, .ref ak, .ref am, .int (nI (nw + 6))])), (ak, .inl (G.2.1, 60, .inl (skA (fl nw (fun i_ => wAt g oz (4 * i_)) fk) nw t))), (o, .inr (4, [.ref ob, .int (nI oz)])), (ob, .inl (G.2.1, on, .inl g))]) (va_runSN (As := [.int ((skA (fl nw (fun i_ => wAt g oz (4 * i_)) fk) nw t) ((nw + t) - 1)), .int (nI 24)]) (rest := []) ⟨hx, hb, hml, hown, hts⟩ (c_turnRight l G ((skA (fl nw (fun i_ => wAt g oz (4 * i_)) fk) nw t) ((nw + t) - 1)) 24 H.size) ⟨va_cnB 2 hts gX0_schedule_X7_turnRight_n36 rfl rfl rfl hT.2.2.2.1 (hts (.initialized RX7) (by decide +kernel)) (by decide +kernel) ⟨Nat.le_of_ble_eq_true rfl, Nat.le_of_ble_eq_true rfl⟩, hts (.static yX7_turnRight) (by decide +kernel), trivial⟩ ⟨wPre.blind, (fun U hU hW => ⟨rfl, w_pre hK hT hA hP hD hS (isC := []) (by decide) rfl U hU hW⟩)⟩ rfl rfl hl.1 rfl (lv_room (Nat.le_of_ble_eq_true rfl)) dX0_schedule_103 ⟨Nat.le_of_ble_eq_true rfl, Nat.le_of_ble_eq_true rfl⟩) hA hP hD hS [] [0, 1, 2, 3] rfl rfl (by decide) (by decide) (fun r u H locs hpost hP hD hS => ?_)
              obtain rfl := hpost
              have hP : va_P G.1 vwCl [(h, .inr (0, [.ref ab, .int (nI 4), .ref ao, .ref ak, .ref am, .int (nI (nw + 6))])), (ak, .inl (G.2.1, 60, .inl (skA (fl nw (fun i_ => wAt g oz (4 * i_)) fk) nw t))), (o, .inr (4, [.ref ob, .int (nI oz)])), (ob, .inl (G.2.1, on, .inl g))] H := hP
              have hD : va_D A [(h, .inr (0, [.ref ab, .int (nI 4), .ref ao, .ref ak, .ref am, .int (nI (nw + 6))])), (ak, .inl (G.2.1, 60, .inl (skA (fl nw (fun i_ => wAt g oz (4 * i_)) fk) nw t))), (o, .inr (4, [.ref ob, .int (nI oz)])), (ob, .inl (G.2.1, on, .inl g))] := hD
              refine w_fini (wr := [(h, .inr (0, [.ref ab, .int (nI 4), .ref ao, .ref ak, .ref am, .int (nI (nw + 6))])), (ak, .inl (G.2.1, 60, .inl (skA (fl nw (fun i_ => wAt g oz (4 * i_)) fk) nw t))), (o, .inr (4, [.ref ob, .int (nI oz)])), (ob, .inl (G.2.1, on, .inl g))]) (va_runS (As := [.int (rot 24 ((skA (fl nw (fun i_ => wAt g oz (4 * i_)) fk) nw t) ((nw + t) - 1)))]) (rest := []) ⟨hx, hb, hml, hown, hts⟩ (c_Aes_substituted l G (rot 24 ((skA (fl nw (fun i_ => wAt g oz (4 * i_)) fk) nw t) ((nw + t) - 1))) H.size) (va_cwS 1 hts gX0_schedule_X0_substituted rfl rfl rfl (by decide +kernel) ⟨Nat.le_of_ble_eq_true rfl, Nat.le_of_ble_eq_true rfl⟩) ⟨wPre.blind, (fun U hU hW => ⟨rfl, w_pre hK hT hA hP hD hS (isC := []) (by decide) rfl U hU hW⟩)⟩ rfl rfl hl.1 rfl (lv_room (Nat.le_of_ble_eq_true rfl)) dX0_schedule_106 ⟨Nat.le_of_ble_eq_true rfl, Nat.le_of_ble_eq_true rfl⟩) hA hP hD hS [] [0, 1, 2, 3] rfl rfl (by decide) (by decide) (fun r u H locs hpost hP hD hS => ?_)
              obtain rfl := hpost
              have hP : va_P G.1 vwCl [(h, .inr (0, [.ref ab, .int (nI 4), .ref ao, .ref ak, .ref am, .int (nI (nw + 6))])), (ak, .inl (G.2.1, 60, .inl (skA (fl nw (fun i_ => wAt g oz (4 * i_)) fk) nw t))), (o, .inr (4, [.ref ob, .int (nI oz)])), (ob, .inl (G.2.1, on, .inl g))] H := hP
              have hD : va_D A [(h, .inr (0, [.ref ab, .int (nI 4), .ref ao, .ref ak, .ref am, .int (nI (nw + 6))])), (ak, .inl (G.2.1, 60, .inl (skA (fl nw (fun i_ => wAt g oz (4 * i_)) fk) nw t))), (o, .inr (4, [.ref ob, .int (nI oz)])), (ob, .inl (G.2.1, on, .inl g))] := hD
              refine lv_iload hx hb dX0_schedule_109 (lv_at hl 3 rfl) ?_
              refine lv_bipush (v := nI 24) hx hb dX0_schedule_111 (by decide) ?_
              refine lv_ishl hx hb dX0_schedule_113 ?_
              refine lv_ixor hx hb dX0_schedule_114 ?_
              refine lv_istore (lv' := [(7, .int ((nI (subN (un (rot 24 ((skA (fl nw (fun i_ => wAt g oz (4 * i_)) fk) nw t) ((nw + t) - 1)))))) ^^^ ((rcI ((t + nw - 1) / nw)) <<< ((nI 24) &&& 31)))), (6, .int (nI (nw + t))), (5, .int (nI (t % nw))), (4, .int (rcI ((t + nw - 1) / nw))), (3, .int (nI (4 * ((nw + 6) + 1)))), (2, .int (nI nw)), (0, .ref h), (1, .ref o)]) hx hb dX0_schedule_115 hl (by decide) rfl (fun ls hl => ?_)
              refine lv_iload hx hb dX0_schedule_117 (lv_at hl 3 rfl) ?_
              refine w_fini (wr := [(h, .inr (0, [.ref ab, .int (nI 4), .ref ao, .ref ak, .ref am, .int (nI (nw + 6))])), (ak, .inl (G.2.1, 60, .inl (skA (fl nw (fun i_ => wAt g oz (4 * i_)) fk) nw t))), (o, .inr (4, [.ref ob, .int (nI oz)])), (ob, .inl (G.2.1, on, .inl g))]) (va_runS (As := [.int (rcI ((t + nw - 1) / nw))]) (rest := []) ⟨hx, hb, hml, hown, hts⟩ (c_Aes_doubled l G (rcI ((t + nw - 1) / nw)) H.size) (va_cwS 1 hts gX0_schedule_X0_doubled rfl rfl rfl (by decide +kernel) ⟨Nat.le_of_ble_eq_true rfl, Nat.le_of_ble_eq_true rfl⟩) ⟨wPre.blind, (fun U hU hW => ⟨rfl, w_pre hK hT hA hP hD hS (isC := []) (by decide) rfl U hU hW⟩)⟩ rfl rfl hl.1 rfl (lv_room (Nat.le_of_ble_eq_true rfl)) dX0_schedule_119 ⟨Nat.le_of_ble_eq_true rfl, Nat.le_of_ble_eq_true rfl⟩) hA hP hD hS [] [0, 1, 2, 3] rfl rfl (by decide) (by decide) (fun r u H locs hpost hP hD hS => ?_)
              obtain rfl := hpost
              have hP : va_P G.1 vwCl [(h, .inr (0, [.ref ab, .int (nI 4), .ref ao, .ref ak, .ref am, .int (nI (nw + 6))])), (ak, .inl (G.2.1, 60, .inl (skA (fl nw (fun i_ => wAt g oz (4 * i_)) fk) nw t))), (o, .inr (4, [.ref ob, .int (nI oz)])), (ob, .inl (G.2.1, on, .inl g))] H := hP
              have hD : va_D A [(h, .inr (0, [.ref ab, .int (nI 4), .ref ao, .ref ak, .ref am, .int (nI (nw + 6))])), (ak, .inl (G.2.1, 60, .inl (skA (fl nw (fun i_ => wAt g oz (4 * i_)) fk) nw t))), (o, .inr (4, [.ref ob, .int (nI oz)])), (ob, .inl (G.2.1, on, .inl g))] := hD
              refine lv_istore (lv' := [(4, .int (dblI (rcI ((t + nw - 1) / nw)))), (7, .int ((nI (subN (un (rot 24 ((skA (fl nw (fun i_ => wAt g oz (4 * i_)) fk) nw t) ((nw + t) - 1)))))) ^^^ ((rcI ((t + nw - 1) / nw)) <<< ((nI 24) &&& 31)))), (6, .int (nI (nw + t))), (5, .int (nI (t % nw))), (3, .int (nI (4 * ((nw + 6) + 1)))), (2, .int (nI nw)), (0, .ref h), (1, .ref o)]) hx hb dX0_schedule_122 hl (by decide) rfl (fun ls hl => ?_)
              refine lv_goto (tgt := 146) hx hb dX0_schedule_124 (by decide) ?_
              refine lv_aload_n hx hb dX0_schedule_146 rfl (lv_at hl 6 rfl) ?_
              refine va_get (D := G.1) (ci := 0) (v := .ref ak) (C := RX0) (T := TX0) (N := 6) hx hb hts hinX0 hown hK hP 0 rfl rfl 3 (by decide) (hts (.fieldLink RX0 13 "CipherBox$Aes" "roundKeys" "[I") (by decide +kernel)) (fun _ h9 => h9) rfl dX0_schedule_147 ?_
              refine lv_iload hx hb dX0_schedule_150 (lv_at hl 2 rfl) ?_
              refine lv_aload_n hx hb dX0_schedule_152 rfl (lv_at hl 6 rfl) ?_
              refine va_get (D := G.1) (ci := 0) (v := .ref ak) (C := RX0) (T := TX0) (N := 6) hx hb hts hinX0 hown hK hP 0 rfl rfl 3 (by decide) (hts (.fieldLink RX0 13 "CipherBox$Aes" "roundKeys" "[I") (by decide +kernel)) (fun _ h9 => h9) rfl dX0_schedule_153 ?_
              refine lv_iload hx hb dX0_schedule_156 (lv_at hl 2 rfl) ?_
              refine lv_iload_n hx hb dX0_schedule_158 rfl (lv_at hl 5 rfl) ?_
              refine w_isubN hx hb (by omega) dX0_schedule_159 ?_
              refine w_iald hx hb hK hP 1 rfl (by omega) (by omega) dX0_schedule_160 ?_
              refine lv_iload hx hb dX0_schedule_161 (lv_at hl 1 rfl) ?_
              refine lv_ixor hx hb dX0_schedule_163 ?_
              refine w_iast hx hb hK hP hD hS 1 rfl (by omega) (by omega) (skA (fl nw (fun i_ => wAt g oz (4 * i_)) fk) nw (t + 1)) (skA_s (by unfold skT; first | rw [if_pos (by assumption)] | rw [if_neg (by assumption), if_pos ⟨by assumption, by assumption⟩] | rw [if_neg (by assumption), if_neg (fun q9 => by first | exact absurd q9.1 (by assumption) | exact absurd q9.2 (by assumption))])) dX0_schedule_164 (fun H locs hP hD hS => ?_)
              have hP : va_P G.1 vwCl [(h, .inr (0, [.ref ab, .int (nI 4), .ref ao, .ref ak, .ref am, .int (nI (nw + 6))])), (ak, .inl (G.2.1, 60, .inl (skA (fl nw (fun i_ => wAt g oz (4 * i_)) fk) nw (t + 1)))), (o, .inr (4, [.ref ob, .int (nI oz)])), (ob, .inl (G.2.1, on, .inl g))] H := hP
              have hD : va_D A [(h, .inr (0, [.ref ab, .int (nI 4), .ref ao, .ref ak, .ref am, .int (nI (nw + 6))])), (ak, .inl (G.2.1, 60, .inl (skA (fl nw (fun i_ => wAt g oz (4 * i_)) fk) nw (t + 1)))), (o, .inr (4, [.ref ob, .int (nI oz)])), (ob, .inl (G.2.1, on, .inl g))] := hD
              refine lv_iload hx hb dX0_schedule_165 (lv_at hl 3 rfl) ?_
              refine lv_iconst (v := nI 1) hx hb dX0_schedule_167 (by decide) ?_
              refine w_iaddN hx hb dX0_schedule_168 ?_
              refine lv_iload_n hx hb dX0_schedule_169 rfl (lv_at hl 5 rfl) ?_
              refine w_icmpN_ne (tgt := 177) hx hb (Nat.lt_of_le_of_lt (Nat.add_le_add_right (Nat.mod_le _ _) 1) (by omega)) (by omega) dX0_schedule_170 (by decide) (fun h30 => ?_) (fun h30 => ?_)
              · refine lv_iload hx hb dX0_schedule_177 (lv_at hl 3 rfl) ?_
                refine lv_iconst (v := nI 1) hx hb dX0_schedule_179 (by decide) ?_
                refine w_iaddN hx hb dX0_schedule_180 ?_
                refine lv_istore (lv' := [(5, .int (nI ((t % nw) + 1))), (4, .int (dblI (rcI ((t + nw - 1) / nw)))), (7, .int ((nI (subN (un (rot 24 ((skA (fl nw (fun i_ => wAt g oz (4 * i_)) fk) nw t) ((nw + t) - 1)))))) ^^^ ((rcI ((t + nw - 1) / nw)) <<< ((nI 24) &&& 31)))), (6, .int (nI (nw + t))), (3, .int (nI (4 * ((nw + 6) + 1)))), (2, .int (nI nw)), (0, .ref h), (1, .ref o)]) hx hb dX0_schedule_181 hl (by decide) rfl (fun ls hl => ?_)
                have hl : lv_has ls 8 [(5, .int (nI ((t + 1) % nw))), (4, .int (dblI (rcI ((t + nw - 1) / nw)))), (7, .int ((nI (subN (un (rot 24 ((skA (fl nw (fun i_ => wAt g oz (4 * i_)) fk) nw t) ((nw + t) - 1)))))) ^^^ ((rcI ((t + nw - 1) / nw)) <<< ((nI 24) &&& 31)))), (6, .int (nI (nw + t))), (3, .int (nI (4 * ((nw + 6) + 1)))), (2, .int (nI nw)), (0, .ref h), (1, .ref o)] := by have h9 := hl; rw [show nI ((t % nw) + 1) = nI ((t + 1) % nw) by rw [← md_2 hn (by assumption)]] at h9; exact h9
                have hl : lv_has ls 8 [(5, .int (nI ((t + 1) % nw))), (4, .int (rcI ((t + 1 + nw - 1) / nw))), (7, .int ((nI (subN (un (rot 24 ((skA (fl nw (fun i_ => wAt g oz (4 * i_)) fk) nw t) ((nw + t) - 1)))))) ^^^ ((rcI ((t + nw - 1) / nw)) <<< ((nI 24) &&& 31)))), (6, .int (nI (nw + t))), (3, .int (nI (4 * ((nw + 6) + 1)))), (2, .int (nI nw)), (0, .ref h), (1, .ref o)] := by have h9 := hl; rw [rc_s0 hn (by assumption)] at h9; exact h9
                refine lv_iinc (v := nI (nw + t + 1)) (lv' := [(6, .int (nI (nw + t + 1))), (5, .int (nI ((t + 1) % nw))), (4, .int (rcI ((t + 1 + nw - 1) / nw))), (7, .int ((nI (subN (un (rot 24 ((skA (fl nw (fun i_ => wAt g oz (4 * i_)) fk) nw t) ((nw + t) - 1)))))) ^^^ ((rcI ((t + nw - 1) / nw)) <<< ((nI 24) &&& 31)))), (3, .int (nI (4 * ((nw + 6) + 1)))), (2, .int (nI nw)), (0, .ref h), (1, .ref o)]) hx hb dX0_schedule_183 hl (k := 3) rfl (nI_add (nw + t) 1) (by decide) rfl (fun ls hl => ?_)
                refine lv_goto (tgt := 77) hx hb dX0_schedule_186 (by decide) ?_
                exact ih (t + 1) H _ _ (by omega) (by omega) hP hD hS (lv_sub hl [0, 1, 2, 4, 5, 6, 7] rfl)
              · refine lv_iconst (v := nI 0) hx hb dX0_schedule_173 (by decide) ?_
                refine lv_goto (tgt := 181) hx hb dX0_schedule_174 (by decide) ?_
                refine lv_istore (lv' := [(5, .int (nI 0)), (4, .int (dblI (rcI ((t + nw - 1) / nw)))), (7, .int ((nI (subN (un (rot 24 ((skA (fl nw (fun i_ => wAt g oz (4 * i_)) fk) nw t) ((nw + t) - 1)))))) ^^^ ((rcI ((t + nw - 1) / nw)) <<< ((nI 24) &&& 31)))), (6, .int (nI (nw + t))), (3, .int (nI (4 * ((nw + 6) + 1)))), (2, .int (nI nw)), (0, .ref h), (1, .ref o)]) hx hb dX0_schedule_181 hl (by decide) rfl (fun ls hl => ?_)
                have hl : lv_has ls 8 [(5, .int (nI ((t + 1) % nw))), (4, .int (dblI (rcI ((t + nw - 1) / nw)))), (7, .int ((nI (subN (un (rot 24 ((skA (fl nw (fun i_ => wAt g oz (4 * i_)) fk) nw t) ((nw + t) - 1)))))) ^^^ ((rcI ((t + nw - 1) / nw)) <<< ((nI 24) &&& 31)))), (6, .int (nI (nw + t))), (3, .int (nI (4 * ((nw + 6) + 1)))), (2, .int (nI nw)), (0, .ref h), (1, .ref o)] := by have h9 := hl; rw [show nI 0 = nI ((t + 1) % nw) by rw [← md_1 hn (by assumption)]] at h9; exact h9
                have hl : lv_has ls 8 [(5, .int (nI ((t + 1) % nw))), (4, .int (rcI ((t + 1 + nw - 1) / nw))), (7, .int ((nI (subN (un (rot 24 ((skA (fl nw (fun i_ => wAt g oz (4 * i_)) fk) nw t) ((nw + t) - 1)))))) ^^^ ((rcI ((t + nw - 1) / nw)) <<< ((nI 24) &&& 31)))), (6, .int (nI (nw + t))), (3, .int (nI (4 * ((nw + 6) + 1)))), (2, .int (nI nw)), (0, .ref h), (1, .ref o)] := by have h9 := hl; rw [rc_s0 hn (by assumption)] at h9; exact h9
                refine lv_iinc (v := nI (nw + t + 1)) (lv' := [(6, .int (nI (nw + t + 1))), (5, .int (nI ((t + 1) % nw))), (4, .int (rcI ((t + 1 + nw - 1) / nw))), (7, .int ((nI (subN (un (rot 24 ((skA (fl nw (fun i_ => wAt g oz (4 * i_)) fk) nw t) ((nw + t) - 1)))))) ^^^ ((rcI ((t + nw - 1) / nw)) <<< ((nI 24) &&& 31)))), (3, .int (nI (4 * ((nw + 6) + 1)))), (2, .int (nI nw)), (0, .ref h), (1, .ref o)]) hx hb dX0_schedule_183 hl (k := 3) rfl (nI_add (nw + t) 1) (by decide) rfl (fun ls hl => ?_)
                refine lv_goto (tgt := 77) hx hb dX0_schedule_186 (by decide) ?_
                exact ih (t + 1) H _ _ (by omega) (by omega) hP hD hS (lv_sub hl [0, 1, 2, 4, 5, 6, 7] rfl)
        · refine lv_aload_n hx hb dX0_schedule_40 rfl (lv_at hl 2 rfl) ?_
          refine va_get (D := G.1) (ci := 0) (v := .ref ak) (C := RX0) (T := TX0) (N := 6) hx hb hts hinX0 hown hK hP 0 rfl rfl 3 (by decide) (hts (.fieldLink RX0 13 "CipherBox$Aes" "roundKeys" "[I") (by decide +kernel)) (fun _ h9 => h9) rfl dX0_schedule_41 ?_
          refine lv_iload_n hx hb dX0_schedule_44 rfl (lv_at hl 0 rfl) ?_
          refine lv_aload_n hx hb dX0_schedule_45 rfl (lv_at hl 3 rfl) ?_
          refine lv_iconst (v := nI 4) hx hb dX0_schedule_46 (by decide) ?_
          refine lv_iload_n hx hb dX0_schedule_47 rfl (lv_at hl 0 rfl) ?_
          refine w_imulN hx hb dX0_schedule_48 ?_
          refine w_fini (wr := [(h, .inr (0, [.ref ab, .int (nI 4), .ref ao, .ref ak, .ref am, .int (nI (nw + 6))])), (ak, .inl (G.2.1, 60, .inl (fl k (fun i_ => wAt g oz (4 * i_)) fk)))]) (va_runV (As := [.int (nI (4 * k))]) (rest := [.int (nI k), .ref ak]) ⟨hx, hb, hml, hown, hts⟩ (c_Row_wordAt l G o ob on oz g (4 * k) (by omega) (by omega) (by omega) H.size) (cwV 1 hts gX0_schedule_X5_wordAt rfl rfl rfl (by decide +kernel) ⟨Nat.le_of_ble_eq_true rfl, Nat.le_of_ble_eq_true rfl⟩) ⟨wPre.blind, (va_recv hK hP (ci := 4) (q0 := 2) rfl rfl), (fun U hU hW => ⟨rfl, w_pre hK hT hA hP hD hS (isC := [2, 3]) (by decide) rfl U hU hW⟩)⟩ rfl rfl hl.1 rfl (lv_room (Nat.le_of_ble_eq_true rfl)) dX0_schedule_49 ⟨Nat.le_of_ble_eq_true rfl, Nat.le_of_ble_eq_true rfl⟩) hA hP hD hS [2, 3] [0, 1] rfl rfl (by decide) (by decide) (fun r u H locs hpost hP hD hS => ?_)
          obtain rfl := hpost
          have hP : va_P G.1 vwCl [(h, .inr (0, [.ref ab, .int (nI 4), .ref ao, .ref ak, .ref am, .int (nI (nw + 6))])), (ak, .inl (G.2.1, 60, .inl (fl k (fun i_ => wAt g oz (4 * i_)) fk))), (o, .inr (4, [.ref ob, .int (nI oz)])), (ob, .inl (G.2.1, on, .inl g))] H := hP
          have hD : va_D A [(h, .inr (0, [.ref ab, .int (nI 4), .ref ao, .ref ak, .ref am, .int (nI (nw + 6))])), (ak, .inl (G.2.1, 60, .inl (fl k (fun i_ => wAt g oz (4 * i_)) fk))), (o, .inr (4, [.ref ob, .int (nI oz)])), (ob, .inl (G.2.1, on, .inl g))] := hD
          refine w_iast hx hb hK hP hD hS 1 rfl (by omega) (by omega) (fl (k + 1) (fun i_ => wAt g oz (4 * i_)) fk) (fl_s rfl) dX0_schedule_52 (fun H locs hP hD hS => ?_)
          have hP : va_P G.1 vwCl [(h, .inr (0, [.ref ab, .int (nI 4), .ref ao, .ref ak, .ref am, .int (nI (nw + 6))])), (ak, .inl (G.2.1, 60, .inl (fl (k + 1) (fun i_ => wAt g oz (4 * i_)) fk))), (o, .inr (4, [.ref ob, .int (nI oz)])), (ob, .inl (G.2.1, on, .inl g))] H := hP
          have hD : va_D A [(h, .inr (0, [.ref ab, .int (nI 4), .ref ao, .ref ak, .ref am, .int (nI (nw + 6))])), (ak, .inl (G.2.1, 60, .inl (fl (k + 1) (fun i_ => wAt g oz (4 * i_)) fk))), (o, .inr (4, [.ref ob, .int (nI oz)])), (ob, .inl (G.2.1, on, .inl g))] := hD
          refine lv_iinc (v := nI (k + 1)) (lv' := [(3, .int (nI (k + 1))), (2, .int (nI nw)), (0, .ref h), (1, .ref o)]) hx hb dX0_schedule_53 hl (k := 0) rfl (nI_add k 1) (by decide) rfl (fun ls hl => ?_)
          refine lv_goto (tgt := 35) hx hb dX0_schedule_56 (by decide) ?_
          exact ih (k + 1) H _ _ (by omega) (by omega) hP hD hS (lv_sub hl [0, 1, 2, 3] rfl)
      · exact absurd hn (by omega)
