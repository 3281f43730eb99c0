/-! the model's calls: same, about, hash -/
set_option maxHeartbeats 4000000 in
set_option maxRecDepth 100000 in
theorem c_m_same_ne (l : Launch) (G : wG) (h : Nat) (a : Nat → Nat) (rd mn tp os : Nat) (ty : Int32) (sz : Nat) (ht : tp ≠ os) (ht2 : tp ≤ 400) (ht3 : os ≤ 400) : CMi l G yX8_same wsX8_same 1 21 [.ref h] [(h, .inr (7, mO a rd mn tp os ty sz))] (fun r (_ : Unit) => r = nI 0) (fun _ => [(h, .inr (7, mO a rd mn 0 os ty sz))]) := by
  refine CMi.start cX8_same 4 .int (by decide) rfl (Nat.le_of_ble_eq_true rfl) (fun r u h => vp_nar_int r) ?_
  intro p e s m below meth c A Q ls H locs hx hb hml hown hts hK hT hA hP hD hS hl hret
  have hinX8 : ∀ w ∈ u_ws RX8 TX8 35, w ∈ wsX8_same := by decide +kernel
  have hl : lv_has ls 4 [(0, .ref h)] := hl
  refine lv_aload_n hx hb dX8_same_0 rfl (lv_at hl 0 rfl) ?_
  refine w_fini (wr := []) (va_runV (As := []) (rest := []) ⟨hx, hb, hml, hown, hts⟩ (c_m_use l G h a rd mn tp os ty sz H.size) (cwV 0 hts gX8_same_X8_use rfl rfl rfl (by decide +kernel) ⟨Nat.le_of_ble_eq_true rfl, Nat.le_of_ble_eq_true rfl⟩) ⟨wPre.blind, (va_recv hK hP (ci := 7) (q0 := 0) rfl rfl), (fun U hU hW => ⟨rfl, w_pre hK hT hA hP hD hS (isC := [0]) (by decide) rfl U hU hW⟩)⟩ rfl rfl hl.1 rfl (lv_room (Nat.le_of_ble_eq_true rfl)) dX8_same_1 ⟨Nat.le_of_ble_eq_true rfl, Nat.le_of_ble_eq_true rfl⟩) hA hP hD hS [0] [] rfl rfl (by decide) (by decide) (fun r u H locs hpost hP hD hS => ?_)
  obtain rfl := hpost
  have hP : va_P G.1 vwCl [(h, .inr (7, mO a rd mn 0 os ty sz))] H := hP
  have hD : va_D A [(h, .inr (7, mO a rd mn 0 os ty sz))] := hD
  refine lv_istore_n (lv' := [(1, .int (nI tp)), (0, .ref h)]) hx hb dX8_same_4 rfl hl (by decide) rfl (fun ls hl => ?_)
  refine lv_iload_n hx hb dX8_same_5 rfl (lv_at hl 0 rfl) ?_
  refine lv_aload_n hx hb dX8_same_6 rfl (lv_at hl 1 rfl) ?_
  refine va_get (D := G.1) (ci := 7) (v := .int (nI os)) (C := RX8) (T := TX8) (N := 35) hx hb hts hinX8 hown hK hP 0 rfl rfl 30 (by decide) (hts (.fieldLink RX8 251 "CipherBoxModel" "outSize" "I") (by decide +kernel)) (fun _ h9 => h9) rfl dX8_same_7 ?_
  refine w_icmpN_ne (tgt := 17) hx hb (by omega) (by omega) dX8_same_10 (by decide) (fun h1 => ?_) (fun h1 => ?_)
  · refine lv_iconst (v := nI 0) hx hb dX8_same_17 (by decide) ?_
    refine lv_istore_n (lv' := [(2, .int (nI 0)), (1, .int (nI tp)), (0, .ref h)]) hx hb dX8_same_18 rfl hl (by decide) rfl (fun ls hl => ?_)
    refine lv_iconst (v := nI 0) hx hb dX8_same_19 (by decide) ?_
    refine lv_istore_n (lv' := [(3, .int (nI 0)), (2, .int (nI 0)), (1, .int (nI tp)), (0, .ref h)]) hx hb dX8_same_20 rfl hl (by decide) rfl (fun ls hl => ?_)
    refine lv_iload_n hx hb dX8_same_21 rfl (lv_at hl 0 rfl) ?_
    refine lv_iload_n hx hb dX8_same_22 rfl (lv_at hl 2 rfl) ?_
    refine w_icmpN_ge (tgt := 57) hx hb (by omega) (by omega) dX8_same_23 (by decide) (fun h2 => ?_) (fun h2 => ?_)
    · refine lv_iload_n hx hb dX8_same_57 rfl (lv_at hl 1 rfl) ?_
      refine w_ifN_eq (tgt := 65) hx hb (by omega) dX8_same_58 (by decide) (fun h3 => ?_) (fun h3 => ?_)
      · refine lv_iconst (v := nI 0) hx hb dX8_same_65 (by decide) ?_
        exact hret (nI 0) () H _ 66 ls dX8_same_66 (rfl) (hP.sub [0] rfl) (hD.sub [0] (by decide) rfl) hS
      · exact absurd rfl h3
    · refine lv_iload_n hx hb dX8_same_26 rfl (lv_at hl 1 rfl) ?_
      refine w_ifN_eq (tgt := 57) hx hb (by omega) dX8_same_27 (by decide) (fun h4 => ?_) (fun h4 => ?_)
      · refine lv_iload_n hx hb dX8_same_57 rfl (lv_at hl 1 rfl) ?_
        refine w_ifN_eq (tgt := 65) hx hb (by omega) dX8_same_58 (by decide) (fun h5 => ?_) (fun h5 => ?_)
        · refine lv_iconst (v := nI 0) hx hb dX8_same_65 (by decide) ?_
          exact hret (nI 0) () H _ 66 ls dX8_same_66 (rfl) (hP.sub [0] rfl) (hD.sub [0] (by decide) rfl) hS
        · exact absurd rfl h5
      · exact absurd rfl h4
  · exact absurd h1 ht

set_option maxHeartbeats 4000000 in
set_option maxRecDepth 100000 in
theorem c_m_same_eq (l : Launch) (G : wG) (h : Nat) (a : Nat → Nat) (rd mn tp os : Nat) (ty : Int32) (sz : Nat) (ft fo : Nat → Int32) (ht : tp = os) (ht2 : tp ≤ 400) : CMi l G yX8_same wsX8_same 1 21 [.ref h] [(h, .inr (7, mO a rd mn tp os ty sz)), (a 27, .inl (G.2.2.1, 400, .inl ft)), (a 29, .inl (G.2.2.1, 416, .inl fo))] (fun r (_ : Unit) => r = (if (∀ j, j < tp → ft j = fo j) then nI 1 else nI 0)) (fun _ => [(h, .inr (7, mO a rd mn 0 os ty sz)), (a 27, .inl (G.2.2.1, 400, .inl ft)), (a 29, .inl (G.2.2.1, 416, .inl fo))]) := by
  refine CMi.start cX8_same 4 .int (by decide) rfl (Nat.le_of_ble_eq_true rfl) (fun r u h => vp_nar_int r) ?_
  intro p e s m below meth c A Q ls H locs hx hb hml hown hts hK hT hA hP hD hS hl hret
  have hinX8 : ∀ w ∈ u_ws RX8 TX8 35, w ∈ wsX8_same := by decide +kernel
  have hl : lv_has ls 4 [(0, .ref h)] := hl
  refine lv_aload_n hx hb dX8_same_0 rfl (lv_at hl 0 rfl) ?_
  refine w_fini (wr := [(a 27, .inl (G.2.2.1, 400, .inl ft)), (a 29, .inl (G.2.2.1, 416, .inl fo))]) (va_runV (As := []) (rest := []) ⟨hx, hb, hml, hown, hts⟩ (c_m_use l G h a rd mn tp os ty sz H.size) (cwV 0 hts gX8_same_X8_use rfl rfl rfl (by decide +kernel) ⟨Nat.le_of_ble_eq_true rfl, Nat.le_of_ble_eq_true rfl⟩) ⟨wPre.blind, (va_recv hK hP (ci := 7) (q0 := 0) rfl rfl), (fun U hU hW => ⟨rfl, w_pre hK hT hA hP hD hS (isC := [0]) (by decide) rfl U hU hW⟩)⟩ rfl rfl hl.1 rfl (lv_room (Nat.le_of_ble_eq_true rfl)) dX8_same_1 ⟨Nat.le_of_ble_eq_true rfl, Nat.le_of_ble_eq_true rfl⟩) hA hP hD hS [0] [1, 2] rfl rfl (by decide) (by decide) (fun r u H locs hpost hP hD hS => ?_)
  obtain rfl := hpost
  have hP : va_P G.1 vwCl [(a 27, .inl (G.2.2.1, 400, .inl ft)), (a 29, .inl (G.2.2.1, 416, .inl fo)), (h, .inr (7, mO a rd mn 0 os ty sz))] H := hP
  have hD : va_D A [(a 27, .inl (G.2.2.1, 400, .inl ft)), (a 29, .inl (G.2.2.1, 416, .inl fo)), (h, .inr (7, mO a rd mn 0 os ty sz))] := hD
  refine lv_istore_n (lv' := [(1, .int (nI tp)), (0, .ref h)]) hx hb dX8_same_4 rfl hl (by decide) rfl (fun ls hl => ?_)
  refine lv_iload_n hx hb dX8_same_5 rfl (lv_at hl 0 rfl) ?_
  refine lv_aload_n hx hb dX8_same_6 rfl (lv_at hl 1 rfl) ?_
  refine va_get (D := G.1) (ci := 7) (v := .int (nI os)) (C := RX8) (T := TX8) (N := 35) hx hb hts hinX8 hown hK hP 2 rfl rfl 30 (by decide) (hts (.fieldLink RX8 251 "CipherBoxModel" "outSize" "I") (by decide +kernel)) (fun _ h9 => h9) rfl dX8_same_7 ?_
  refine w_icmpN_ne (tgt := 17) hx hb (by omega) (by omega) dX8_same_10 (by decide) (fun h1 => ?_) (fun h1 => ?_)
  · exact absurd ht h1
  · refine lv_iconst (v := nI 1) hx hb dX8_same_13 (by decide) ?_
    refine lv_goto (tgt := 18) hx hb dX8_same_14 (by decide) ?_
    refine lv_istore_n (lv' := [(2, .int (nI 1)), (1, .int (nI tp)), (0, .ref h)]) hx hb dX8_same_18 rfl hl (by decide) rfl (fun ls hl => ?_)
    refine lv_iconst (v := nI 0) hx hb dX8_same_19 (by decide) ?_
    refine lv_istore_n (lv' := [(3, .int (nI 0)), (2, .int (nI 1)), (1, .int (nI tp)), (0, .ref h)]) hx hb dX8_same_20 rfl hl (by decide) rfl (fun ls hl => ?_)
    refine w_loop (ι := Nat × Nat) (fun x9 => match x9 with | ⟨k, b⟩ => tp - k) (fun x9 => match x9 with | ⟨k, b⟩ => k ≤ tp ∧ ((b = 1 ∧ ∀ j, j < k → ft j = fo j) ∨ (b = 0 ∧ ¬ ∀ j, j < tp → ft j = fo j))) (fun x9 => match x9 with | ⟨k, b⟩ => [(a 27, .inl (G.2.2.1, 400, .inl ft)), (a 29, .inl (G.2.2.1, 416, .inl fo)), (h, .inr (7, mO a rd mn 0 os ty sz))]) (fun x9 => match x9 with | ⟨k, b⟩ => [(3, .int (nI k)), (2, .int (nI b)), (1, .int (nI tp)), (0, .ref h)]) ⟨0, 1⟩ (⟨Nat.zero_le _, Or.inl ⟨rfl, fun j hj => absurd hj (Nat.not_lt_zero _)⟩⟩) hP hD hS hl ?_
    rintro ⟨k, b⟩ H locs ls hk hP hD hS hl ih
    have hk : k ≤ tp ∧ ((b = 1 ∧ ∀ j, j < k → ft j = fo j) ∨ (b = 0 ∧ ¬ ∀ j, j < tp → ft j = fo j)) := hk
    have hk1 := hk.1
    have hb1 : b ≤ 1 := by rcases hk.2 with q9 | q9 <;> omega
    have hP : va_P G.1 vwCl [(a 27, .inl (G.2.2.1, 400, .inl ft)), (a 29, .inl (G.2.2.1, 416, .inl fo)), (h, .inr (7, mO a rd mn 0 os ty sz))] H := hP
    have hD : va_D A [(a 27, .inl (G.2.2.1, 400, .inl ft)), (a 29, .inl (G.2.2.1, 416, .inl fo)), (h, .inr (7, mO a rd mn 0 os ty sz))] := hD
    have hl : lv_has ls 4 [(3, .int (nI k)), (2, .int (nI b)), (1, .int (nI tp)), (0, .ref h)] := hl
    refine lv_iload_n hx hb dX8_same_21 rfl (lv_at hl 0 rfl) ?_
    refine lv_iload_n hx hb dX8_same_22 rfl (lv_at hl 2 rfl) ?_
    refine w_icmpN_ge (tgt := 57) hx hb (by omega) (by omega) dX8_same_23 (by decide) (fun h2 => ?_) (fun h2 => ?_)
    · refine lv_iload_n hx hb dX8_same_57 rfl (lv_at hl 1 rfl) ?_
      refine w_ifN_eq (tgt := 65) hx hb (by omega) dX8_same_58 (by decide) (fun h3 => ?_) (fun h3 => ?_)
      · refine lv_iconst (v := nI 0) hx hb dX8_same_65 (by decide) ?_
        exact hret (nI 0) () H _ 66 ls dX8_same_66 (by rcases hk.2 with q9 | q9 <;> first | (exfalso; omega) | (rw [if_neg q9.2])) (hP.sub [2, 0, 1] rfl) (hD.sub [2, 0, 1] (by decide) rfl) hS
      · refine lv_iconst (v := nI 1) hx hb dX8_same_61 (by decide) ?_
        refine lv_goto (tgt := 66) hx hb dX8_same_62 (by decide) ?_
        exact hret (nI 1) () H _ 66 ls dX8_same_66 (by rcases hk.2 with q9 | q9 <;> first | (exfalso; omega) | (rw [if_pos (fun j hj => q9.2 j (by omega))])) (hP.sub [2, 0, 1] rfl) (hD.sub [2, 0, 1] (by decide) rfl) hS
    · refine lv_iload_n hx hb dX8_same_26 rfl (lv_at hl 1 rfl) ?_
      refine w_ifN_eq (tgt := 57) hx hb (by omega) dX8_same_27 (by decide) (fun h4 => ?_) (fun h4 => ?_)
      · refine lv_iload_n hx hb dX8_same_57 rfl (lv_at hl 1 rfl) ?_
        refine w_ifN_eq (tgt := 65) hx hb (by omega) dX8_same_58 (by decide) (fun h5 => ?_) (fun h5 => ?_)
        · refine lv_iconst (v := nI 0) hx hb dX8_same_65 (by decide) ?_
          exact hret (nI 0) () H _ 66 ls dX8_same_66 (by rcases hk.2 with q9 | q9 <;> first | (exfalso; omega) | (rw [if_neg q9.2])) (hP.sub [2, 0, 1] rfl) (hD.sub [2, 0, 1] (by decide) rfl) hS
        · refine lv_iconst (v := nI 1) hx hb dX8_same_61 (by decide) ?_
          refine lv_goto (tgt := 66) hx hb dX8_same_62 (by decide) ?_
          exact hret (nI 1) () H _ 66 ls dX8_same_66 (by rcases hk.2 with q9 | q9 <;> first | (exfalso; omega) | (rw [if_pos (fun j hj => q9.2 j (by omega))])) (hP.sub [2, 0, 1] rfl) (hD.sub [2, 0, 1] (by decide) rfl) hS
      · refine lv_aload_n hx hb dX8_same_30 rfl (lv_at hl 3 rfl) ?_
        refine va_get (D := G.1) (ci := 7) (v := .ref (a 27)) (C := RX8) (T := TX8) (N := 35) hx hb hts hinX8 hown hK hP 2 rfl rfl 27 (by decide) (hts (.fieldLink RX8 227 "CipherBoxModel" "tape" "[B") (by decide +kernel)) (fun _ h9 => h9) rfl dX8_same_31 ?_
        refine lv_iload_n hx hb dX8_same_34 rfl (lv_at hl 0 rfl) ?_
        refine w_bald hx hb hK hP 0 rfl (by omega) (by omega) dX8_same_35 ?_
        refine lv_aload_n hx hb dX8_same_36 rfl (lv_at hl 3 rfl) ?_
        refine va_get (D := G.1) (ci := 7) (v := .ref (a 29)) (C := RX8) (T := TX8) (N := 35) hx hb hts hinX8 hown hK hP 2 rfl rfl 29 (by decide) (hts (.fieldLink RX8 230 "CipherBoxModel" "out" "[B") (by decide +kernel)) (fun _ h9 => h9) rfl dX8_same_37 ?_
        refine lv_iload_n hx hb dX8_same_40 rfl (lv_at hl 0 rfl) ?_
        refine w_bald hx hb hK hP 1 rfl (by omega) (by omega) dX8_same_41 ?_
        refine lv_icmp_ne (tgt := 49) hx hb dX8_same_42 (by decide) (fun h6 => ?_) (fun h6 => ?_)
        · refine lv_iconst (v := nI 0) hx hb dX8_same_49 (by decide) ?_
          refine lv_istore_n (lv' := [(2, .int (nI 0)), (3, .int (nI k)), (1, .int (nI tp)), (0, .ref h)]) hx hb dX8_same_50 rfl hl (by decide) rfl (fun ls hl => ?_)
          refine lv_iinc (v := nI (k + 1)) (lv' := [(3, .int (nI (k + 1))), (2, .int (nI 0)), (1, .int (nI tp)), (0, .ref h)]) hx hb dX8_same_51 hl (k := 1) rfl (nI_add k 1) (by decide) rfl (fun ls hl => ?_)
          refine lv_goto (tgt := 21) hx hb dX8_same_54 (by decide) ?_
          exact ih ⟨k + 1, 0⟩ H _ _ (by dsimp only; omega) (⟨by omega, Or.inr ⟨rfl, fun q8 => absurd (q8 k (by omega)) (by assumption)⟩⟩) hP hD hS (lv_sub hl [0, 1, 2, 3] rfl)
        · refine lv_iconst (v := nI 1) hx hb dX8_same_45 (by decide) ?_
          refine lv_goto (tgt := 50) hx hb dX8_same_46 (by decide) ?_
          refine lv_istore_n (lv' := [(2, .int (nI 1)), (3, .int (nI k)), (1, .int (nI tp)), (0, .ref h)]) hx hb dX8_same_50 rfl hl (by decide) rfl (fun ls hl => ?_)
          refine lv_iinc (v := nI (k + 1)) (lv' := [(3, .int (nI (k + 1))), (2, .int (nI 1)), (1, .int (nI tp)), (0, .ref h)]) hx hb dX8_same_51 hl (k := 1) rfl (nI_add k 1) (by decide) rfl (fun ls hl => ?_)
          refine lv_goto (tgt := 21) hx hb dX8_same_54 (by decide) ?_
          exact ih ⟨k + 1, 1⟩ H _ _ (by dsimp only; omega) (⟨by omega, Or.inl ⟨rfl, fun j hj => by
              rcases hk.2 with q9 | q9
              · rcases Nat.lt_or_ge j k with q8 | q8
                · exact q9.2 j q8
                · obtain rfl : k = j := by omega
                  assumption
              · exfalso; omega⟩⟩) hP hD hS (lv_sub hl [0, 1, 2, 3] rfl)

set_option maxHeartbeats 4000000 in
set_option maxRecDepth 100000 in
theorem c_m_odd (l : Launch) (G : wG) (v : Int32)  : CMi l G yX8_odd wsX8_odd 0 0 [.int v] [] (fun r (_ : Unit) => r = nI (bts v 8 % 2)) (fun _ => []) := by
  refine CMi.start cX8_odd 3 .int (by decide) rfl (Nat.le_of_ble_eq_true rfl) (fun r u h => vp_nar_int r) ?_
  intro p e s m below meth c A Q ls H locs hx hb hml hown hts hK hT hA hP hD hS hl hret
  have hl : lv_has ls 3 [(0, .int v)] := hl
  refine lv_iconst (v := nI 0) hx hb dX8_odd_0 (by decide) ?_
  refine lv_istore_n (lv' := [(1, .int (nI 0)), (0, .int v)]) hx hb dX8_odd_1 rfl hl (by decide) rfl (fun ls hl => ?_)
  refine lv_iconst (v := nI 0) hx hb dX8_odd_2 (by decide) ?_
  refine lv_istore_n (lv' := [(2, .int (nI 0)), (1, .int (nI 0)), (0, .int v)]) hx hb dX8_odd_3 rfl hl (by decide) rfl (fun ls hl => ?_)
  refine w_loop (ι := Nat) (fun k => 8 - k) (fun k => k ≤ 8) (fun k => []) (fun k => [(2, .int (nI k)), (1, .int (nI (bts v k))), (0, .int v)]) 0 (by omega) hP hD hS hl ?_
  intro k H locs ls hk hP hD hS hl ih
  have hk : k ≤ 8 := hk
  have hP : va_P G.1 vwCl [] H := hP
  have hD : va_D A [] := hD
  have hl : lv_has ls 3 [(2, .int (nI k)), (1, .int (nI (bts v k))), (0, .int v)] := hl
  refine lv_iload_n hx hb dX8_odd_4 rfl (lv_at hl 0 rfl) ?_
  refine lv_bipush (v := nI 8) hx hb dX8_odd_5 (by decide) ?_
  refine w_icmpN_ge (tgt := 24) hx hb (by omega) (by omega) dX8_odd_7 (by decide) (fun h1 => ?_) (fun h1 => ?_)
  · obtain rfl : 8 = k := Eq.symm (show k = 8 from by omega)
    refine lv_iload_n hx hb dX8_odd_24 rfl (lv_at hl 1 rfl) ?_
    refine lv_iconst (v := nI 2) hx hb dX8_odd_25 (by decide) ?_
    refine w_iremN hx hb (Nat.lt_of_le_of_lt (bts_le v 8) (by decide)) (by omega) (by omega) dX8_odd_26 ?_
    exact hret (nI ((bts v 8) % 2)) () H _ 27 ls dX8_odd_27 (rfl) (hP.sub [] rfl) (hD.sub [] (by decide) rfl) hS
  · refine lv_iload_n hx hb dX8_odd_10 rfl (lv_at hl 1 rfl) ?_
    refine lv_iload_n hx hb dX8_odd_11 rfl (lv_at hl 2 rfl) ?_
    refine lv_iload_n hx hb dX8_odd_12 rfl (lv_at hl 0 rfl) ?_
    refine lv_ishr hx hb dX8_odd_13 ?_
    refine lv_iconst (v := nI 1) hx hb dX8_odd_14 (by decide) ?_
    refine lv_iand hx hb dX8_odd_15 ?_
    refine w_top (nI (bt1 v k)) (by unfold bt1; exact pk_and _ 1 (by decide)) ?_
    refine w_iaddN hx hb dX8_odd_16 ?_
    refine lv_istore_n (lv' := [(1, .int (nI ((bts v k) + (bt1 v k)))), (2, .int (nI k)), (0, .int v)]) hx hb dX8_odd_17 rfl hl (by decide) rfl (fun ls hl => ?_)
    refine lv_iinc (v := nI (k + 1)) (lv' := [(2, .int (nI (k + 1))), (1, .int (nI ((bts v k) + (bt1 v k)))), (0, .int v)]) hx hb dX8_odd_18 hl (k := 1) rfl (nI_add k 1) (by decide) rfl (fun ls hl => ?_)
    refine lv_goto (tgt := 4) hx hb dX8_odd_21 (by decide) ?_
    exact ih (k + 1) H _ _ (by omega) (by omega) hP hD hS (lv_sub hl [0, 1, 2] rfl)

set_option maxHeartbeats 4000000 in
set_option maxRecDepth 100000 in
theorem c_m_about0 (l : Launch) (G : wG) (h : Nat) (a : Nat → Nat) (rd mn tp os : Nat) (ty : Int32) (sz : Nat)  : CMi l G yX8_about wsX8_about 0 0 [.ref h, .int (nI 0)] [(h, .inr (7, mO a rd mn tp os ty sz))] (fun r (_ : Unit) => r = nI tp) (fun _ => [(h, .inr (7, mO a rd mn tp os ty sz))]) := by
  refine CMi.start cX8_about 4 .int (by decide) rfl (Nat.le_of_ble_eq_true rfl) (fun r u h => vp_nar_int r) ?_
  intro p e s m below meth c A Q ls H locs hx hb hml hown hts hK hT hA hP hD hS hl hret
  have hinX8 : ∀ w ∈ u_ws RX8 TX8 35, w ∈ wsX8_about := by decide +kernel
  have hl : lv_has ls 4 [(0, .ref h), (1, .int (nI 0))] := hl
  refine lv_iconst (v := nI 0) hx hb dX8_about_0 (by decide) ?_
  refine lv_istore_n (lv' := [(2, .int (nI 0)), (0, .ref h), (1, .int (nI 0))]) hx hb dX8_about_1 rfl hl (by decide) rfl (fun ls hl => ?_)
  refine lv_iload_n hx hb dX8_about_2 rfl (lv_at hl 2 rfl) ?_
  refine lv_tableIn (off := 33) (tgt := 36) hx hb dX8_about_3 (by decide) (by decide) (by decide) (by decide) ?_
  refine lv_aload_n hx hb dX8_about_36 rfl (lv_at hl 1 rfl) ?_
  refine va_get (D := G.1) (ci := 7) (v := .int (nI tp)) (C := RX8) (T := TX8) (N := 35) hx hb hts hinX8 hown hK hP 0 rfl rfl 28 (by decide) (hts (.fieldLink RX8 245 "CipherBoxModel" "taped" "I") (by decide +kernel)) (fun _ h9 => h9) rfl dX8_about_37 ?_
  exact hret (nI tp) () H _ 40 ls dX8_about_40 (rfl) (hP.sub [0] rfl) (hD.sub [0] (by decide) rfl) hS

set_option maxHeartbeats 4000000 in
set_option maxRecDepth 100000 in
theorem c_m_about1 (l : Launch) (G : wG) (h : Nat) (a : Nat → Nat) (rd mn tp os : Nat) (ty : Int32) (sz : Nat)  : CMi l G yX8_about wsX8_about 0 0 [.ref h, .int (nI 1)] [(h, .inr (7, mO a rd mn tp os ty sz))] (fun r (_ : Unit) => r = nI os) (fun _ => [(h, .inr (7, mO a rd mn tp os ty sz))]) := by
  refine CMi.start cX8_about 4 .int (by decide) rfl (Nat.le_of_ble_eq_true rfl) (fun r u h => vp_nar_int r) ?_
  intro p e s m below meth c A Q ls H locs hx hb hml hown hts hK hT hA hP hD hS hl hret
  have hinX8 : ∀ w ∈ u_ws RX8 TX8 35, w ∈ wsX8_about := by decide +kernel
  have hl : lv_has ls 4 [(0, .ref h), (1, .int (nI 1))] := hl
  refine lv_iconst (v := nI 0) hx hb dX8_about_0 (by decide) ?_
  refine lv_istore_n (lv' := [(2, .int (nI 0)), (0, .ref h), (1, .int (nI 1))]) hx hb dX8_about_1 rfl hl (by decide) rfl (fun ls hl => ?_)
  refine lv_iload_n hx hb dX8_about_2 rfl (lv_at hl 2 rfl) ?_
  refine lv_tableIn (off := 38) (tgt := 41) hx hb dX8_about_3 (by decide) (by decide) (by decide) (by decide) ?_
  refine lv_aload_n hx hb dX8_about_41 rfl (lv_at hl 1 rfl) ?_
  refine va_get (D := G.1) (ci := 7) (v := .int (nI os)) (C := RX8) (T := TX8) (N := 35) hx hb hts hinX8 hown hK hP 0 rfl rfl 30 (by decide) (hts (.fieldLink RX8 251 "CipherBoxModel" "outSize" "I") (by decide +kernel)) (fun _ h9 => h9) rfl dX8_about_42 ?_
  exact hret (nI os) () H _ 45 ls dX8_about_45 (rfl) (hP.sub [0] rfl) (hD.sub [0] (by decide) rfl) hS

set_option maxHeartbeats 4000000 in
set_option maxRecDepth 100000 in
theorem c_m_about2 (l : Launch) (G : wG) (h : Nat) (a : Nat → Nat) (rd mn tp os : Nat) (ty : Int32) (sz : Nat)  : CMi l G yX8_about wsX8_about 0 0 [.ref h, .int (nI 2)] [(h, .inr (7, mO a rd mn tp os ty sz))] (fun r (_ : Unit) => r = ty) (fun _ => [(h, .inr (7, mO a rd mn tp os ty sz))]) := by
  refine CMi.start cX8_about 4 .int (by decide) rfl (Nat.le_of_ble_eq_true rfl) (fun r u h => vp_nar_int r) ?_
  intro p e s m below meth c A Q ls H locs hx hb hml hown hts hK hT hA hP hD hS hl hret
  have hinX8 : ∀ w ∈ u_ws RX8 TX8 35, w ∈ wsX8_about := by decide +kernel
  have hl : lv_has ls 4 [(0, .ref h), (1, .int (nI 2))] := hl
  refine lv_iconst (v := nI 0) hx hb dX8_about_0 (by decide) ?_
  refine lv_istore_n (lv' := [(2, .int (nI 0)), (0, .ref h), (1, .int (nI 2))]) hx hb dX8_about_1 rfl hl (by decide) rfl (fun ls hl => ?_)
  refine lv_iload_n hx hb dX8_about_2 rfl (lv_at hl 2 rfl) ?_
  refine lv_tableIn (off := 43) (tgt := 46) hx hb dX8_about_3 (by decide) (by decide) (by decide) (by decide) ?_
  refine lv_aload_n hx hb dX8_about_46 rfl (lv_at hl 1 rfl) ?_
  refine va_get (D := G.1) (ci := 7) (v := .int ty) (C := RX8) (T := TX8) (N := 35) hx hb hts hinX8 hown hK hP 0 rfl rfl 31 (by decide) (hts (.fieldLink RX8 233 "CipherBoxModel" "type" "I") (by decide +kernel)) (fun _ h9 => h9) rfl dX8_about_47 ?_
  exact hret ty () H _ 50 ls dX8_about_50 (rfl) (hP.sub [0] rfl) (hD.sub [0] (by decide) rfl) hS

set_option maxHeartbeats 4000000 in
set_option maxRecDepth 100000 in
theorem c_m_about3 (l : Launch) (G : wG) (h : Nat) (a : Nat → Nat) (rd mn tp os : Nat) (ty : Int32) (sz : Nat)  : CMi l G yX8_about wsX8_about 0 0 [.ref h, .int (nI 3)] [(h, .inr (7, mO a rd mn tp os ty sz))] (fun r (_ : Unit) => r = nI sz) (fun _ => [(h, .inr (7, mO a rd mn tp os ty sz))]) := by
  refine CMi.start cX8_about 4 .int (by decide) rfl (Nat.le_of_ble_eq_true rfl) (fun r u h => vp_nar_int r) ?_
  intro p e s m below meth c A Q ls H locs hx hb hml hown hts hK hT hA hP hD hS hl hret
  have hinX8 : ∀ w ∈ u_ws RX8 TX8 35, w ∈ wsX8_about := by decide +kernel
  have hl : lv_has ls 4 [(0, .ref h), (1, .int (nI 3))] := hl
  refine lv_iconst (v := nI 0) hx hb dX8_about_0 (by decide) ?_
  refine lv_istore_n (lv' := [(2, .int (nI 0)), (0, .ref h), (1, .int (nI 3))]) hx hb dX8_about_1 rfl hl (by decide) rfl (fun ls hl => ?_)
  refine lv_iload_n hx hb dX8_about_2 rfl (lv_at hl 2 rfl) ?_
  refine lv_tableIn (off := 48) (tgt := 51) hx hb dX8_about_3 (by decide) (by decide) (by decide) (by decide) ?_
  refine lv_aload_n hx hb dX8_about_51 rfl (lv_at hl 1 rfl) ?_
  refine va_get (D := G.1) (ci := 7) (v := .int (nI sz)) (C := RX8) (T := TX8) (N := 35) hx hb hts hinX8 hown hK hP 0 rfl rfl 32 (by decide) (hts (.fieldLink RX8 258 "CipherBoxModel" "size" "I") (by decide +kernel)) (fun _ h9 => h9) rfl dX8_about_52 ?_
  exact hret (nI sz) () H _ 55 ls dX8_about_55 (rfl) (hP.sub [0] rfl) (hD.sub [0] (by decide) rfl) hS

set_option maxHeartbeats 4000000 in
set_option maxRecDepth 100000 in
theorem c_m_about4 (l : Launch) (G : wG) (h : Nat) (a : Nat → Nat) (rd mn tp os : Nat) (ty : Int32) (sz : Nat) (fk : Nat → Int32) (hs : sz ≤ 32) : CMi l G yX8_about wsX8_about 1 22 [.ref h, .int (nI 4)] [(h, .inr (7, mO a rd mn tp os ty sz)), (a 33, .inl (G.2.2.1, 32, .inl fk))] (fun r (_ : Unit) => r = nI (ods fk sz)) (fun _ => [(h, .inr (7, mO a rd mn tp os ty sz)), (a 33, .inl (G.2.2.1, 32, .inl fk))]) := by
  refine CMi.start cX8_about 4 .int (by decide) rfl (Nat.le_of_ble_eq_true rfl) (fun r u h => vp_nar_int r) ?_
  intro p e s m below meth c A Q ls H locs hx hb hml hown hts hK hT hA hP hD hS hl hret
  have hinX8 : ∀ w ∈ u_ws RX8 TX8 35, w ∈ wsX8_about := by decide +kernel
  have hl : lv_has ls 4 [(0, .ref h), (1, .int (nI 4))] := hl
  refine lv_iconst (v := nI 0) hx hb dX8_about_0 (by decide) ?_
  refine lv_istore_n (lv' := [(2, .int (nI 0)), (0, .ref h), (1, .int (nI 4))]) hx hb dX8_about_1 rfl hl (by decide) rfl (fun ls hl => ?_)
  refine lv_iload_n hx hb dX8_about_2 rfl (lv_at hl 2 rfl) ?_
  refine lv_tableIn (off := 53) (tgt := 56) hx hb dX8_about_3 (by decide) (by decide) (by decide) (by decide) ?_
  refine lv_iconst (v := nI 0) hx hb dX8_about_56 (by decide) ?_
  refine lv_istore_n (lv' := [(3, .int (nI 0)), (2, .int (nI 0)), (0, .ref h), (1, .int (nI 4))]) hx hb dX8_about_57 rfl hl (by decide) rfl (fun ls hl => ?_)
  refine w_loop (ι := Nat) (fun k => sz - k) (fun k => k ≤ sz) (fun k => [(h, .inr (7, mO a rd mn tp os ty sz)), (a 33, .inl (G.2.2.1, 32, .inl fk))]) (fun k => [(3, .int (nI k)), (2, .int (nI (ods fk k))), (0, .ref h), (1, .int (nI 4))]) 0 (by omega) hP hD hS hl ?_
  intro k H locs ls hk hP hD hS hl ih
  have hk : k ≤ sz := hk
  have hP : va_P G.1 vwCl [(h, .inr (7, mO a rd mn tp os ty sz)), (a 33, .inl (G.2.2.1, 32, .inl fk))] H := hP
  have hD : va_D A [(h, .inr (7, mO a rd mn tp os ty sz)), (a 33, .inl (G.2.2.1, 32, .inl fk))] := hD
  have hl : lv_has ls 4 [(3, .int (nI k)), (2, .int (nI (ods fk k))), (0, .ref h), (1, .int (nI 4))] := hl
  refine lv_iload_n hx hb dX8_about_58 rfl (lv_at hl 0 rfl) ?_
  refine lv_aload_n hx hb dX8_about_59 rfl (lv_at hl 2 rfl) ?_
  refine va_get (D := G.1) (ci := 7) (v := .int (nI sz)) (C := RX8) (T := TX8) (N := 35) hx hb hts hinX8 hown hK hP 0 rfl rfl 32 (by decide) (hts (.fieldLink RX8 258 "CipherBoxModel" "size" "I") (by decide +kernel)) (fun _ h9 => h9) rfl dX8_about_60 ?_
  refine w_icmpN_ge (tgt := 84) hx hb (by omega) (by omega) dX8_about_63 (by decide) (fun h1 => ?_) (fun h1 => ?_)
  · obtain rfl : sz = k := Eq.symm (show k = sz from by omega)
    refine lv_iload_n hx hb dX8_about_84 rfl (lv_at hl 1 rfl) ?_
    exact hret (nI (ods fk sz)) () H _ 85 ls dX8_about_85 (rfl) (hP.sub [0, 1] rfl) (hD.sub [0, 1] (by decide) rfl) hS
  · refine lv_iload_n hx hb dX8_about_66 rfl (lv_at hl 1 rfl) ?_
    refine lv_aload_n hx hb dX8_about_67 rfl (lv_at hl 2 rfl) ?_
    refine va_get (D := G.1) (ci := 7) (v := .ref (a 33)) (C := RX8) (T := TX8) (N := 35) hx hb hts hinX8 hown hK hP 0 rfl rfl 33 (by decide) (hts (.fieldLink RX8 236 "CipherBoxModel" "key" "[B") (by decide +kernel)) (fun _ h9 => h9) rfl dX8_about_68 ?_
    refine lv_iload_n hx hb dX8_about_71 rfl (lv_at hl 0 rfl) ?_
    refine w_bald hx hb hK hP 1 rfl (by omega) (by omega) dX8_about_72 ?_
    refine w_fini (wr := [(h, .inr (7, mO a rd mn tp os ty sz)), (a 33, .inl (G.2.2.1, 32, .inl fk))]) (va_runS (As := [.int (fk k)]) (rest := [.int (nI (ods fk k))]) ⟨hx, hb, hml, hown, hts⟩ (c_m_odd l G (fk k) H.size) (va_cwS 1 hts gX8_about_X8_odd rfl rfl rfl (by decide +kernel) ⟨Nat.le_of_ble_eq_true rfl, Nat.le_of_ble_eq_true rfl⟩) ⟨wPre.blind, (fun U hU hW => ⟨rfl, w_pre hK hT hA hP hD hS (isC := []) (by decide) rfl U hU hW⟩)⟩ rfl rfl hl.1 rfl (lv_room (Nat.le_of_ble_eq_true rfl)) dX8_about_73 ⟨Nat.le_of_ble_eq_true rfl, Nat.le_of_ble_eq_true rfl⟩) hA hP hD hS [] [0, 1] rfl rfl (by decide) (by decide) (fun r u H locs hpost hP hD hS => ?_)
    obtain rfl := hpost
    have hP : va_P G.1 vwCl [(h, .inr (7, mO a rd mn tp os ty sz)), (a 33, .inl (G.2.2.1, 32, .inl fk))] H := hP
    have hD : va_D A [(h, .inr (7, mO a rd mn tp os ty sz)), (a 33, .inl (G.2.2.1, 32, .inl fk))] := hD
    refine w_iaddN hx hb dX8_about_76 ?_
    refine lv_istore_n (lv' := [(2, .int (nI ((ods fk k) + (bts (fk k) 8 % 2)))), (3, .int (nI k)), (0, .ref h), (1, .int (nI 4))]) hx hb dX8_about_77 rfl hl (by decide) rfl (fun ls hl => ?_)
    refine lv_iinc (v := nI (k + 1)) (lv' := [(3, .int (nI (k + 1))), (2, .int (nI ((ods fk k) + (bts (fk k) 8 % 2)))), (0, .ref h), (1, .int (nI 4))]) hx hb dX8_about_78 hl (k := 1) rfl (nI_add k 1) (by decide) rfl (fun ls hl => ?_)
    refine lv_goto (tgt := 58) hx hb dX8_about_81 (by decide) ?_
    exact ih (k + 1) H _ _ (by omega) (by omega) hP hD hS (lv_sub hl [0, 1, 2, 3] rfl)

set_option maxHeartbeats 4000000 in
set_option maxRecDepth 100000 in
theorem c_m_about_no (l : Launch) (G : wG) (h : Nat) (a : Nat → Nat) (rd mn tp os : Nat) (ty : Int32) (sz : Nat) (v : Int32) (hv : v.toInt < 0 ∨ 4 < v.toInt) : CMi l G yX8_about wsX8_about 0 0 [.ref h, .int v] [(h, .inr (7, mO a rd mn tp os ty sz))] (fun r (_ : Unit) => r = (-1)) (fun _ => [(h, .inr (7, mO a rd mn tp os ty sz))]) := by
  refine CMi.start cX8_about 4 .int (by decide) rfl (Nat.le_of_ble_eq_true rfl) (fun r u h => vp_nar_int r) ?_
  intro p e s m below meth c A Q ls H locs hx hb hml hown hts hK hT hA hP hD hS hl hret
  have hl : lv_has ls 4 [(0, .ref h), (1, .int v)] := hl
  refine lv_iconst (v := nI 0) hx hb dX8_about_0 (by decide) ?_
  refine lv_istore_n (lv' := [(2, .int (nI 0)), (0, .ref h), (1, .int v)]) hx hb dX8_about_1 rfl hl (by decide) rfl (fun ls hl => ?_)
  refine lv_iload_n hx hb dX8_about_2 rfl (lv_at hl 2 rfl) ?_
  refine lv_tableOut (tgt := 86) hx hb dX8_about_3 hv (by decide) ?_
  refine lv_iconst (v := (-1)) hx hb dX8_about_86 (by decide) ?_
  exact hret (-1) () H _ 87 ls dX8_about_87 (rfl) (hP.sub [0] rfl) (hD.sub [0] (by decide) rfl) hS

def mM (n : Nat) (f : Nat → Int32) : Nat → Int32 := fa ((n + 1) + p56 (n + 1)) 8 (fun j_ => bN ((lsr (lN (8 * n)) (nI (56 - 8 * j_))).toInt32)) (fa (n + 1) (p56 (n + 1)) (fun j_ => bN (nI 0)) (upd f n (bN (nI 128))))
def shQ (v : Nat → Int32) : Nat → Int32 := fun j => bN (v (j / 4) >>> (nI (24 - 8 * (j % 4)) &&& 31))
def mH (n : Nat) (f : Nat → Int32) : Nat → Int32 := shH (fun j_ => mM n f j_ &&& nI 255) (shL n / 64)
set_option maxHeartbeats 4000000 in
set_option maxRecDepth 100000 in
theorem c_m_digest (l : Launch) (G : wG) (h : Nat) (a : Nat → Nat) (rd mn tp os : Nat) (ty : Int32) (sz : Nat) (fm fs fw fq : Nat → Int32) (hm : mn ≤ 400) : CMv l G yX8_digest wsX8_digest 2 53 0 0 [.ref h] [(h, .inr (7, mO a rd mn tp os ty sz)), (a 22, .inl (G.2.2.1, 700, .inl fm)), (a 19, .inl (G.2.1, 64, .inl fw)), (a 20, .inl (G.2.1, 8, .inl fs)), (a 6, .inl (G.2.1, 64, .inl (fun j_ => nI (tbV 9 j_)))), (a 7, .inl (G.2.1, 8, .inl (fun j_ => nI (tbV 8 j_)))), (a 21, .inl (G.2.2.1, 32, .inl fq))] (fun (u : Nat → Int32) => True) (fun w2 => [(h, .inr (7, mO a rd (shL mn) tp os ty sz)), (a 22, .inl (G.2.2.1, 700, .inl (mM mn fm))), (a 19, .inl (G.2.1, 64, .inl w2)), (a 20, .inl (G.2.1, 8, .inl (mH mn fm))), (a 6, .inl (G.2.1, 64, .inl (fun j_ => nI (tbV 9 j_)))), (a 7, .inl (G.2.1, 8, .inl (fun j_ => nI (tbV 8 j_)))), (a 21, .inl (G.2.2.1, 32, .inl (shQ (mH mn fm))))]) := by
  refine CMv.start cX8_digest 4 (by decide) rfl (Nat.le_of_ble_eq_true rfl) ?_
  intro p e s m below meth c A Q ls H locs hx hb hml hown hnm hts hK hT hA hP hD hS hl hret
  have hinX8 : ∀ w ∈ u_ws RX8 TX8 35, w ∈ wsX8_digest := by decide +kernel
  have hl : lv_has ls 4 [(0, .ref h)] := hl
  have hL := shL_le2 hm
  have hL0 := shL_64 hm
  have hp : p56 (mn + 1) < 64 := Nat.mod_lt _ (by decide)
  have hpe : p56 (mn + 1) = (568 - (mn + 1)) % 64 := rfl
  have hLd : shL mn = (mn + 1) + p56 (mn + 1) + 8 := rfl
  refine lv_ldc2 hx hb hown (hts (.constantLong RX8 127 (8)) (by decide +kernel)) dX8_digest_0 ?_
  refine w_topl (lN 8) (by decide) ?_
  refine lv_aload_n hx hb dX8_digest_3 rfl (lv_at hl 0 rfl) ?_
  refine va_get (D := G.1) (ci := 7) (v := .int (nI mn)) (C := RX8) (T := TX8) (N := 35) hx hb hts hinX8 hown hK hP 0 rfl rfl 23 (by decide) (hts (.fieldLink RX8 81 "CipherBoxModel" "mn" "I") (by decide +kernel)) (fun _ h9 => h9) rfl dX8_digest_4 ?_
  refine lv_i2l (v := lN mn) hx hb dX8_digest_7 (nI_l (by omega)) ?_
  refine lv_lmul hx hb dX8_digest_8 ?_
  refine w_topl (lN (8 * mn)) (lN_mul _ _) ?_
  refine lv_lstore_n (lv' := [(1, .long (lN (8 * mn))), (0, .ref h)]) hx hb dX8_digest_9 rfl hl (by decide) rfl (fun ls hl => ?_)
  refine lv_aload_n hx hb dX8_digest_10 rfl (lv_at hl 1 rfl) ?_
  refine lv_sipush (v := nI 128) hx hb dX8_digest_11 (by decide) ?_
  refine w_finv (wr := [(a 19, .inl (G.2.1, 64, .inl fw)), (a 20, .inl (G.2.1, 8, .inl fs)), (a 6, .inl (G.2.1, 64, .inl (fun j_ => nI (tbV 9 j_)))), (a 7, .inl (G.2.1, 8, .inl (fun j_ => nI (tbV 8 j_)))), (a 21, .inl (G.2.2.1, 32, .inl fq))]) (va_runV (As := [.int (nI 128)]) (rest := []) ⟨hx, hb, hml, hown, hts⟩ (c_m_add l G h a rd mn tp os ty sz fm (nI 128) (by omega) H.size) (cwV 1 hts gX8_digest_X8_add rfl rfl rfl (by decide +kernel) ⟨Nat.le_of_ble_eq_true rfl, Nat.le_of_ble_eq_true rfl⟩) ⟨wPre.blind, (va_recv hK hP (ci := 7) (q0 := 0) rfl rfl), (fun U hU hW => ⟨rfl, w_pre hK hT hA hP hD hS (isC := [0, 1]) (by decide) rfl U hU hW⟩)⟩ rfl rfl hl.1 rfl (lv_room (Nat.le_of_ble_eq_true rfl)) dX8_digest_14 ⟨Nat.le_of_ble_eq_true rfl, Nat.le_of_ble_eq_true rfl⟩) hA hP hD hS [0, 1] [2, 3, 4, 5, 6] rfl rfl (by decide) (by decide) (fun u H locs hpost hP hD hS => ?_)
  have hP : va_P G.1 vwCl [(a 19, .inl (G.2.1, 64, .inl fw)), (a 20, .inl (G.2.1, 8, .inl fs)), (a 6, .inl (G.2.1, 64, .inl (fun j_ => nI (tbV 9 j_)))), (a 7, .inl (G.2.1, 8, .inl (fun j_ => nI (tbV 8 j_)))), (a 21, .inl (G.2.2.1, 32, .inl fq)), (h, .inr (7, mO a rd (mn + 1) tp os ty sz)), (a 22, .inl (G.2.2.1, 700, .inl (upd fm mn (bN (nI 128)))))] H := hP
  have hD : va_D A [(a 19, .inl (G.2.1, 64, .inl fw)), (a 20, .inl (G.2.1, 8, .inl fs)), (a 6, .inl (G.2.1, 64, .inl (fun j_ => nI (tbV 9 j_)))), (a 7, .inl (G.2.1, 8, .inl (fun j_ => nI (tbV 8 j_)))), (a 21, .inl (G.2.2.1, 32, .inl fq)), (h, .inr (7, mO a rd (mn + 1) tp os ty sz)), (a 22, .inl (G.2.2.1, 700, .inl (upd fm mn (bN (nI 128)))))] := hD
  refine w_loop (ι := Nat) (fun k => p56 (mn + 1) - k) (fun k => k ≤ p56 (mn + 1)) (fun k => [(a 19, .inl (G.2.1, 64, .inl fw)), (a 20, .inl (G.2.1, 8, .inl fs)), (a 6, .inl (G.2.1, 64, .inl (fun j_ => nI (tbV 9 j_)))), (a 7, .inl (G.2.1, 8, .inl (fun j_ => nI (tbV 8 j_)))), (a 21, .inl (G.2.2.1, 32, .inl fq)), (h, .inr (7, mO a rd ((mn + 1) + k) tp os ty sz)), (a 22, .inl (G.2.2.1, 700, .inl (fa (mn + 1) k (fun j_ => bN (nI 0)) (upd fm mn (bN (nI 128))))))]) (fun k => [(1, .long (lN (8 * mn))), (0, .ref h)]) 0 (by omega) (by simp only [fa_0, Nat.add_zero]; exact hP) (by simp only [fa_0, Nat.add_zero]; exact hD) hS hl ?_
  intro k H locs ls hk hP hD hS hl ih
  have hk : k ≤ p56 (mn + 1) := hk
  have hP : va_P G.1 vwCl [(a 19, .inl (G.2.1, 64, .inl fw)), (a 20, .inl (G.2.1, 8, .inl fs)), (a 6, .inl (G.2.1, 64, .inl (fun j_ => nI (tbV 9 j_)))), (a 7, .inl (G.2.1, 8, .inl (fun j_ => nI (tbV 8 j_)))), (a 21, .inl (G.2.2.1, 32, .inl fq)), (h, .inr (7, mO a rd ((mn + 1) + k) tp os ty sz)), (a 22, .inl (G.2.2.1, 700, .inl (fa (mn + 1) k (fun j_ => bN (nI 0)) (upd fm mn (bN (nI 128))))))] H := hP
  have hD : va_D A [(a 19, .inl (G.2.1, 64, .inl fw)), (a 20, .inl (G.2.1, 8, .inl fs)), (a 6, .inl (G.2.1, 64, .inl (fun j_ => nI (tbV 9 j_)))), (a 7, .inl (G.2.1, 8, .inl (fun j_ => nI (tbV 8 j_)))), (a 21, .inl (G.2.2.1, 32, .inl fq)), (h, .inr (7, mO a rd ((mn + 1) + k) tp os ty sz)), (a 22, .inl (G.2.2.1, 700, .inl (fa (mn + 1) k (fun j_ => bN (nI 0)) (upd fm mn (bN (nI 128))))))] := hD
  have hl : lv_has ls 4 [(1, .long (lN (8 * mn))), (0, .ref h)] := hl
  refine lv_aload_n hx hb dX8_digest_17 rfl (lv_at hl 1 rfl) ?_
  refine va_get (D := G.1) (ci := 7) (v := .int (nI ((mn + 1) + k))) (C := RX8) (T := TX8) (N := 35) hx hb hts hinX8 hown hK hP 5 rfl rfl 23 (by decide) (hts (.fieldLink RX8 81 "CipherBoxModel" "mn" "I") (by decide +kernel)) (fun _ h9 => h9) rfl dX8_digest_18 ?_
  refine lv_bipush (v := nI 64) hx hb dX8_digest_21 (by decide) ?_
  refine w_iremN hx hb (by omega) (by omega) (by omega) dX8_digest_23 ?_
  refine lv_bipush (v := nI 56) hx hb dX8_digest_24 (by decide) ?_
  refine w_icmpN_eq (tgt := 37) hx hb (by omega) (by omega) dX8_digest_26 (by decide) (fun h1 => ?_) (fun h1 => ?_)
  · obtain rfl : p56 (mn + 1) = k := Eq.symm (show k = p56 (mn + 1) from by omega)
    refine lv_bipush (v := nI 56) hx hb dX8_digest_37 (by decide) ?_
    refine lv_istore_n (lv' := [(3, .int (nI 56)), (1, .long (lN (8 * mn))), (0, .ref h)]) hx hb dX8_digest_39 rfl hl (by decide) rfl (fun ls hl => ?_)
    refine w_loop (ι := Nat) (fun k => 8 - k) (fun k => k ≤ 8) (fun k => [(a 19, .inl (G.2.1, 64, .inl fw)), (a 20, .inl (G.2.1, 8, .inl fs)), (a 6, .inl (G.2.1, 64, .inl (fun j_ => nI (tbV 9 j_)))), (a 7, .inl (G.2.1, 8, .inl (fun j_ => nI (tbV 8 j_)))), (a 21, .inl (G.2.2.1, 32, .inl fq)), (h, .inr (7, mO a rd ((mn + 1) + p56 (mn + 1) + k) tp os ty sz)), (a 22, .inl (G.2.2.1, 700, .inl (fa ((mn + 1) + p56 (mn + 1)) k (fun j_ => bN ((lsr (lN (8 * mn)) (nI (56 - 8 * j_))).toInt32)) (fa (mn + 1) (p56 (mn + 1)) (fun j_ => bN (nI 0)) (upd fm mn (bN (nI 128)))))))]) (fun k => [(3, .int (nI 56 - nI (8 * k))), (1, .long (lN (8 * mn))), (0, .ref h)]) 0 (by omega) (by simp only [fa_0, Nat.add_zero]; exact hP) (by simp only [fa_0, Nat.add_zero]; exact hD) hS (by have h9 := hl; rw [show nI 56 = nI 56 - nI (8 * 0) by decide] at h9; exact h9) ?_
    intro k H locs ls hk hP hD hS hl ih
    have hk : k ≤ 8 := hk
    have hP : va_P G.1 vwCl [(a 19, .inl (G.2.1, 64, .inl fw)), (a 20, .inl (G.2.1, 8, .inl fs)), (a 6, .inl (G.2.1, 64, .inl (fun j_ => nI (tbV 9 j_)))), (a 7, .inl (G.2.1, 8, .inl (fun j_ => nI (tbV 8 j_)))), (a 21, .inl (G.2.2.1, 32, .inl fq)), (h, .inr (7, mO a rd ((mn + 1) + p56 (mn + 1) + k) tp os ty sz)), (a 22, .inl (G.2.2.1, 700, .inl (fa ((mn + 1) + p56 (mn + 1)) k (fun j_ => bN ((lsr (lN (8 * mn)) (nI (56 - 8 * j_))).toInt32)) (fa (mn + 1) (p56 (mn + 1)) (fun j_ => bN (nI 0)) (upd fm mn (bN (nI 128)))))))] H := hP
    have hD : va_D A [(a 19, .inl (G.2.1, 64, .inl fw)), (a 20, .inl (G.2.1, 8, .inl fs)), (a 6, .inl (G.2.1, 64, .inl (fun j_ => nI (tbV 9 j_)))), (a 7, .inl (G.2.1, 8, .inl (fun j_ => nI (tbV 8 j_)))), (a 21, .inl (G.2.2.1, 32, .inl fq)), (h, .inr (7, mO a rd ((mn + 1) + p56 (mn + 1) + k) tp os ty sz)), (a 22, .inl (G.2.2.1, 700, .inl (fa ((mn + 1) + p56 (mn + 1)) k (fun j_ => bN ((lsr (lN (8 * mn)) (nI (56 - 8 * j_))).toInt32)) (fa (mn + 1) (p56 (mn + 1)) (fun j_ => bN (nI 0)) (upd fm mn (bN (nI 128)))))))] := hD
    have hl : lv_has ls 4 [(3, .int (nI 56 - nI (8 * k))), (1, .long (lN (8 * mn))), (0, .ref h)] := hl
    refine lv_iload_n hx hb dX8_digest_40 rfl (lv_at hl 0 rfl) ?_
    refine lv_if_lt (tgt := 58) hx hb dX8_digest_41 (by decide) (fun h2 => ?_) (fun h2 => ?_)
    · have h9 := dn_t (by decide) h2
      obtain rfl : 8 = k := Eq.symm (show k = 8 from by omega)
      have hP : va_P G.1 vwCl [(a 19, .inl (G.2.1, 64, .inl fw)), (a 20, .inl (G.2.1, 8, .inl fs)), (a 6, .inl (G.2.1, 64, .inl (fun j_ => nI (tbV 9 j_)))), (a 7, .inl (G.2.1, 8, .inl (fun j_ => nI (tbV 8 j_)))), (a 21, .inl (G.2.2.1, 32, .inl fq)), (h, .inr (7, mO a rd (shL mn) tp os ty sz)), (a 22, .inl (G.2.2.1, 700, .inl (mM mn fm)))] H := hP
      have hD : va_D A [(a 19, .inl (G.2.1, 64, .inl fw)), (a 20, .inl (G.2.1, 8, .inl fs)), (a 6, .inl (G.2.1, 64, .inl (fun j_ => nI (tbV 9 j_)))), (a 7, .inl (G.2.1, 8, .inl (fun j_ => nI (tbV 8 j_)))), (a 21, .inl (G.2.2.1, 32, .inl fq)), (h, .inr (7, mO a rd (shL mn) tp os ty sz)), (a 22, .inl (G.2.2.1, 700, .inl (mM mn fm)))] := hD
      refine lv_iconst (v := nI 0) hx hb dX8_digest_58 (by decide) ?_
      refine lv_istore_n (lv' := [(3, .int (nI 0)), (1, .long (lN (8 * mn))), (0, .ref h)]) hx hb dX8_digest_59 rfl hl (by decide) rfl (fun ls hl => ?_)
      refine w_loop (ι := Nat) (fun k => 8 - k) (fun k => k ≤ 8) (fun k => [(a 19, .inl (G.2.1, 64, .inl fw)), (a 20, .inl (G.2.1, 8, .inl (fl k (fun j_ => nI (tbV 8 j_)) fs))), (a 6, .inl (G.2.1, 64, .inl (fun j_ => nI (tbV 9 j_)))), (a 7, .inl (G.2.1, 8, .inl (fun j_ => nI (tbV 8 j_)))), (a 21, .inl (G.2.2.1, 32, .inl fq)), (h, .inr (7, mO a rd (shL mn) tp os ty sz)), (a 22, .inl (G.2.2.1, 700, .inl (mM mn fm)))]) (fun k => [(3, .int (nI k)), (1, .long (lN (8 * mn))), (0, .ref h)]) 0 (by omega) (by simp only [fl_0]; exact hP) (by simp only [fl_0]; exact hD) hS hl ?_
      intro k H locs ls hk hP hD hS hl ih
      have hk : k ≤ 8 := hk
      have hP : va_P G.1 vwCl [(a 19, .inl (G.2.1, 64, .inl fw)), (a 20, .inl (G.2.1, 8, .inl (fl k (fun j_ => nI (tbV 8 j_)) fs))), (a 6, .inl (G.2.1, 64, .inl (fun j_ => nI (tbV 9 j_)))), (a 7, .inl (G.2.1, 8, .inl (fun j_ => nI (tbV 8 j_)))), (a 21, .inl (G.2.2.1, 32, .inl fq)), (h, .inr (7, mO a rd (shL mn) tp os ty sz)), (a 22, .inl (G.2.2.1, 700, .inl (mM mn fm)))] H := hP
      have hD : va_D A [(a 19, .inl (G.2.1, 64, .inl fw)), (a 20, .inl (G.2.1, 8, .inl (fl k (fun j_ => nI (tbV 8 j_)) fs))), (a 6, .inl (G.2.1, 64, .inl (fun j_ => nI (tbV 9 j_)))), (a 7, .inl (G.2.1, 8, .inl (fun j_ => nI (tbV 8 j_)))), (a 21, .inl (G.2.2.1, 32, .inl fq)), (h, .inr (7, mO a rd (shL mn) tp os ty sz)), (a 22, .inl (G.2.2.1, 700, .inl (mM mn fm)))] := hD
      have hl : lv_has ls 4 [(3, .int (nI k)), (1, .long (lN (8 * mn))), (0, .ref h)] := hl
      refine lv_iload_n hx hb dX8_digest_60 rfl (lv_at hl 0 rfl) ?_
      refine lv_bipush (v := nI 8) hx hb dX8_digest_61 (by decide) ?_
      refine w_icmpN_ge (tgt := 84) hx hb (by omega) (by omega) dX8_digest_63 (by decide) (fun h3 => ?_) (fun h3 => ?_)
      · obtain rfl : 8 = k := Eq.symm (show k = 8 from by omega)
        have hP := w_ext (fl 8 (fun j_ => nI (tbV 8 j_)) fs) (shH (fun j_ => mM mn fm j_ &&& nI 255) 0) 1 hP rfl (fun j hj => fl_in hj)
        have hD := hD.set (p := 1) (e := .inl (G.2.1, 8, .inl (shH (fun j_ => mM mn fm j_ &&& nI 255) 0))) rfl
        have hP : va_P G.1 vwCl [(a 19, .inl (G.2.1, 64, .inl fw)), (a 20, .inl (G.2.1, 8, .inl (shH (fun j_ => mM mn fm j_ &&& nI 255) 0))), (a 6, .inl (G.2.1, 64, .inl (fun j_ => nI (tbV 9 j_)))), (a 7, .inl (G.2.1, 8, .inl (fun j_ => nI (tbV 8 j_)))), (a 21, .inl (G.2.2.1, 32, .inl fq)), (h, .inr (7, mO a rd (shL mn) tp os ty sz)), (a 22, .inl (G.2.2.1, 700, .inl (mM mn fm)))] H := hP
        have hD : va_D A [(a 19, .inl (G.2.1, 64, .inl fw)), (a 20, .inl (G.2.1, 8, .inl (shH (fun j_ => mM mn fm j_ &&& nI 255) 0))), (a 6, .inl (G.2.1, 64, .inl (fun j_ => nI (tbV 9 j_)))), (a 7, .inl (G.2.1, 8, .inl (fun j_ => nI (tbV 8 j_)))), (a 21, .inl (G.2.2.1, 32, .inl fq)), (h, .inr (7, mO a rd (shL mn) tp os ty sz)), (a 22, .inl (G.2.2.1, 700, .inl (mM mn fm)))] := hD
        refine lv_iconst (v := nI 0) hx hb dX8_digest_84 (by decide) ?_
        refine lv_istore_n (lv' := [(3, .int (nI 0)), (1, .long (lN (8 * mn))), (0, .ref h)]) hx hb dX8_digest_85 rfl hl (by decide) rfl (fun ls hl => ?_)
        refine w_loop (ι := Nat × (Nat → Int32)) (fun x9 => match x9 with | ⟨k, w⟩ => shL mn / 64 - k) (fun x9 => match x9 with | ⟨k, w⟩ => k ≤ shL mn / 64) (fun x9 => match x9 with | ⟨k, w⟩ => [(a 19, .inl (G.2.1, 64, .inl w)), (a 20, .inl (G.2.1, 8, .inl (shH (fun j_ => mM mn fm j_ &&& nI 255) k))), (a 6, .inl (G.2.1, 64, .inl (fun j_ => nI (tbV 9 j_)))), (a 7, .inl (G.2.1, 8, .inl (fun j_ => nI (tbV 8 j_)))), (a 21, .inl (G.2.2.1, 32, .inl fq)), (h, .inr (7, mO a rd (shL mn) tp os ty sz)), (a 22, .inl (G.2.2.1, 700, .inl (mM mn fm)))]) (fun x9 => match x9 with | ⟨k, w⟩ => [(3, .int (nI (64 * k))), (1, .long (lN (8 * mn))), (0, .ref h)]) ⟨0, fw⟩ (Nat.zero_le _) hP hD hS hl ?_
        rintro ⟨k, w⟩ H locs ls hk hP hD hS hl ih
        have hk : k ≤ shL mn / 64 := hk
        have hP : va_P G.1 vwCl [(a 19, .inl (G.2.1, 64, .inl w)), (a 20, .inl (G.2.1, 8, .inl (shH (fun j_ => mM mn fm j_ &&& nI 255) k))), (a 6, .inl (G.2.1, 64, .inl (fun j_ => nI (tbV 9 j_)))), (a 7, .inl (G.2.1, 8, .inl (fun j_ => nI (tbV 8 j_)))), (a 21, .inl (G.2.2.1, 32, .inl fq)), (h, .inr (7, mO a rd (shL mn) tp os ty sz)), (a 22, .inl (G.2.2.1, 700, .inl (mM mn fm)))] H := hP
        have hD : va_D A [(a 19, .inl (G.2.1, 64, .inl w)), (a 20, .inl (G.2.1, 8, .inl (shH (fun j_ => mM mn fm j_ &&& nI 255) k))), (a 6, .inl (G.2.1, 64, .inl (fun j_ => nI (tbV 9 j_)))), (a 7, .inl (G.2.1, 8, .inl (fun j_ => nI (tbV 8 j_)))), (a 21, .inl (G.2.2.1, 32, .inl fq)), (h, .inr (7, mO a rd (shL mn) tp os ty sz)), (a 22, .inl (G.2.2.1, 700, .inl (mM mn fm)))] := hD
        have hl : lv_has ls 4 [(3, .int (nI (64 * k))), (1, .long (lN (8 * mn))), (0, .ref h)] := hl
        refine lv_iload_n hx hb dX8_digest_86 rfl (lv_at hl 0 rfl) ?_
        refine lv_aload_n hx hb dX8_digest_87 rfl (lv_at hl 2 rfl) ?_
        refine va_get (D := G.1) (ci := 7) (v := .int (nI (shL mn))) (C := RX8) (T := TX8) (N := 35) hx hb hts hinX8 hown hK hP 5 rfl rfl 23 (by decide) (hts (.fieldLink RX8 81 "CipherBoxModel" "mn" "I") (by decide +kernel)) (fun _ h9 => h9) rfl dX8_digest_88 ?_
        refine w_icmpN_ge (tgt := 105) hx hb (by omega) (by omega) dX8_digest_91 (by decide) (fun h4 => ?_) (fun h4 => ?_)
        · obtain rfl : shL mn / 64 = k := Eq.symm (show k = shL mn / 64 from by omega)
          have hP : va_P G.1 vwCl [(a 19, .inl (G.2.1, 64, .inl w)), (a 20, .inl (G.2.1, 8, .inl (mH mn fm))), (a 6, .inl (G.2.1, 64, .inl (fun j_ => nI (tbV 9 j_)))), (a 7, .inl (G.2.1, 8, .inl (fun j_ => nI (tbV 8 j_)))), (a 21, .inl (G.2.2.1, 32, .inl fq)), (h, .inr (7, mO a rd (shL mn) tp os ty sz)), (a 22, .inl (G.2.2.1, 700, .inl (mM mn fm)))] H := hP
          have hD : va_D A [(a 19, .inl (G.2.1, 64, .inl w)), (a 20, .inl (G.2.1, 8, .inl (mH mn fm))), (a 6, .inl (G.2.1, 64, .inl (fun j_ => nI (tbV 9 j_)))), (a 7, .inl (G.2.1, 8, .inl (fun j_ => nI (tbV 8 j_)))), (a 21, .inl (G.2.2.1, 32, .inl fq)), (h, .inr (7, mO a rd (shL mn) tp os ty sz)), (a 22, .inl (G.2.2.1, 700, .inl (mM mn fm)))] := hD
          refine lv_iconst (v := nI 0) hx hb dX8_digest_105 (by decide) ?_
          refine lv_istore_n (lv' := [(3, .int (nI 0)), (1, .long (lN (8 * mn))), (0, .ref h)]) hx hb dX8_digest_106 rfl hl (by decide) rfl (fun ls hl => ?_)
          refine w_loop (ι := Nat) (fun k => 32 - k) (fun k => k ≤ 32) (fun k => [(a 19, .inl (G.2.1, 64, .inl w)), (a 20, .inl (G.2.1, 8, .inl (mH mn fm))), (a 6, .inl (G.2.1, 64, .inl (fun j_ => nI (tbV 9 j_)))), (a 7, .inl (G.2.1, 8, .inl (fun j_ => nI (tbV 8 j_)))), (a 21, .inl (G.2.2.1, 32, .inl (fl k (shQ (mH mn fm)) fq))), (h, .inr (7, mO a rd (shL mn) tp os ty sz)), (a 22, .inl (G.2.2.1, 700, .inl (mM mn fm)))]) (fun k => [(3, .int (nI k)), (1, .long (lN (8 * mn))), (0, .ref h)]) 0 (by omega) (by simp only [fl_0]; exact hP) (by simp only [fl_0]; exact hD) hS hl ?_
          intro k H locs ls hk hP hD hS hl ih
          have hk : k ≤ 32 := hk
          have hP : va_P G.1 vwCl [(a 19, .inl (G.2.1, 64, .inl w)), (a 20, .inl (G.2.1, 8, .inl (mH mn fm))), (a 6, .inl (G.2.1, 64, .inl (fun j_ => nI (tbV 9 j_)))), (a 7, .inl (G.2.1, 8, .inl (fun j_ => nI (tbV 8 j_)))), (a 21, .inl (G.2.2.1, 32, .inl (fl k (shQ (mH mn fm)) fq))), (h, .inr (7, mO a rd (shL mn) tp os ty sz)), (a 22, .inl (G.2.2.1, 700, .inl (mM mn fm)))] H := hP
          have hD : va_D A [(a 19, .inl (G.2.1, 64, .inl w)), (a 20, .inl (G.2.1, 8, .inl (mH mn fm))), (a 6, .inl (G.2.1, 64, .inl (fun j_ => nI (tbV 9 j_)))), (a 7, .inl (G.2.1, 8, .inl (fun j_ => nI (tbV 8 j_)))), (a 21, .inl (G.2.2.1, 32, .inl (fl k (shQ (mH mn fm)) fq))), (h, .inr (7, mO a rd (shL mn) tp os ty sz)), (a 22, .inl (G.2.2.1, 700, .inl (mM mn fm)))] := hD
          have hl : lv_has ls 4 [(3, .int (nI k)), (1, .long (lN (8 * mn))), (0, .ref h)] := hl
          refine lv_iload_n hx hb dX8_digest_107 rfl (lv_at hl 0 rfl) ?_
          refine lv_bipush (v := nI 32) hx hb dX8_digest_108 (by decide) ?_
          refine w_icmpN_ge (tgt := 144) hx hb (by omega) (by omega) dX8_digest_110 (by decide) (fun h5 => ?_) (fun h5 => ?_)
          · obtain rfl : 32 = k := Eq.symm (show k = 32 from by omega)
            have hP := w_ext (fl 32 (shQ (mH mn fm)) fq) (shQ (mH mn fm)) 4 hP rfl (fun j hj => fl_in hj)
            have hD := hD.set (p := 4) (e := .inl (G.2.2.1, 32, .inl (shQ (mH mn fm)))) rfl
            have hP : va_P G.1 vwCl [(a 19, .inl (G.2.1, 64, .inl w)), (a 20, .inl (G.2.1, 8, .inl (mH mn fm))), (a 6, .inl (G.2.1, 64, .inl (fun j_ => nI (tbV 9 j_)))), (a 7, .inl (G.2.1, 8, .inl (fun j_ => nI (tbV 8 j_)))), (a 21, .inl (G.2.2.1, 32, .inl (shQ (mH mn fm)))), (h, .inr (7, mO a rd (shL mn) tp os ty sz)), (a 22, .inl (G.2.2.1, 700, .inl (mM mn fm)))] H := hP
            have hD : va_D A [(a 19, .inl (G.2.1, 64, .inl w)), (a 20, .inl (G.2.1, 8, .inl (mH mn fm))), (a 6, .inl (G.2.1, 64, .inl (fun j_ => nI (tbV 9 j_)))), (a 7, .inl (G.2.1, 8, .inl (fun j_ => nI (tbV 8 j_)))), (a 21, .inl (G.2.2.1, 32, .inl (shQ (mH mn fm)))), (h, .inr (7, mO a rd (shL mn) tp os ty sz)), (a 22, .inl (G.2.2.1, 700, .inl (mM mn fm)))] := hD
            exact hret w H _ 144 ls dX8_digest_144 (trivial) (hP.sub [5, 6, 0, 1, 2, 3, 4] rfl) (hD.sub [5, 6, 0, 1, 2, 3, 4] (by decide) rfl) hS
          · refine lv_aload_n hx hb dX8_digest_113 rfl (lv_at hl 2 rfl) ?_
            refine va_get (D := G.1) (ci := 7) (v := .ref (a 21)) (C := RX8) (T := TX8) (N := 35) hx hb hts hinX8 hown hK hP 5 rfl rfl 21 (by decide) (hts (.fieldLink RX8 138 "CipherBoxModel" "sha" "[B") (by decide +kernel)) (fun _ h9 => h9) rfl dX8_digest_114 ?_
            refine lv_iload_n hx hb dX8_digest_117 rfl (lv_at hl 0 rfl) ?_
            refine lv_aload_n hx hb dX8_digest_118 rfl (lv_at hl 2 rfl) ?_
            refine va_get (D := G.1) (ci := 7) (v := .ref (a 20)) (C := RX8) (T := TX8) (N := 35) hx hb hts hinX8 hown hK hP 5 rfl rfl 20 (by decide) (hts (.fieldLink RX8 129 "CipherBoxModel" "state" "[I") (by decide +kernel)) (fun _ h9 => h9) rfl dX8_digest_119 ?_
            refine lv_iload_n hx hb dX8_digest_122 rfl (lv_at hl 0 rfl) ?_
            refine lv_iconst (v := nI 4) hx hb dX8_digest_123 (by decide) ?_
            refine w_idivN hx hb (by omega) (by omega) (by omega) dX8_digest_124 ?_
            refine w_iald hx hb hK hP 1 rfl (by omega) (by omega) dX8_digest_125 ?_
            refine lv_bipush (v := nI 24) hx hb dX8_digest_126 (by decide) ?_
            refine lv_bipush (v := nI 8) hx hb dX8_digest_128 (by decide) ?_
            refine lv_iload_n hx hb dX8_digest_130 rfl (lv_at hl 0 rfl) ?_
            refine lv_iconst (v := nI 4) hx hb dX8_digest_131 (by decide) ?_
            refine w_iremN hx hb (by omega) (by omega) (by omega) dX8_digest_132 ?_
            refine w_imulN hx hb dX8_digest_133 ?_
            refine w_isubN hx hb (by omega) dX8_digest_134 ?_
            refine lv_ishr hx hb dX8_digest_135 ?_
            refine lv_i2b (v := bN (((mH mn fm) (k / 4)) >>> ((nI (24 - (8 * (k % 4)))) &&& 31))) hx hb dX8_digest_136 rfl ?_
            refine w_bast hx hb hK hP hD hS 4 rfl (by omega) (by omega) (fl (k + 1) (shQ (mH mn fm)) fq) (by rw [bN_bN]; exact fl_s rfl) dX8_digest_137 (fun H locs hP hD hS => ?_)
            have hP : va_P G.1 vwCl [(a 19, .inl (G.2.1, 64, .inl w)), (a 20, .inl (G.2.1, 8, .inl (mH mn fm))), (a 6, .inl (G.2.1, 64, .inl (fun j_ => nI (tbV 9 j_)))), (a 7, .inl (G.2.1, 8, .inl (fun j_ => nI (tbV 8 j_)))), (a 21, .inl (G.2.2.1, 32, .inl (fl (k + 1) (shQ (mH mn fm)) fq))), (h, .inr (7, mO a rd (shL mn) tp os ty sz)), (a 22, .inl (G.2.2.1, 700, .inl (mM mn fm)))] H := hP
            have hD : va_D A [(a 19, .inl (G.2.1, 64, .inl w)), (a 20, .inl (G.2.1, 8, .inl (mH mn fm))), (a 6, .inl (G.2.1, 64, .inl (fun j_ => nI (tbV 9 j_)))), (a 7, .inl (G.2.1, 8, .inl (fun j_ => nI (tbV 8 j_)))), (a 21, .inl (G.2.2.1, 32, .inl (fl (k + 1) (shQ (mH mn fm)) fq))), (h, .inr (7, mO a rd (shL mn) tp os ty sz)), (a 22, .inl (G.2.2.1, 700, .inl (mM mn fm)))] := hD
            refine lv_iinc (v := nI (k + 1)) (lv' := [(3, .int (nI (k + 1))), (1, .long (lN (8 * mn))), (0, .ref h)]) hx hb dX8_digest_138 hl (k := 0) rfl (nI_add k 1) (by decide) rfl (fun ls hl => ?_)
            refine lv_goto (tgt := 107) hx hb dX8_digest_141 (by decide) ?_
            exact ih (k + 1) H _ _ (by omega) (by omega) hP hD hS (lv_sub hl [0, 1, 2] rfl)
        · refine lv_aload_n hx hb dX8_digest_94 rfl (lv_at hl 2 rfl) ?_
          refine lv_iload_n hx hb dX8_digest_95 rfl (lv_at hl 0 rfl) ?_
          refine w_finv (wr := [(a 7, .inl (G.2.1, 8, .inl (fun j_ => nI (tbV 8 j_)))), (a 21, .inl (G.2.2.1, 32, .inl fq))]) (va_runV (As := [.int (nI (64 * k))]) (rest := []) ⟨hx, hb, hml, hown, hts⟩ (c_m_digestBlock l G h a rd (shL mn) tp os ty sz (mM mn fm) w (shH (fun j_ => mM mn fm j_ &&& nI 255) k) (64 * k) (by omega) H.size) (cwV 1 hts gX8_digest_X8_digestBlock rfl rfl rfl (by decide +kernel) ⟨Nat.le_of_ble_eq_true rfl, Nat.le_of_ble_eq_true rfl⟩) ⟨wPre.blind, (va_recv hK hP (ci := 7) (q0 := 5) rfl rfl), (fun U hU hW => ⟨rfl, w_pre hK hT hA hP hD hS (isC := [5, 6, 0, 1, 2]) (by decide) rfl U hU hW⟩)⟩ rfl rfl hl.1 rfl (lv_room (Nat.le_of_ble_eq_true rfl)) dX8_digest_96 ⟨Nat.le_of_ble_eq_true rfl, Nat.le_of_ble_eq_true rfl⟩) hA hP hD hS [5, 6, 0, 1, 2] [3, 4] rfl rfl (by decide) (by decide) (fun u H locs hpost hP hD hS => ?_)
          have hP : va_P G.1 vwCl [(a 7, .inl (G.2.1, 8, .inl (fun j_ => nI (tbV 8 j_)))), (a 21, .inl (G.2.2.1, 32, .inl fq)), (h, .inr (7, mO a rd (shL mn) tp os ty sz)), (a 22, .inl (G.2.2.1, 700, .inl (mM mn fm))), (a 19, .inl (G.2.1, 64, .inl (shA (fun i_ => mw (fun j_ => (mM mn fm) j_ &&& nI 255) ((64 * k) + 4 * i_)) 48))), (a 20, .inl (G.2.1, 8, .inl (shH (fun j_ => mM mn fm j_ &&& nI 255) (k + 1)))), (a 6, .inl (G.2.1, 64, .inl (fun j_ => nI (tbV 9 j_))))] H := by have h9 := hP; rw [← shH_s] at h9; exact h9
          have hD : va_D A [(a 7, .inl (G.2.1, 8, .inl (fun j_ => nI (tbV 8 j_)))), (a 21, .inl (G.2.2.1, 32, .inl fq)), (h, .inr (7, mO a rd (shL mn) tp os ty sz)), (a 22, .inl (G.2.2.1, 700, .inl (mM mn fm))), (a 19, .inl (G.2.1, 64, .inl (shA (fun i_ => mw (fun j_ => (mM mn fm) j_ &&& nI 255) ((64 * k) + 4 * i_)) 48))), (a 20, .inl (G.2.1, 8, .inl (shH (fun j_ => mM mn fm j_ &&& nI 255) (k + 1)))), (a 6, .inl (G.2.1, 64, .inl (fun j_ => nI (tbV 9 j_))))] := by have h9 := hD; rw [← shH_s] at h9; exact h9
          refine lv_iinc (v := nI (64 * k + 64)) (lv' := [(3, .int (nI (64 * k + 64))), (1, .long (lN (8 * mn))), (0, .ref h)]) hx hb dX8_digest_99 hl (k := 0) rfl (nI_add (64 * k) 64) (by decide) rfl (fun ls hl => ?_)
          refine lv_goto (tgt := 86) hx hb dX8_digest_102 (by decide) ?_
          exact ih ⟨k + 1, _⟩ H _ _ (by dsimp only; omega) (by dsimp only; omega) (hP.sub [4, 5, 6, 0, 1, 2, 3] rfl) (hD.sub [4, 5, 6, 0, 1, 2, 3] (by decide) rfl) hS (lv_sub hl [0, 1, 2] rfl)
      · refine lv_aload_n hx hb dX8_digest_66 rfl (lv_at hl 2 rfl) ?_
        refine va_get (D := G.1) (ci := 7) (v := .ref (a 20)) (C := RX8) (T := TX8) (N := 35) hx hb hts hinX8 hown hK hP 5 rfl rfl 20 (by decide) (hts (.fieldLink RX8 129 "CipherBoxModel" "state" "[I") (by decide +kernel)) (fun _ h9 => h9) rfl dX8_digest_67 ?_
        refine lv_iload_n hx hb dX8_digest_70 rfl (lv_at hl 0 rfl) ?_
        refine lv_aload_n hx hb dX8_digest_71 rfl (lv_at hl 2 rfl) ?_
        refine va_get (D := G.1) (ci := 7) (v := .ref (a 7)) (C := RX8) (T := TX8) (N := 35) hx hb hts hinX8 hown hK hP 5 rfl rfl 7 (by decide) (hts (.fieldLink RX8 132 "CipherBoxModel" "first" "[I") (by decide +kernel)) (fun _ h9 => h9) rfl dX8_digest_72 ?_
        refine lv_iload_n hx hb dX8_digest_75 rfl (lv_at hl 0 rfl) ?_
        refine w_iald hx hb hK hP 3 rfl (by omega) (by omega) dX8_digest_76 ?_
        refine w_iast hx hb hK hP hD hS 1 rfl (by omega) (by omega) (fl (k + 1) (fun j_ => nI (tbV 8 j_)) fs) (fl_s rfl) dX8_digest_77 (fun H locs hP hD hS => ?_)
        have hP : va_P G.1 vwCl [(a 19, .inl (G.2.1, 64, .inl fw)), (a 20, .inl (G.2.1, 8, .inl (fl (k + 1) (fun j_ => nI (tbV 8 j_)) fs))), (a 6, .inl (G.2.1, 64, .inl (fun j_ => nI (tbV 9 j_)))), (a 7, .inl (G.2.1, 8, .inl (fun j_ => nI (tbV 8 j_)))), (a 21, .inl (G.2.2.1, 32, .inl fq)), (h, .inr (7, mO a rd (shL mn) tp os ty sz)), (a 22, .inl (G.2.2.1, 700, .inl (mM mn fm)))] H := hP
        have hD : va_D A [(a 19, .inl (G.2.1, 64, .inl fw)), (a 20, .inl (G.2.1, 8, .inl (fl (k + 1) (fun j_ => nI (tbV 8 j_)) fs))), (a 6, .inl (G.2.1, 64, .inl (fun j_ => nI (tbV 9 j_)))), (a 7, .inl (G.2.1, 8, .inl (fun j_ => nI (tbV 8 j_)))), (a 21, .inl (G.2.2.1, 32, .inl fq)), (h, .inr (7, mO a rd (shL mn) tp os ty sz)), (a 22, .inl (G.2.2.1, 700, .inl (mM mn fm)))] := hD
        refine lv_iinc (v := nI (k + 1)) (lv' := [(3, .int (nI (k + 1))), (1, .long (lN (8 * mn))), (0, .ref h)]) hx hb dX8_digest_78 hl (k := 0) rfl (nI_add k 1) (by decide) rfl (fun ls hl => ?_)
        refine lv_goto (tgt := 60) hx hb dX8_digest_81 (by decide) ?_
        exact ih (k + 1) H _ _ (by omega) (by omega) hP hD hS (lv_sub hl [0, 1, 2] rfl)
    · have h9 := dn_f (by omega) h2
      refine lv_aload_n hx hb dX8_digest_44 rfl (lv_at hl 2 rfl) ?_
      refine lv_lload_n hx hb dX8_digest_45 rfl (lv_at hl 1 rfl) ?_
      refine lv_iload_n hx hb dX8_digest_46 rfl (lv_at hl 0 rfl) ?_
      refine w_top (nI (56 - 8 * k)) (pk_sub (by omega)) ?_
      refine lv_lshr (v := lsr (lN (8 * mn)) (nI (56 - 8 * k))) hx hb dX8_digest_47 rfl ?_
      refine lv_l2i (v := ((lsr (lN (8 * mn)) (nI (56 - 8 * k)))).toInt32) hx hb dX8_digest_48 rfl ?_
      refine w_finv (wr := [(a 19, .inl (G.2.1, 64, .inl fw)), (a 20, .inl (G.2.1, 8, .inl fs)), (a 6, .inl (G.2.1, 64, .inl (fun j_ => nI (tbV 9 j_)))), (a 7, .inl (G.2.1, 8, .inl (fun j_ => nI (tbV 8 j_)))), (a 21, .inl (G.2.2.1, 32, .inl fq))]) (va_runV (As := [.int (((lsr (lN (8 * mn)) (nI (56 - 8 * k)))).toInt32)]) (rest := []) ⟨hx, hb, hml, hown, hts⟩ (c_m_add l G h a rd ((mn + 1) + p56 (mn + 1) + k) tp os ty sz (fa ((mn + 1) + p56 (mn + 1)) k (fun j_ => bN ((lsr (lN (8 * mn)) (nI (56 - 8 * j_))).toInt32)) (fa (mn + 1) (p56 (mn + 1)) (fun j_ => bN (nI 0)) (upd fm mn (bN (nI 128))))) (((lsr (lN (8 * mn)) (nI (56 - 8 * k)))).toInt32) (by omega) H.size) (cwV 1 hts gX8_digest_X8_add rfl rfl rfl (by decide +kernel) ⟨Nat.le_of_ble_eq_true rfl, Nat.le_of_ble_eq_true rfl⟩) ⟨wPre.blind, (va_recv hK hP (ci := 7) (q0 := 5) rfl rfl), (fun U hU hW => ⟨rfl, w_pre hK hT hA hP hD hS (isC := [5, 6]) (by decide) rfl U hU hW⟩)⟩ rfl rfl hl.1 rfl (lv_room (Nat.le_of_ble_eq_true rfl)) dX8_digest_49 ⟨Nat.le_of_ble_eq_true rfl, Nat.le_of_ble_eq_true rfl⟩) hA hP hD hS [5, 6] [0, 1, 2, 3, 4] rfl rfl (by decide) (by decide) (fun u H locs hpost hP hD hS => ?_)
      have hP : va_P G.1 vwCl [(a 19, .inl (G.2.1, 64, .inl fw)), (a 20, .inl (G.2.1, 8, .inl fs)), (a 6, .inl (G.2.1, 64, .inl (fun j_ => nI (tbV 9 j_)))), (a 7, .inl (G.2.1, 8, .inl (fun j_ => nI (tbV 8 j_)))), (a 21, .inl (G.2.2.1, 32, .inl fq)), (h, .inr (7, mO a rd (((mn + 1) + p56 (mn + 1) + k) + 1) tp os ty sz)), (a 22, .inl (G.2.2.1, 700, .inl (fa ((mn + 1) + p56 (mn + 1)) (k + 1) (fun j_ => bN ((lsr (lN (8 * mn)) (nI (56 - 8 * j_))).toInt32)) (fa (mn + 1) (p56 (mn + 1)) (fun j_ => bN (nI 0)) (upd fm mn (bN (nI 128)))))))] H := by have h9 := hP; rw [fa_s (g := (fun j_ => bN ((lsr (lN (8 * mn)) (nI (56 - 8 * j_))).toInt32))) rfl] at h9; exact h9
      have hD : va_D A [(a 19, .inl (G.2.1, 64, .inl fw)), (a 20, .inl (G.2.1, 8, .inl fs)), (a 6, .inl (G.2.1, 64, .inl (fun j_ => nI (tbV 9 j_)))), (a 7, .inl (G.2.1, 8, .inl (fun j_ => nI (tbV 8 j_)))), (a 21, .inl (G.2.2.1, 32, .inl fq)), (h, .inr (7, mO a rd (((mn + 1) + p56 (mn + 1) + k) + 1) tp os ty sz)), (a 22, .inl (G.2.2.1, 700, .inl (fa ((mn + 1) + p56 (mn + 1)) (k + 1) (fun j_ => bN ((lsr (lN (8 * mn)) (nI (56 - 8 * j_))).toInt32)) (fa (mn + 1) (p56 (mn + 1)) (fun j_ => bN (nI 0)) (upd fm mn (bN (nI 128)))))))] := by have h9 := hD; rw [fa_s (g := (fun j_ => bN ((lsr (lN (8 * mn)) (nI (56 - 8 * j_))).toInt32))) rfl] at h9; exact h9
      obtain ⟨x6, ex6⟩ : ∃ y : Int32, y = nI 56 - nI (8 * k) + -8 := ⟨_, rfl⟩
      refine lv_iinc (v := x6) (lv' := [(3, .int x6), (1, .long (lN (8 * mn))), (0, .ref h)]) hx hb dX8_digest_52 hl (k := 0) rfl (by rw [ex6]; rfl) (by decide) rfl (fun ls hl => ?_)
      have hl : lv_has ls 4 [(3, .int (nI 56 - nI (8 * (k + 1)))), (1, .long (lN (8 * mn))), (0, .ref h)] := by have h9 := hl; rw [ex6, dn_s] at h9; exact h9
      refine lv_goto (tgt := 40) hx hb dX8_digest_55 (by decide) ?_
      exact ih (k + 1) H _ _ (by omega) (by omega) hP hD hS (lv_sub hl [0, 1, 2] rfl)
  · refine lv_aload_n hx hb dX8_digest_29 rfl (lv_at hl 1 rfl) ?_
    refine lv_iconst (v := nI 0) hx hb dX8_digest_30 (by decide) ?_
    refine w_finv (wr := [(a 19, .inl (G.2.1, 64, .inl fw)), (a 20, .inl (G.2.1, 8, .inl fs)), (a 6, .inl (G.2.1, 64, .inl (fun j_ => nI (tbV 9 j_)))), (a 7, .inl (G.2.1, 8, .inl (fun j_ => nI (tbV 8 j_)))), (a 21, .inl (G.2.2.1, 32, .inl fq))]) (va_runV (As := [.int (nI 0)]) (rest := []) ⟨hx, hb, hml, hown, hts⟩ (c_m_add l G h a rd ((mn + 1) + k) tp os ty sz (fa (mn + 1) k (fun j_ => bN (nI 0)) (upd fm mn (bN (nI 128)))) (nI 0) (by omega) H.size) (cwV 1 hts gX8_digest_X8_add rfl rfl rfl (by decide +kernel) ⟨Nat.le_of_ble_eq_true rfl, Nat.le_of_ble_eq_true rfl⟩) ⟨wPre.blind, (va_recv hK hP (ci := 7) (q0 := 5) rfl rfl), (fun U hU hW => ⟨rfl, w_pre hK hT hA hP hD hS (isC := [5, 6]) (by decide) rfl U hU hW⟩)⟩ rfl rfl hl.1 rfl (lv_room (Nat.le_of_ble_eq_true rfl)) dX8_digest_31 ⟨Nat.le_of_ble_eq_true rfl, Nat.le_of_ble_eq_true rfl⟩) hA hP hD hS [5, 6] [0, 1, 2, 3, 4] rfl rfl (by decide) (by decide) (fun u H locs hpost hP hD hS => ?_)
    have hP : va_P G.1 vwCl [(a 19, .inl (G.2.1, 64, .inl fw)), (a 20, .inl (G.2.1, 8, .inl fs)), (a 6, .inl (G.2.1, 64, .inl (fun j_ => nI (tbV 9 j_)))), (a 7, .inl (G.2.1, 8, .inl (fun j_ => nI (tbV 8 j_)))), (a 21, .inl (G.2.2.1, 32, .inl fq)), (h, .inr (7, mO a rd (((mn + 1) + k) + 1) tp os ty sz)), (a 22, .inl (G.2.2.1, 700, .inl (fa (mn + 1) (k + 1) (fun j_ => bN (nI 0)) (upd fm mn (bN (nI 128))))))] H := by have h9 := hP; rw [fa_s (g := fun j_ => bN (nI 0)) rfl] at h9; exact h9
    have hD : va_D A [(a 19, .inl (G.2.1, 64, .inl fw)), (a 20, .inl (G.2.1, 8, .inl fs)), (a 6, .inl (G.2.1, 64, .inl (fun j_ => nI (tbV 9 j_)))), (a 7, .inl (G.2.1, 8, .inl (fun j_ => nI (tbV 8 j_)))), (a 21, .inl (G.2.2.1, 32, .inl fq)), (h, .inr (7, mO a rd (((mn + 1) + k) + 1) tp os ty sz)), (a 22, .inl (G.2.2.1, 700, .inl (fa (mn + 1) (k + 1) (fun j_ => bN (nI 0)) (upd fm mn (bN (nI 128))))))] := by have h9 := hD; rw [fa_s (g := fun j_ => bN (nI 0)) rfl] at h9; exact h9
    refine lv_goto (tgt := 17) hx hb dX8_digest_34 (by decide) ?_
    exact ih (k + 1) H _ _ (by omega) (by omega) hP hD hS (lv_sub hl [0, 1] rfl)

set_option maxHeartbeats 4000000 in
set_option maxRecDepth 100000 in
theorem c_m_hash (l : Launch) (G : wG) (h : Nat) (a : Nat → Nat) (rd mn tp os : Nat) (ty : Int32) (sz : Nat) (ft fo fm fs fw fq : Nat → Int32) (ht : tp ≤ 400) : CMi l G yX8_hash wsX8_hash 3 76 [.ref h] [(h, .inr (7, mO a rd mn tp os ty sz)), (a 27, .inl (G.2.2.1, 400, .inl ft)), (a 29, .inl (G.2.2.1, 416, .inl fo)), (a 22, .inl (G.2.2.1, 700, .inl fm)), (a 19, .inl (G.2.1, 64, .inl fw)), (a 20, .inl (G.2.1, 8, .inl fs)), (a 6, .inl (G.2.1, 64, .inl (fun j_ => nI (tbV 9 j_)))), (a 7, .inl (G.2.1, 8, .inl (fun j_ => nI (tbV 8 j_)))), (a 21, .inl (G.2.2.1, 32, .inl fq))] (fun r (u : (Nat → Int32) × (Nat → Int32) × (Nat → Int32) × (Nat → Int32)) => match u with | (m2, s2, w2, q2) => r = nI 32) (fun u => match u with | (m2, s2, w2, q2) => [(h, .inr (7, mO a rd (shL tp) 0 32 ty sz)), (a 27, .inl (G.2.2.1, 400, .inl ft)), (a 29, .inl (G.2.2.1, 416, .inl (fl 32 (fun j_ => bN (shQ (mH tp (fa 0 tp (fun j_ => bN (ft j_)) fm)) j_)) fo))), (a 22, .inl (G.2.2.1, 700, .inl m2)), (a 19, .inl (G.2.1, 64, .inl w2)), (a 20, .inl (G.2.1, 8, .inl s2)), (a 6, .inl (G.2.1, 64, .inl (fun j_ => nI (tbV 9 j_)))), (a 7, .inl (G.2.1, 8, .inl (fun j_ => nI (tbV 8 j_)))), (a 21, .inl (G.2.2.1, 32, .inl q2))]) := by
  refine CMi.start cX8_hash 3 .int (by decide) rfl (Nat.le_of_ble_eq_true rfl) (fun r u h => vp_nar_int r) ?_
  intro p e s m below meth c A Q ls H locs hx hb hml hown hts hK hT hA hP hD hS hl hret
  have hinX8 : ∀ w ∈ u_ws RX8 TX8 35, w ∈ wsX8_hash := by decide +kernel
  have hl : lv_has ls 3 [(0, .ref h)] := hl
  refine lv_aload_n hx hb dX8_hash_0 rfl (lv_at hl 0 rfl) ?_
  refine w_fini (wr := [(a 27, .inl (G.2.2.1, 400, .inl ft)), (a 29, .inl (G.2.2.1, 416, .inl fo)), (a 22, .inl (G.2.2.1, 700, .inl fm)), (a 19, .inl (G.2.1, 64, .inl fw)), (a 20, .inl (G.2.1, 8, .inl fs)), (a 6, .inl (G.2.1, 64, .inl (fun j_ => nI (tbV 9 j_)))), (a 7, .inl (G.2.1, 8, .inl (fun j_ => nI (tbV 8 j_)))), (a 21, .inl (G.2.2.1, 32, .inl fq))]) (va_runV (As := []) (rest := []) ⟨hx, hb, hml, hown, hts⟩ (c_m_use l G h a rd mn tp os ty sz H.size) (cwV 0 hts gX8_hash_X8_use rfl rfl rfl (by decide +kernel) ⟨Nat.le_of_ble_eq_true rfl, Nat.le_of_ble_eq_true rfl⟩) ⟨wPre.blind, (va_recv hK hP (ci := 7) (q0 := 0) rfl rfl), (fun U hU hW => ⟨rfl, w_pre hK hT hA hP hD hS (isC := [0]) (by decide) rfl U hU hW⟩)⟩ rfl rfl hl.1 rfl (lv_room (Nat.le_of_ble_eq_true rfl)) dX8_hash_1 ⟨Nat.le_of_ble_eq_true rfl, Nat.le_of_ble_eq_true rfl⟩) hA hP hD hS [0] [1, 2, 3, 4, 5, 6, 7, 8] rfl rfl (by decide) (by decide) (fun r u H locs hpost hP hD hS => ?_)
  obtain rfl := hpost
  have hP : va_P G.1 vwCl [(a 27, .inl (G.2.2.1, 400, .inl ft)), (a 29, .inl (G.2.2.1, 416, .inl fo)), (a 22, .inl (G.2.2.1, 700, .inl fm)), (a 19, .inl (G.2.1, 64, .inl fw)), (a 20, .inl (G.2.1, 8, .inl fs)), (a 6, .inl (G.2.1, 64, .inl (fun j_ => nI (tbV 9 j_)))), (a 7, .inl (G.2.1, 8, .inl (fun j_ => nI (tbV 8 j_)))), (a 21, .inl (G.2.2.1, 32, .inl fq)), (h, .inr (7, mO a rd mn 0 os ty sz))] H := hP
  have hD : va_D A [(a 27, .inl (G.2.2.1, 400, .inl ft)), (a 29, .inl (G.2.2.1, 416, .inl fo)), (a 22, .inl (G.2.2.1, 700, .inl fm)), (a 19, .inl (G.2.1, 64, .inl fw)), (a 20, .inl (G.2.1, 8, .inl fs)), (a 6, .inl (G.2.1, 64, .inl (fun j_ => nI (tbV 9 j_)))), (a 7, .inl (G.2.1, 8, .inl (fun j_ => nI (tbV 8 j_)))), (a 21, .inl (G.2.2.1, 32, .inl fq)), (h, .inr (7, mO a rd mn 0 os ty sz))] := hD
  refine lv_istore_n (lv' := [(1, .int (nI tp)), (0, .ref h)]) hx hb dX8_hash_4 rfl hl (by decide) rfl (fun ls hl => ?_)
  refine lv_aload_n hx hb dX8_hash_5 rfl (lv_at hl 1 rfl) ?_
  refine w_finv (wr := [(a 27, .inl (G.2.2.1, 400, .inl ft)), (a 29, .inl (G.2.2.1, 416, .inl fo)), (a 22, .inl (G.2.2.1, 700, .inl fm)), (a 19, .inl (G.2.1, 64, .inl fw)), (a 20, .inl (G.2.1, 8, .inl fs)), (a 6, .inl (G.2.1, 64, .inl (fun j_ => nI (tbV 9 j_)))), (a 7, .inl (G.2.1, 8, .inl (fun j_ => nI (tbV 8 j_)))), (a 21, .inl (G.2.2.1, 32, .inl fq))]) (va_runV (As := []) (rest := []) ⟨hx, hb, hml, hown, hts⟩ (c_m_start l G h a rd mn 0 os ty sz H.size) (cwV 0 hts gX8_hash_X8_start rfl rfl rfl (by decide +kernel) ⟨Nat.le_of_ble_eq_true rfl, Nat.le_of_ble_eq_true rfl⟩) ⟨wPre.blind, (va_recv hK hP (ci := 7) (q0 := 8) rfl rfl), (fun U hU hW => ⟨rfl, w_pre hK hT hA hP hD hS (isC := [8]) (by decide) rfl U hU hW⟩)⟩ rfl rfl hl.1 rfl (lv_room (Nat.le_of_ble_eq_true rfl)) dX8_hash_6 ⟨Nat.le_of_ble_eq_true rfl, Nat.le_of_ble_eq_true rfl⟩) hA hP hD hS [8] [0, 1, 2, 3, 4, 5, 6, 7] rfl rfl (by decide) (by decide) (fun u H locs hpost hP hD hS => ?_)
  have hP : va_P G.1 vwCl [(a 27, .inl (G.2.2.1, 400, .inl ft)), (a 29, .inl (G.2.2.1, 416, .inl fo)), (a 22, .inl (G.2.2.1, 700, .inl fm)), (a 19, .inl (G.2.1, 64, .inl fw)), (a 20, .inl (G.2.1, 8, .inl fs)), (a 6, .inl (G.2.1, 64, .inl (fun j_ => nI (tbV 9 j_)))), (a 7, .inl (G.2.1, 8, .inl (fun j_ => nI (tbV 8 j_)))), (a 21, .inl (G.2.2.1, 32, .inl fq)), (h, .inr (7, mO a rd 0 0 os ty sz))] H := hP
  have hD : va_D A [(a 27, .inl (G.2.2.1, 400, .inl ft)), (a 29, .inl (G.2.2.1, 416, .inl fo)), (a 22, .inl (G.2.2.1, 700, .inl fm)), (a 19, .inl (G.2.1, 64, .inl fw)), (a 20, .inl (G.2.1, 8, .inl fs)), (a 6, .inl (G.2.1, 64, .inl (fun j_ => nI (tbV 9 j_)))), (a 7, .inl (G.2.1, 8, .inl (fun j_ => nI (tbV 8 j_)))), (a 21, .inl (G.2.2.1, 32, .inl fq)), (h, .inr (7, mO a rd 0 0 os ty sz))] := hD
  refine lv_aload_n hx hb dX8_hash_9 rfl (lv_at hl 1 rfl) ?_
  refine lv_aload_n hx hb dX8_hash_10 rfl (lv_at hl 1 rfl) ?_
  refine va_get (D := G.1) (ci := 7) (v := .ref (a 27)) (C := RX8) (T := TX8) (N := 35) hx hb hts hinX8 hown hK hP 8 rfl rfl 27 (by decide) (hts (.fieldLink RX8 227 "CipherBoxModel" "tape" "[B") (by decide +kernel)) (fun _ h9 => h9) rfl dX8_hash_11 ?_
  refine lv_iconst (v := nI 0) hx hb dX8_hash_14 (by decide) ?_
  refine lv_iload_n hx hb dX8_hash_15 rfl (lv_at hl 0 rfl) ?_
  refine w_finv (wr := [(a 29, .inl (G.2.2.1, 416, .inl fo)), (a 19, .inl (G.2.1, 64, .inl fw)), (a 20, .inl (G.2.1, 8, .inl fs)), (a 6, .inl (G.2.1, 64, .inl (fun j_ => nI (tbV 9 j_)))), (a 7, .inl (G.2.1, 8, .inl (fun j_ => nI (tbV 8 j_)))), (a 21, .inl (G.2.2.1, 32, .inl fq))]) (va_runV (As := [.ref (a 27), .int (nI 0), .int (nI tp)]) (rest := []) ⟨hx, hb, hml, hown, hts⟩ (c_m_addAll l G h a rd 0 0 os ty sz fm (a 27) 400 ft tp (by omega) (by omega) (by omega) H.size) (cwV 3 hts gX8_hash_X8_addAll rfl rfl rfl (by decide +kernel) ⟨Nat.le_of_ble_eq_true rfl, Nat.le_of_ble_eq_true rfl⟩) ⟨wPre.blind, (va_recv hK hP (ci := 7) (q0 := 8) rfl rfl), (fun U hU hW => ⟨rfl, w_pre hK hT hA hP hD hS (isC := [8, 2, 0]) (by decide) rfl U hU hW⟩)⟩ rfl rfl hl.1 rfl (lv_room (Nat.le_of_ble_eq_true rfl)) dX8_hash_16 ⟨Nat.le_of_ble_eq_true rfl, Nat.le_of_ble_eq_true rfl⟩) hA hP hD hS [8, 2, 0] [1, 3, 4, 5, 6, 7] rfl rfl (by decide) (by decide) (fun u H locs hpost hP hD hS => ?_)
  have hP : va_P G.1 vwCl [(a 29, .inl (G.2.2.1, 416, .inl fo)), (a 19, .inl (G.2.1, 64, .inl fw)), (a 20, .inl (G.2.1, 8, .inl fs)), (a 6, .inl (G.2.1, 64, .inl (fun j_ => nI (tbV 9 j_)))), (a 7, .inl (G.2.1, 8, .inl (fun j_ => nI (tbV 8 j_)))), (a 21, .inl (G.2.2.1, 32, .inl fq)), (h, .inr (7, mO a rd tp 0 os ty sz)), (a 22, .inl (G.2.2.1, 700, .inl (fa 0 tp (fun j_ => bN (ft j_)) fm))), (a 27, .inl (G.2.2.1, 400, .inl ft))] H := by have h9 := hP; rw [Nat.zero_add] at h9; exact h9
  have hD : va_D A [(a 29, .inl (G.2.2.1, 416, .inl fo)), (a 19, .inl (G.2.1, 64, .inl fw)), (a 20, .inl (G.2.1, 8, .inl fs)), (a 6, .inl (G.2.1, 64, .inl (fun j_ => nI (tbV 9 j_)))), (a 7, .inl (G.2.1, 8, .inl (fun j_ => nI (tbV 8 j_)))), (a 21, .inl (G.2.2.1, 32, .inl fq)), (h, .inr (7, mO a rd tp 0 os ty sz)), (a 22, .inl (G.2.2.1, 700, .inl (fa 0 tp (fun j_ => bN (ft j_)) fm))), (a 27, .inl (G.2.2.1, 400, .inl ft))] := by have h9 := hD; rw [Nat.zero_add] at h9; exact h9
  refine lv_aload_n hx hb dX8_hash_19 rfl (lv_at hl 1 rfl) ?_
  refine w_finv (wr := [(a 29, .inl (G.2.2.1, 416, .inl fo)), (a 27, .inl (G.2.2.1, 400, .inl ft))]) (va_runV (As := []) (rest := []) ⟨hx, hb, hml, hown, hts⟩ (c_m_digest l G h a rd tp 0 os ty sz (fa 0 tp (fun j_ => bN (ft j_)) fm) fs fw fq (by omega) H.size) (cwV 0 hts gX8_hash_X8_digest rfl rfl rfl (by decide +kernel) ⟨Nat.le_of_ble_eq_true rfl, Nat.le_of_ble_eq_true rfl⟩) ⟨wPre.blind, (va_recv hK hP (ci := 7) (q0 := 6) rfl rfl), (fun U hU hW => ⟨rfl, w_pre hK hT hA hP hD hS (isC := [6, 7, 1, 2, 3, 4, 5]) (by decide) rfl U hU hW⟩)⟩ rfl rfl hl.1 rfl (lv_room (Nat.le_of_ble_eq_true rfl)) dX8_hash_20 ⟨Nat.le_of_ble_eq_true rfl, Nat.le_of_ble_eq_true rfl⟩) hA hP hD hS [6, 7, 1, 2, 3, 4, 5] [0, 8] rfl rfl (by decide) (by decide) (fun u H locs hpost hP hD hS => ?_)
  obtain ⟨w2, rfl⟩ : ∃ z, z = u := ⟨_, rfl⟩
  try dsimp only at hpost hP hD
  have hP : va_P G.1 vwCl [(a 29, .inl (G.2.2.1, 416, .inl fo)), (a 27, .inl (G.2.2.1, 400, .inl ft)), (h, .inr (7, mO a rd (shL tp) 0 os ty sz)), (a 22, .inl (G.2.2.1, 700, .inl (mM tp (fa 0 tp (fun j_ => bN (ft j_)) fm)))), (a 19, .inl (G.2.1, 64, .inl w2)), (a 20, .inl (G.2.1, 8, .inl (mH tp (fa 0 tp (fun j_ => bN (ft j_)) fm)))), (a 6, .inl (G.2.1, 64, .inl (fun j_ => nI (tbV 9 j_)))), (a 7, .inl (G.2.1, 8, .inl (fun j_ => nI (tbV 8 j_)))), (a 21, .inl (G.2.2.1, 32, .inl (shQ (mH tp (fa 0 tp (fun j_ => bN (ft j_)) fm)))))] H := hP
  have hD : va_D A [(a 29, .inl (G.2.2.1, 416, .inl fo)), (a 27, .inl (G.2.2.1, 400, .inl ft)), (h, .inr (7, mO a rd (shL tp) 0 os ty sz)), (a 22, .inl (G.2.2.1, 700, .inl (mM tp (fa 0 tp (fun j_ => bN (ft j_)) fm)))), (a 19, .inl (G.2.1, 64, .inl w2)), (a 20, .inl (G.2.1, 8, .inl (mH tp (fa 0 tp (fun j_ => bN (ft j_)) fm)))), (a 6, .inl (G.2.1, 64, .inl (fun j_ => nI (tbV 9 j_)))), (a 7, .inl (G.2.1, 8, .inl (fun j_ => nI (tbV 8 j_)))), (a 21, .inl (G.2.2.1, 32, .inl (shQ (mH tp (fa 0 tp (fun j_ => bN (ft j_)) fm)))))] := hD
  refine lv_iconst (v := nI 0) hx hb dX8_hash_23 (by decide) ?_
  refine lv_istore_n (lv' := [(2, .int (nI 0)), (1, .int (nI tp)), (0, .ref h)]) hx hb dX8_hash_24 rfl hl (by decide) rfl (fun ls hl => ?_)
  refine w_loop (ι := Nat) (fun k => 32 - k) (fun k => k ≤ 32) (fun k => [(a 29, .inl (G.2.2.1, 416, .inl (fl k (fun j_ => bN (shQ (mH tp (fa 0 tp (fun j_ => bN (ft j_)) fm)) j_)) fo))), (a 27, .inl (G.2.2.1, 400, .inl ft)), (h, .inr (7, mO a rd (shL tp) 0 os ty sz)), (a 22, .inl (G.2.2.1, 700, .inl (mM tp (fa 0 tp (fun j_ => bN (ft j_)) fm)))), (a 19, .inl (G.2.1, 64, .inl w2)), (a 20, .inl (G.2.1, 8, .inl (mH tp (fa 0 tp (fun j_ => bN (ft j_)) fm)))), (a 6, .inl (G.2.1, 64, .inl (fun j_ => nI (tbV 9 j_)))), (a 7, .inl (G.2.1, 8, .inl (fun j_ => nI (tbV 8 j_)))), (a 21, .inl (G.2.2.1, 32, .inl (shQ (mH tp (fa 0 tp (fun j_ => bN (ft j_)) fm)))))]) (fun k => [(2, .int (nI k)), (1, .int (nI tp)), (0, .ref h)]) 0 (by omega) (by simp only [fl_0]; exact hP) (by simp only [fl_0]; exact hD) hS hl ?_
  intro k H locs ls hk hP hD hS hl ih
  have hk : k ≤ 32 := hk
  have hP : va_P G.1 vwCl [(a 29, .inl (G.2.2.1, 416, .inl (fl k (fun j_ => bN (shQ (mH tp (fa 0 tp (fun j_ => bN (ft j_)) fm)) j_)) fo))), (a 27, .inl (G.2.2.1, 400, .inl ft)), (h, .inr (7, mO a rd (shL tp) 0 os ty sz)), (a 22, .inl (G.2.2.1, 700, .inl (mM tp (fa 0 tp (fun j_ => bN (ft j_)) fm)))), (a 19, .inl (G.2.1, 64, .inl w2)), (a 20, .inl (G.2.1, 8, .inl (mH tp (fa 0 tp (fun j_ => bN (ft j_)) fm)))), (a 6, .inl (G.2.1, 64, .inl (fun j_ => nI (tbV 9 j_)))), (a 7, .inl (G.2.1, 8, .inl (fun j_ => nI (tbV 8 j_)))), (a 21, .inl (G.2.2.1, 32, .inl (shQ (mH tp (fa 0 tp (fun j_ => bN (ft j_)) fm)))))] H := hP
  have hD : va_D A [(a 29, .inl (G.2.2.1, 416, .inl (fl k (fun j_ => bN (shQ (mH tp (fa 0 tp (fun j_ => bN (ft j_)) fm)) j_)) fo))), (a 27, .inl (G.2.2.1, 400, .inl ft)), (h, .inr (7, mO a rd (shL tp) 0 os ty sz)), (a 22, .inl (G.2.2.1, 700, .inl (mM tp (fa 0 tp (fun j_ => bN (ft j_)) fm)))), (a 19, .inl (G.2.1, 64, .inl w2)), (a 20, .inl (G.2.1, 8, .inl (mH tp (fa 0 tp (fun j_ => bN (ft j_)) fm)))), (a 6, .inl (G.2.1, 64, .inl (fun j_ => nI (tbV 9 j_)))), (a 7, .inl (G.2.1, 8, .inl (fun j_ => nI (tbV 8 j_)))), (a 21, .inl (G.2.2.1, 32, .inl (shQ (mH tp (fa 0 tp (fun j_ => bN (ft j_)) fm)))))] := hD
  have hl : lv_has ls 3 [(2, .int (nI k)), (1, .int (nI tp)), (0, .ref h)] := hl
  refine lv_iload_n hx hb dX8_hash_25 rfl (lv_at hl 0 rfl) ?_
  refine lv_bipush (v := nI 32) hx hb dX8_hash_26 (by decide) ?_
  refine w_icmpN_ge (tgt := 49) hx hb (by omega) (by omega) dX8_hash_28 (by decide) (fun h1 => ?_) (fun h1 => ?_)
  · obtain rfl : 32 = k := Eq.symm (show k = 32 from by omega)
    refine lv_aload_n hx hb dX8_hash_49 rfl (lv_at hl 2 rfl) ?_
    refine lv_bipush (v := nI 32) hx hb dX8_hash_50 (by decide) ?_
    refine va_put (D := G.1) (ci := 7) (v := .int (nI 32)) (ty := .int) (C := RX8) (T := TX8) (N := 35) hx hb hts hinX8 tyX8 tyX8_ok nmX8 hown hK hP hD hS 2 rfl rfl 30 (by decide) (hts (.fieldLink RX8 251 "CipherBoxModel" "outSize" "I") (by decide +kernel)) (fun _ h9 => h9) rfl (by decide +kernel) rfl rfl (Nat.le_of_ble_eq_true rfl) dX8_hash_52 (fun H locs hP hD hS => ?_)
    have hP : va_P G.1 vwCl [(a 29, .inl (G.2.2.1, 416, .inl (fl 32 (fun j_ => bN (shQ (mH tp (fa 0 tp (fun j_ => bN (ft j_)) fm)) j_)) fo))), (a 27, .inl (G.2.2.1, 400, .inl ft)), (h, .inr (7, mO a rd (shL tp) 0 32 ty sz)), (a 22, .inl (G.2.2.1, 700, .inl (mM tp (fa 0 tp (fun j_ => bN (ft j_)) fm)))), (a 19, .inl (G.2.1, 64, .inl w2)), (a 20, .inl (G.2.1, 8, .inl (mH tp (fa 0 tp (fun j_ => bN (ft j_)) fm)))), (a 6, .inl (G.2.1, 64, .inl (fun j_ => nI (tbV 9 j_)))), (a 7, .inl (G.2.1, 8, .inl (fun j_ => nI (tbV 8 j_)))), (a 21, .inl (G.2.2.1, 32, .inl (shQ (mH tp (fa 0 tp (fun j_ => bN (ft j_)) fm)))))] H := hP
    have hD : va_D A [(a 29, .inl (G.2.2.1, 416, .inl (fl 32 (fun j_ => bN (shQ (mH tp (fa 0 tp (fun j_ => bN (ft j_)) fm)) j_)) fo))), (a 27, .inl (G.2.2.1, 400, .inl ft)), (h, .inr (7, mO a rd (shL tp) 0 32 ty sz)), (a 22, .inl (G.2.2.1, 700, .inl (mM tp (fa 0 tp (fun j_ => bN (ft j_)) fm)))), (a 19, .inl (G.2.1, 64, .inl w2)), (a 20, .inl (G.2.1, 8, .inl (mH tp (fa 0 tp (fun j_ => bN (ft j_)) fm)))), (a 6, .inl (G.2.1, 64, .inl (fun j_ => nI (tbV 9 j_)))), (a 7, .inl (G.2.1, 8, .inl (fun j_ => nI (tbV 8 j_)))), (a 21, .inl (G.2.2.1, 32, .inl (shQ (mH tp (fa 0 tp (fun j_ => bN (ft j_)) fm)))))] := hD
    refine lv_bipush (v := nI 32) hx hb dX8_hash_55 (by decide) ?_
    exact hret (nI 32) ⟨_, _, w2, _⟩ H _ 57 ls dX8_hash_57 (rfl) (hP.sub [2, 1, 0, 3, 4, 5, 6, 7, 8] rfl) (hD.sub [2, 1, 0, 3, 4, 5, 6, 7, 8] (by decide) rfl) hS
  · refine lv_aload_n hx hb dX8_hash_31 rfl (lv_at hl 2 rfl) ?_
    refine va_get (D := G.1) (ci := 7) (v := .ref (a 29)) (C := RX8) (T := TX8) (N := 35) hx hb hts hinX8 hown hK hP 2 rfl rfl 29 (by decide) (hts (.fieldLink RX8 230 "CipherBoxModel" "out" "[B") (by decide +kernel)) (fun _ h9 => h9) rfl dX8_hash_32 ?_
    refine lv_iload_n hx hb dX8_hash_35 rfl (lv_at hl 0 rfl) ?_
    refine lv_aload_n hx hb dX8_hash_36 rfl (lv_at hl 2 rfl) ?_
    refine va_get (D := G.1) (ci := 7) (v := .ref (a 21)) (C := RX8) (T := TX8) (N := 35) hx hb hts hinX8 hown hK hP 2 rfl rfl 21 (by decide) (hts (.fieldLink RX8 138 "CipherBoxModel" "sha" "[B") (by decide +kernel)) (fun _ h9 => h9) rfl dX8_hash_37 ?_
    refine lv_iload_n hx hb dX8_hash_40 rfl (lv_at hl 0 rfl) ?_
    refine w_bald hx hb hK hP 8 rfl (by omega) (by omega) dX8_hash_41 ?_
    refine w_bast hx hb hK hP hD hS 0 rfl (by omega) (by omega) (fl (k + 1) (fun j_ => bN (shQ (mH tp (fa 0 tp (fun j_ => bN (ft j_)) fm)) j_)) fo) (fl_s rfl) dX8_hash_42 (fun H locs hP hD hS => ?_)
    have hP : va_P G.1 vwCl [(a 29, .inl (G.2.2.1, 416, .inl (fl (k + 1) (fun j_ => bN (shQ (mH tp (fa 0 tp (fun j_ => bN (ft j_)) fm)) j_)) fo))), (a 27, .inl (G.2.2.1, 400, .inl ft)), (h, .inr (7, mO a rd (shL tp) 0 os ty sz)), (a 22, .inl (G.2.2.1, 700, .inl (mM tp (fa 0 tp (fun j_ => bN (ft j_)) fm)))), (a 19, .inl (G.2.1, 64, .inl w2)), (a 20, .inl (G.2.1, 8, .inl (mH tp (fa 0 tp (fun j_ => bN (ft j_)) fm)))), (a 6, .inl (G.2.1, 64, .inl (fun j_ => nI (tbV 9 j_)))), (a 7, .inl (G.2.1, 8, .inl (fun j_ => nI (tbV 8 j_)))), (a 21, .inl (G.2.2.1, 32, .inl (shQ (mH tp (fa 0 tp (fun j_ => bN (ft j_)) fm)))))] H := hP
    have hD : va_D A [(a 29, .inl (G.2.2.1, 416, .inl (fl (k + 1) (fun j_ => bN (shQ (mH tp (fa 0 tp (fun j_ => bN (ft j_)) fm)) j_)) fo))), (a 27, .inl (G.2.2.1, 400, .inl ft)), (h, .inr (7, mO a rd (shL tp) 0 os ty sz)), (a 22, .inl (G.2.2.1, 700, .inl (mM tp (fa 0 tp (fun j_ => bN (ft j_)) fm)))), (a 19, .inl (G.2.1, 64, .inl w2)), (a 20, .inl (G.2.1, 8, .inl (mH tp (fa 0 tp (fun j_ => bN (ft j_)) fm)))), (a 6, .inl (G.2.1, 64, .inl (fun j_ => nI (tbV 9 j_)))), (a 7, .inl (G.2.1, 8, .inl (fun j_ => nI (tbV 8 j_)))), (a 21, .inl (G.2.2.1, 32, .inl (shQ (mH tp (fa 0 tp (fun j_ => bN (ft j_)) fm)))))] := hD
    refine lv_iinc (v := nI (k + 1)) (lv' := [(2, .int (nI (k + 1))), (1, .int (nI tp)), (0, .ref h)]) hx hb dX8_hash_43 hl (k := 0) rfl (nI_add k 1) (by decide) rfl (fun ls hl => ?_)
    refine lv_goto (tgt := 25) hx hb dX8_hash_46 (by decide) ?_
    exact ih (k + 1) H _ _ (by omega) (by omega) hP hD hS (lv_sub hl [0, 1, 2] rfl)
