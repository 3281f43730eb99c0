/-! the model's calls: key, pad, unpad, same, about -/
def mPd (n : Nat) (f : Nat → Int32) (j : Nat) : Int32 := if j < n then bN (f j) else if j = n then bN (-128) else bN (nI 0)
theorem mPd_1 {n j : Nat} {f : Nat → Int32} (h : j < n) : mPd n f j = bN (f j) := by simp only [mPd]; rw [if_pos h]
theorem mPd_2 {n j : Nat} {f : Nat → Int32} (h : j = n) : mPd n f j = bN (-128) := by simp only [mPd]; rw [if_neg (by omega), if_pos h]
theorem mPd_3 {n j : Nat} {f : Nat → Int32} (h : n < j) : mPd n f j = bN (nI 0) := by simp only [mPd]; rw [if_neg (by omega), if_neg (by omega)]
def bt1 (v : Int32) (k : Nat) : Nat := (v >>> (nI k &&& 31)).toBitVec.toNat % 2
def bts (v : Int32) : Nat → Nat
  | 0 => 0
  | k + 1 => bts v k + bt1 v k
theorem bts_le (v : Int32) : ∀ k, bts v k ≤ k := by
  intro k
  induction k with
  | zero => exact Nat.le_refl _
  | succ k ih => have : bt1 v k < 2 := Nat.mod_lt _ (by decide); simp only [bts]; omega
def ods (f : Nat → Int32) : Nat → Nat
  | 0 => 0
  | k + 1 => ods f k + bts (f k) 8 % 2
theorem ods_le (f : Nat → Int32) : ∀ k, ods f k ≤ k := by
  intro k
  induction k with
  | zero => exact Nat.le_refl _
  | succ k ih => simp only [ods]; omega
set_option maxHeartbeats 4000000 in
set_option maxRecDepth 100000 in
theorem c_m_key0 (l : Launch) (G : wG) (h : Nat) (a : Nat → Nat) (rd mn tp os : Nat) (ty : Int32) (sz : Nat) (ft fk : Nat → Int32) (ht : tp = 16) : CMi l G yX8_key wsX8_key 1 21 [.ref h, .int (nI 0)] [(h, .inr (7, mO a rd mn tp os ty sz)), (a 27, .inl (G.2.2.1, 400, .inl ft)), (a 33, .inl (G.2.2.1, 32, .inl fk))] (fun r (_ : Unit) => r = nI 1) (fun _ => [(h, .inr (7, mO a rd mn 0 os (nI 0) tp)), (a 27, .inl (G.2.2.1, 400, .inl ft)), (a 33, .inl (G.2.2.1, 32, .inl (fl tp (fun j_ => bN (ft j_)) fk)))]) := by
  refine CMi.start cX8_key 5 .int (by decide) rfl (Nat.le_of_ble_eq_true rfl) (fun r u h => vp_nar_int r) ?_
  intro p e s m below meth c A Q ls H locs hx hb hml hown hts hK hT hA hP hD hS hl hret
  have hinX8 : ∀ w ∈ u_ws RX8 TX8 35, w ∈ wsX8_key := by decide +kernel
  have hl : lv_has ls 5 [(0, .ref h), (1, .int (nI 0))] := hl
  refine lv_aload_n hx hb dX8_key_0 rfl (lv_at hl 0 rfl) ?_
  refine w_fini (wr := [(a 27, .inl (G.2.2.1, 400, .inl ft)), (a 33, .inl (G.2.2.1, 32, .inl fk))]) (va_runV (As := []) (rest := []) ⟨hx, hb, hml, hown, hts⟩ (c_m_use l G h a rd mn tp os ty sz H.size) (cwV 0 hts gX8_key_X8_use rfl rfl rfl (by decide +kernel) ⟨Nat.le_of_ble_eq_true rfl, Nat.le_of_ble_eq_true rfl⟩) ⟨wPre.blind, (va_recv hK hP (ci := 7) (q0 := 0) rfl rfl), (fun U hU hW => ⟨rfl, w_pre hK hT hA hP hD hS (isC := [0]) (by decide) rfl U hU hW⟩)⟩ rfl rfl hl.1 rfl (lv_room (Nat.le_of_ble_eq_true rfl)) dX8_key_1 ⟨Nat.le_of_ble_eq_true rfl, Nat.le_of_ble_eq_true rfl⟩) hA hP hD hS [0] [1, 2] rfl rfl (by decide) (by decide) (fun r u H locs hpost hP hD hS => ?_)
  obtain rfl := hpost
  have hP : va_P G.1 vwCl [(a 27, .inl (G.2.2.1, 400, .inl ft)), (a 33, .inl (G.2.2.1, 32, .inl fk)), (h, .inr (7, mO a rd mn 0 os ty sz))] H := hP
  have hD : va_D A [(a 27, .inl (G.2.2.1, 400, .inl ft)), (a 33, .inl (G.2.2.1, 32, .inl fk)), (h, .inr (7, mO a rd mn 0 os ty sz))] := hD
  refine lv_istore_n (lv' := [(2, .int (nI tp)), (0, .ref h), (1, .int (nI 0))]) hx hb dX8_key_4 rfl hl (by decide) rfl (fun ls hl => ?_)
  refine lv_iload_n hx hb dX8_key_5 rfl (lv_at hl 2 rfl) ?_
  refine w_ifN_ne (tgt := 23) hx hb (by omega) dX8_key_6 (by decide) (fun h1 => ?_) (fun h1 => ?_)
  · exact absurd rfl h1
  · refine lv_iload_n hx hb dX8_key_9 rfl (lv_at hl 0 rfl) ?_
    refine lv_bipush (v := nI 16) hx hb dX8_key_10 (by decide) ?_
    refine w_icmpN_ne (tgt := 19) hx hb (by omega) (by omega) dX8_key_12 (by decide) (fun h2 => ?_) (fun h2 => ?_)
    · exact absurd ht h2
    · refine lv_iconst (v := nI 1) hx hb dX8_key_15 (by decide) ?_
      refine lv_goto (tgt := 51) hx hb dX8_key_16 (by decide) ?_
      refine lv_istore_n (lv' := [(3, .int (nI 1)), (2, .int (nI tp)), (0, .ref h), (1, .int (nI 0))]) hx hb dX8_key_51 rfl hl (by decide) rfl (fun ls hl => ?_)
      refine lv_iload_n hx hb dX8_key_52 rfl (lv_at hl 0 rfl) ?_
      refine w_ifN_ne (tgt := 58) hx hb (by omega) dX8_key_53 (by decide) (fun h3 => ?_) (fun h3 => ?_)
      · refine lv_aload_n hx hb dX8_key_58 rfl (lv_at hl 2 rfl) ?_
        refine lv_iload_n hx hb dX8_key_59 rfl (lv_at hl 3 rfl) ?_
        refine va_put (D := G.1) (ci := 7) (v := .int (nI 0)) (ty := .int) (C := RX8) (T := TX8) (N := 35) hx hb hts hinX8 tyX8 tyX8_ok nmX8 hown hK hP hD hS 2 rfl rfl 31 (by decide) (hts (.fieldLink RX8 233 "CipherBoxModel" "type" "I") (by decide +kernel)) (fun _ h9 => h9) rfl (by decide +kernel) rfl rfl (Nat.le_of_ble_eq_true rfl) dX8_key_60 (fun H locs hP hD hS => ?_)
        have hP : va_P G.1 vwCl [(a 27, .inl (G.2.2.1, 400, .inl ft)), (a 33, .inl (G.2.2.1, 32, .inl fk)), (h, .inr (7, mO a rd mn 0 os (nI 0) sz))] H := hP
        have hD : va_D A [(a 27, .inl (G.2.2.1, 400, .inl ft)), (a 33, .inl (G.2.2.1, 32, .inl fk)), (h, .inr (7, mO a rd mn 0 os (nI 0) sz))] := hD
        refine lv_aload_n hx hb dX8_key_63 rfl (lv_at hl 2 rfl) ?_
        refine lv_iload_n hx hb dX8_key_64 rfl (lv_at hl 1 rfl) ?_
        refine va_put (D := G.1) (ci := 7) (v := .int (nI tp)) (ty := .int) (C := RX8) (T := TX8) (N := 35) hx hb hts hinX8 tyX8 tyX8_ok nmX8 hown hK hP hD hS 2 rfl rfl 32 (by decide) (hts (.fieldLink RX8 258 "CipherBoxModel" "size" "I") (by decide +kernel)) (fun _ h9 => h9) rfl (by decide +kernel) rfl rfl (Nat.le_of_ble_eq_true rfl) dX8_key_65 (fun H locs hP hD hS => ?_)
        have hP : va_P G.1 vwCl [(a 27, .inl (G.2.2.1, 400, .inl ft)), (a 33, .inl (G.2.2.1, 32, .inl fk)), (h, .inr (7, mO a rd mn 0 os (nI 0) tp))] H := hP
        have hD : va_D A [(a 27, .inl (G.2.2.1, 400, .inl ft)), (a 33, .inl (G.2.2.1, 32, .inl fk)), (h, .inr (7, mO a rd mn 0 os (nI 0) tp))] := hD
        refine lv_iconst (v := nI 0) hx hb dX8_key_68 (by decide) ?_
        refine lv_istore (lv' := [(4, .int (nI 0)), (3, .int (nI 1)), (2, .int (nI tp)), (0, .ref h), (1, .int (nI 0))]) hx hb dX8_key_69 hl (by decide) rfl (fun ls hl => ?_)
        refine w_loop (ι := Nat) (fun k => tp - k) (fun k => k ≤ tp) (fun k => [(a 27, .inl (G.2.2.1, 400, .inl ft)), (a 33, .inl (G.2.2.1, 32, .inl (fl k (fun j_ => bN (ft j_)) fk))), (h, .inr (7, mO a rd mn 0 os (nI 0) tp))]) (fun k => [(4, .int (nI k)), (3, .int (nI 1)), (2, .int (nI tp)), (0, .ref h), (1, .int (nI 0))]) 0 (by omega) (by simp only [fl_0]; exact hP) (by simp only [fl_0]; exact hD) hS hl ?_
        intro k H locs ls hk hP hD hS hl ih
        have hk : k ≤ tp := hk
        have hP : va_P G.1 vwCl [(a 27, .inl (G.2.2.1, 400, .inl ft)), (a 33, .inl (G.2.2.1, 32, .inl (fl k (fun j_ => bN (ft j_)) fk))), (h, .inr (7, mO a rd mn 0 os (nI 0) tp))] H := hP
        have hD : va_D A [(a 27, .inl (G.2.2.1, 400, .inl ft)), (a 33, .inl (G.2.2.1, 32, .inl (fl k (fun j_ => bN (ft j_)) fk))), (h, .inr (7, mO a rd mn 0 os (nI 0) tp))] := hD
        have hl : lv_has ls 5 [(4, .int (nI k)), (3, .int (nI 1)), (2, .int (nI tp)), (0, .ref h), (1, .int (nI 0))] := hl
        refine lv_iload hx hb dX8_key_71 (lv_at hl 0 rfl) ?_
        refine lv_iload_n hx hb dX8_key_73 rfl (lv_at hl 2 rfl) ?_
        refine w_icmpN_ge (tgt := 97) hx hb (by omega) (by omega) dX8_key_74 (by decide) (fun h4 => ?_) (fun h4 => ?_)
        · obtain rfl : tp = k := Eq.symm (show k = tp from by omega)
          refine lv_iconst (v := nI 1) hx hb dX8_key_97 (by decide) ?_
          exact hret (nI 1) () H _ 98 ls dX8_key_98 (rfl) (hP.sub [2, 0, 1] rfl) (hD.sub [2, 0, 1] (by decide) rfl) hS
        · refine lv_aload_n hx hb dX8_key_77 rfl (lv_at hl 3 rfl) ?_
          refine va_get (D := G.1) (ci := 7) (v := .ref (a 33)) (C := RX8) (T := TX8) (N := 35) hx hb hts hinX8 hown hK hP 2 rfl rfl 33 (by decide) (hts (.fieldLink RX8 236 "CipherBoxModel" "key" "[B") (by decide +kernel)) (fun _ h9 => h9) rfl dX8_key_78 ?_
          refine lv_iload hx hb dX8_key_81 (lv_at hl 0 rfl) ?_
          refine lv_aload_n hx hb dX8_key_83 rfl (lv_at hl 3 rfl) ?_
          refine va_get (D := G.1) (ci := 7) (v := .ref (a 27)) (C := RX8) (T := TX8) (N := 35) hx hb hts hinX8 hown hK hP 2 rfl rfl 27 (by decide) (hts (.fieldLink RX8 227 "CipherBoxModel" "tape" "[B") (by decide +kernel)) (fun _ h9 => h9) rfl dX8_key_84 ?_
          refine lv_iload hx hb dX8_key_87 (lv_at hl 0 rfl) ?_
          refine w_bald hx hb hK hP 0 rfl (by omega) (by omega) dX8_key_89 ?_
          refine w_bast hx hb hK hP hD hS 1 rfl (by omega) (by omega) (fl (k + 1) (fun j_ => bN (ft j_)) fk) (fl_s rfl) dX8_key_90 (fun H locs hP hD hS => ?_)
          have hP : va_P G.1 vwCl [(a 27, .inl (G.2.2.1, 400, .inl ft)), (a 33, .inl (G.2.2.1, 32, .inl (fl (k + 1) (fun j_ => bN (ft j_)) fk))), (h, .inr (7, mO a rd mn 0 os (nI 0) tp))] H := hP
          have hD : va_D A [(a 27, .inl (G.2.2.1, 400, .inl ft)), (a 33, .inl (G.2.2.1, 32, .inl (fl (k + 1) (fun j_ => bN (ft j_)) fk))), (h, .inr (7, mO a rd mn 0 os (nI 0) tp))] := hD
          refine lv_iinc (v := nI (k + 1)) (lv' := [(4, .int (nI (k + 1))), (3, .int (nI 1)), (2, .int (nI tp)), (0, .ref h), (1, .int (nI 0))]) hx hb dX8_key_91 hl (k := 0) rfl (nI_add k 1) (by decide) rfl (fun ls hl => ?_)
          refine lv_goto (tgt := 71) hx hb dX8_key_94 (by decide) ?_
          exact ih (k + 1) H _ _ (by omega) (by omega) hP hD hS (lv_sub hl [0, 1, 2, 3, 4] rfl)
      · exact absurd h3 (by decide)

set_option maxHeartbeats 4000000 in
set_option maxRecDepth 100000 in
theorem c_m_key1 (l : Launch) (G : wG) (h : Nat) (a : Nat → Nat) (rd mn tp os : Nat) (ty : Int32) (sz : Nat) (ft fk : Nat → Int32) (ht : tp = 16 ∨ tp = 24 ∨ tp = 32) : CMi l G yX8_key wsX8_key 1 21 [.ref h, .int (nI 1)] [(h, .inr (7, mO a rd mn tp os ty sz)), (a 27, .inl (G.2.2.1, 400, .inl ft)), (a 33, .inl (G.2.2.1, 32, .inl fk))] (fun r (_ : Unit) => r = nI 1) (fun _ => [(h, .inr (7, mO a rd mn 0 os (nI 1) tp)), (a 27, .inl (G.2.2.1, 400, .inl ft)), (a 33, .inl (G.2.2.1, 32, .inl (fl tp (fun j_ => bN (ft j_)) fk)))]) := by
  refine CMi.start cX8_key 5 .int (by decide) rfl (Nat.le_of_ble_eq_true rfl) (fun r u h => vp_nar_int r) ?_
  intro p e s m below meth c A Q ls H locs hx hb hml hown hts hK hT hA hP hD hS hl hret
  have hinX8 : ∀ w ∈ u_ws RX8 TX8 35, w ∈ wsX8_key := by decide +kernel
  have hl : lv_has ls 5 [(0, .ref h), (1, .int (nI 1))] := hl
  refine lv_aload_n hx hb dX8_key_0 rfl (lv_at hl 0 rfl) ?_
  refine w_fini (wr := [(a 27, .inl (G.2.2.1, 400, .inl ft)), (a 33, .inl (G.2.2.1, 32, .inl fk))]) (va_runV (As := []) (rest := []) ⟨hx, hb, hml, hown, hts⟩ (c_m_use l G h a rd mn tp os ty sz H.size) (cwV 0 hts gX8_key_X8_use rfl rfl rfl (by decide +kernel) ⟨Nat.le_of_ble_eq_true rfl, Nat.le_of_ble_eq_true rfl⟩) ⟨wPre.blind, (va_recv hK hP (ci := 7) (q0 := 0) rfl rfl), (fun U hU hW => ⟨rfl, w_pre hK hT hA hP hD hS (isC := [0]) (by decide) rfl U hU hW⟩)⟩ rfl rfl hl.1 rfl (lv_room (Nat.le_of_ble_eq_true rfl)) dX8_key_1 ⟨Nat.le_of_ble_eq_true rfl, Nat.le_of_ble_eq_true rfl⟩) hA hP hD hS [0] [1, 2] rfl rfl (by decide) (by decide) (fun r u H locs hpost hP hD hS => ?_)
  obtain rfl := hpost
  have hP : va_P G.1 vwCl [(a 27, .inl (G.2.2.1, 400, .inl ft)), (a 33, .inl (G.2.2.1, 32, .inl fk)), (h, .inr (7, mO a rd mn 0 os ty sz))] H := hP
  have hD : va_D A [(a 27, .inl (G.2.2.1, 400, .inl ft)), (a 33, .inl (G.2.2.1, 32, .inl fk)), (h, .inr (7, mO a rd mn 0 os ty sz))] := hD
  refine lv_istore_n (lv' := [(2, .int (nI tp)), (0, .ref h), (1, .int (nI 1))]) hx hb dX8_key_4 rfl hl (by decide) rfl (fun ls hl => ?_)
  refine lv_iload_n hx hb dX8_key_5 rfl (lv_at hl 2 rfl) ?_
  refine w_ifN_ne (tgt := 23) hx hb (by omega) dX8_key_6 (by decide) (fun h1 => ?_) (fun h1 => ?_)
  · refine lv_iload_n hx hb dX8_key_23 rfl (lv_at hl 2 rfl) ?_
    refine lv_iconst (v := nI 1) hx hb dX8_key_24 (by decide) ?_
    refine w_icmpN_ne (tgt := 50) hx hb (by omega) (by omega) dX8_key_25 (by decide) (fun h2 => ?_) (fun h2 => ?_)
    · exact absurd rfl h2
    · refine lv_iload_n hx hb dX8_key_28 rfl (lv_at hl 0 rfl) ?_
      refine lv_bipush (v := nI 16) hx hb dX8_key_29 (by decide) ?_
      refine w_icmpN_eq (tgt := 46) hx hb (by omega) (by omega) dX8_key_31 (by decide) (fun h3 => ?_) (fun h3 => ?_)
      · refine lv_iconst (v := nI 1) hx hb dX8_key_46 (by decide) ?_
        refine lv_goto (tgt := 51) hx hb dX8_key_47 (by decide) ?_
        refine lv_istore_n (lv' := [(3, .int (nI 1)), (2, .int (nI tp)), (0, .ref h), (1, .int (nI 1))]) hx hb dX8_key_51 rfl hl (by decide) rfl (fun ls hl => ?_)
        refine lv_iload_n hx hb dX8_key_52 rfl (lv_at hl 0 rfl) ?_
        refine w_ifN_ne (tgt := 58) hx hb (by omega) dX8_key_53 (by decide) (fun h4 => ?_) (fun h4 => ?_)
        · refine lv_aload_n hx hb dX8_key_58 rfl (lv_at hl 2 rfl) ?_
          refine lv_iload_n hx hb dX8_key_59 rfl (lv_at hl 3 rfl) ?_
          refine va_put (D := G.1) (ci := 7) (v := .int (nI 1)) (ty := .int) (C := RX8) (T := TX8) (N := 35) hx hb hts hinX8 tyX8 tyX8_ok nmX8 hown hK hP hD hS 2 rfl rfl 31 (by decide) (hts (.fieldLink RX8 233 "CipherBoxModel" "type" "I") (by decide +kernel)) (fun _ h9 => h9) rfl (by decide +kernel) rfl rfl (Nat.le_of_ble_eq_true rfl) dX8_key_60 (fun H locs hP hD hS => ?_)
          have hP : va_P G.1 vwCl [(a 27, .inl (G.2.2.1, 400, .inl ft)), (a 33, .inl (G.2.2.1, 32, .inl fk)), (h, .inr (7, mO a rd mn 0 os (nI 1) sz))] H := hP
          have hD : va_D A [(a 27, .inl (G.2.2.1, 400, .inl ft)), (a 33, .inl (G.2.2.1, 32, .inl fk)), (h, .inr (7, mO a rd mn 0 os (nI 1) sz))] := hD
          refine lv_aload_n hx hb dX8_key_63 rfl (lv_at hl 2 rfl) ?_
          refine lv_iload_n hx hb dX8_key_64 rfl (lv_at hl 1 rfl) ?_
          refine va_put (D := G.1) (ci := 7) (v := .int (nI tp)) (ty := .int) (C := RX8) (T := TX8) (N := 35) hx hb hts hinX8 tyX8 tyX8_ok nmX8 hown hK hP hD hS 2 rfl rfl 32 (by decide) (hts (.fieldLink RX8 258 "CipherBoxModel" "size" "I") (by decide +kernel)) (fun _ h9 => h9) rfl (by decide +kernel) rfl rfl (Nat.le_of_ble_eq_true rfl) dX8_key_65 (fun H locs hP hD hS => ?_)
          have hP : va_P G.1 vwCl [(a 27, .inl (G.2.2.1, 400, .inl ft)), (a 33, .inl (G.2.2.1, 32, .inl fk)), (h, .inr (7, mO a rd mn 0 os (nI 1) tp))] H := hP
          have hD : va_D A [(a 27, .inl (G.2.2.1, 400, .inl ft)), (a 33, .inl (G.2.2.1, 32, .inl fk)), (h, .inr (7, mO a rd mn 0 os (nI 1) tp))] := hD
          refine lv_iconst (v := nI 0) hx hb dX8_key_68 (by decide) ?_
          refine lv_istore (lv' := [(4, .int (nI 0)), (3, .int (nI 1)), (2, .int (nI tp)), (0, .ref h), (1, .int (nI 1))]) hx hb dX8_key_69 hl (by decide) rfl (fun ls hl => ?_)
          refine w_loop (ι := Nat) (fun k => tp - k) (fun k => k ≤ tp) (fun k => [(a 27, .inl (G.2.2.1, 400, .inl ft)), (a 33, .inl (G.2.2.1, 32, .inl (fl k (fun j_ => bN (ft j_)) fk))), (h, .inr (7, mO a rd mn 0 os (nI 1) tp))]) (fun k => [(4, .int (nI k)), (3, .int (nI 1)), (2, .int (nI tp)), (0, .ref h), (1, .int (nI 1))]) 0 (by omega) (by simp only [fl_0]; exact hP) (by simp only [fl_0]; exact hD) hS hl ?_
          intro k H locs ls hk hP hD hS hl ih
          have hk : k ≤ tp := hk
          have hP : va_P G.1 vwCl [(a 27, .inl (G.2.2.1, 400, .inl ft)), (a 33, .inl (G.2.2.1, 32, .inl (fl k (fun j_ => bN (ft j_)) fk))), (h, .inr (7, mO a rd mn 0 os (nI 1) tp))] H := hP
          have hD : va_D A [(a 27, .inl (G.2.2.1, 400, .inl ft)), (a 33, .inl (G.2.2.1, 32, .inl (fl k (fun j_ => bN (ft j_)) fk))), (h, .inr (7, mO a rd mn 0 os (nI 1) tp))] := hD
          have hl : lv_has ls 5 [(4, .int (nI k)), (3, .int (nI 1)), (2, .int (nI tp)), (0, .ref h), (1, .int (nI 1))] := hl
          refine lv_iload hx hb dX8_key_71 (lv_at hl 0 rfl) ?_
          refine lv_iload_n hx hb dX8_key_73 rfl (lv_at hl 2 rfl) ?_
          refine w_icmpN_ge (tgt := 97) hx hb (by omega) (by omega) dX8_key_74 (by decide) (fun h5 => ?_) (fun h5 => ?_)
          · obtain rfl : tp = k := Eq.symm (show k = tp from by omega)
            refine lv_iconst (v := nI 1) hx hb dX8_key_97 (by decide) ?_
            exact hret (nI 1) () H _ 98 ls dX8_key_98 (rfl) (hP.sub [2, 0, 1] rfl) (hD.sub [2, 0, 1] (by decide) rfl) hS
          · refine lv_aload_n hx hb dX8_key_77 rfl (lv_at hl 3 rfl) ?_
            refine va_get (D := G.1) (ci := 7) (v := .ref (a 33)) (C := RX8) (T := TX8) (N := 35) hx hb hts hinX8 hown hK hP 2 rfl rfl 33 (by decide) (hts (.fieldLink RX8 236 "CipherBoxModel" "key" "[B") (by decide +kernel)) (fun _ h9 => h9) rfl dX8_key_78 ?_
            refine lv_iload hx hb dX8_key_81 (lv_at hl 0 rfl) ?_
            refine lv_aload_n hx hb dX8_key_83 rfl (lv_at hl 3 rfl) ?_
            refine va_get (D := G.1) (ci := 7) (v := .ref (a 27)) (C := RX8) (T := TX8) (N := 35) hx hb hts hinX8 hown hK hP 2 rfl rfl 27 (by decide) (hts (.fieldLink RX8 227 "CipherBoxModel" "tape" "[B") (by decide +kernel)) (fun _ h9 => h9) rfl dX8_key_84 ?_
            refine lv_iload hx hb dX8_key_87 (lv_at hl 0 rfl) ?_
            refine w_bald hx hb hK hP 0 rfl (by omega) (by omega) dX8_key_89 ?_
            refine w_bast hx hb hK hP hD hS 1 rfl (by omega) (by omega) (fl (k + 1) (fun j_ => bN (ft j_)) fk) (fl_s rfl) dX8_key_90 (fun H locs hP hD hS => ?_)
            have hP : va_P G.1 vwCl [(a 27, .inl (G.2.2.1, 400, .inl ft)), (a 33, .inl (G.2.2.1, 32, .inl (fl (k + 1) (fun j_ => bN (ft j_)) fk))), (h, .inr (7, mO a rd mn 0 os (nI 1) tp))] H := hP
            have hD : va_D A [(a 27, .inl (G.2.2.1, 400, .inl ft)), (a 33, .inl (G.2.2.1, 32, .inl (fl (k + 1) (fun j_ => bN (ft j_)) fk))), (h, .inr (7, mO a rd mn 0 os (nI 1) tp))] := hD
            refine lv_iinc (v := nI (k + 1)) (lv' := [(4, .int (nI (k + 1))), (3, .int (nI 1)), (2, .int (nI tp)), (0, .ref h), (1, .int (nI 1))]) hx hb dX8_key_91 hl (k := 0) rfl (nI_add k 1) (by decide) rfl (fun ls hl => ?_)
            refine lv_goto (tgt := 71) hx hb dX8_key_94 (by decide) ?_
            exact ih (k + 1) H _ _ (by omega) (by omega) hP hD hS (lv_sub hl [0, 1, 2, 3, 4] rfl)
        · exact absurd h4 (by decide)
      · refine lv_iload_n hx hb dX8_key_34 rfl (lv_at hl 0 rfl) ?_
        refine lv_bipush (v := nI 24) hx hb dX8_key_35 (by decide) ?_
        refine w_icmpN_eq (tgt := 46) hx hb (by omega) (by omega) dX8_key_37 (by decide) (fun h6 => ?_) (fun h6 => ?_)
        · refine lv_iconst (v := nI 1) hx hb dX8_key_46 (by decide) ?_
          refine lv_goto (tgt := 51) hx hb dX8_key_47 (by decide) ?_
          refine lv_istore_n (lv' := [(3, .int (nI 1)), (2, .int (nI tp)), (0, .ref h), (1, .int (nI 1))]) hx hb dX8_key_51 rfl hl (by decide) rfl (fun ls hl => ?_)
          refine lv_iload_n hx hb dX8_key_52 rfl (lv_at hl 0 rfl) ?_
          refine w_ifN_ne (tgt := 58) hx hb (by omega) dX8_key_53 (by decide) (fun h7 => ?_) (fun h7 => ?_)
          · refine lv_aload_n hx hb dX8_key_58 rfl (lv_at hl 2 rfl) ?_
            refine lv_iload_n hx hb dX8_key_59 rfl (lv_at hl 3 rfl) ?_
            refine va_put (D := G.1) (ci := 7) (v := .int (nI 1)) (ty := .int) (C := RX8) (T := TX8) (N := 35) hx hb hts hinX8 tyX8 tyX8_ok nmX8 hown hK hP hD hS 2 rfl rfl 31 (by decide) (hts (.fieldLink RX8 233 "CipherBoxModel" "type" "I") (by decide +kernel)) (fun _ h9 => h9) rfl (by decide +kernel) rfl rfl (Nat.le_of_ble_eq_true rfl) dX8_key_60 (fun H locs hP hD hS => ?_)
            have hP : va_P G.1 vwCl [(a 27, .inl (G.2.2.1, 400, .inl ft)), (a 33, .inl (G.2.2.1, 32, .inl fk)), (h, .inr (7, mO a rd mn 0 os (nI 1) sz))] H := hP
            have hD : va_D A [(a 27, .inl (G.2.2.1, 400, .inl ft)), (a 33, .inl (G.2.2.1, 32, .inl fk)), (h, .inr (7, mO a rd mn 0 os (nI 1) sz))] := hD
            refine lv_aload_n hx hb dX8_key_63 rfl (lv_at hl 2 rfl) ?_
            refine lv_iload_n hx hb dX8_key_64 rfl (lv_at hl 1 rfl) ?_
            refine va_put (D := G.1) (ci := 7) (v := .int (nI tp)) (ty := .int) (C := RX8) (T := TX8) (N := 35) hx hb hts hinX8 tyX8 tyX8_ok nmX8 hown hK hP hD hS 2 rfl rfl 32 (by decide) (hts (.fieldLink RX8 258 "CipherBoxModel" "size" "I") (by decide +kernel)) (fun _ h9 => h9) rfl (by decide +kernel) rfl rfl (Nat.le_of_ble_eq_true rfl) dX8_key_65 (fun H locs hP hD hS => ?_)
            have hP : va_P G.1 vwCl [(a 27, .inl (G.2.2.1, 400, .inl ft)), (a 33, .inl (G.2.2.1, 32, .inl fk)), (h, .inr (7, mO a rd mn 0 os (nI 1) tp))] H := hP
            have hD : va_D A [(a 27, .inl (G.2.2.1, 400, .inl ft)), (a 33, .inl (G.2.2.1, 32, .inl fk)), (h, .inr (7, mO a rd mn 0 os (nI 1) tp))] := hD
            refine lv_iconst (v := nI 0) hx hb dX8_key_68 (by decide) ?_
            refine lv_istore (lv' := [(4, .int (nI 0)), (3, .int (nI 1)), (2, .int (nI tp)), (0, .ref h), (1, .int (nI 1))]) hx hb dX8_key_69 hl (by decide) rfl (fun ls hl => ?_)
            refine w_loop (ι := Nat) (fun k => tp - k) (fun k => k ≤ tp) (fun k => [(a 27, .inl (G.2.2.1, 400, .inl ft)), (a 33, .inl (G.2.2.1, 32, .inl (fl k (fun j_ => bN (ft j_)) fk))), (h, .inr (7, mO a rd mn 0 os (nI 1) tp))]) (fun k => [(4, .int (nI k)), (3, .int (nI 1)), (2, .int (nI tp)), (0, .ref h), (1, .int (nI 1))]) 0 (by omega) (by simp only [fl_0]; exact hP) (by simp only [fl_0]; exact hD) hS hl ?_
            intro k H locs ls hk hP hD hS hl ih
            have hk : k ≤ tp := hk
            have hP : va_P G.1 vwCl [(a 27, .inl (G.2.2.1, 400, .inl ft)), (a 33, .inl (G.2.2.1, 32, .inl (fl k (fun j_ => bN (ft j_)) fk))), (h, .inr (7, mO a rd mn 0 os (nI 1) tp))] H := hP
            have hD : va_D A [(a 27, .inl (G.2.2.1, 400, .inl ft)), (a 33, .inl (G.2.2.1, 32, .inl (fl k (fun j_ => bN (ft j_)) fk))), (h, .inr (7, mO a rd mn 0 os (nI 1) tp))] := hD
            have hl : lv_has ls 5 [(4, .int (nI k)), (3, .int (nI 1)), (2, .int (nI tp)), (0, .ref h), (1, .int (nI 1))] := hl
            refine lv_iload hx hb dX8_key_71 (lv_at hl 0 rfl) ?_
            refine lv_iload_n hx hb dX8_key_73 rfl (lv_at hl 2 rfl) ?_
            refine w_icmpN_ge (tgt := 97) hx hb (by omega) (by omega) dX8_key_74 (by decide) (fun h8 => ?_) (fun h8 => ?_)
            · obtain rfl : tp = k := Eq.symm (show k = tp from by omega)
              refine lv_iconst (v := nI 1) hx hb dX8_key_97 (by decide) ?_
              exact hret (nI 1) () H _ 98 ls dX8_key_98 (rfl) (hP.sub [2, 0, 1] rfl) (hD.sub [2, 0, 1] (by decide) rfl) hS
            · refine lv_aload_n hx hb dX8_key_77 rfl (lv_at hl 3 rfl) ?_
              refine va_get (D := G.1) (ci := 7) (v := .ref (a 33)) (C := RX8) (T := TX8) (N := 35) hx hb hts hinX8 hown hK hP 2 rfl rfl 33 (by decide) (hts (.fieldLink RX8 236 "CipherBoxModel" "key" "[B") (by decide +kernel)) (fun _ h9 => h9) rfl dX8_key_78 ?_
              refine lv_iload hx hb dX8_key_81 (lv_at hl 0 rfl) ?_
              refine lv_aload_n hx hb dX8_key_83 rfl (lv_at hl 3 rfl) ?_
              refine va_get (D := G.1) (ci := 7) (v := .ref (a 27)) (C := RX8) (T := TX8) (N := 35) hx hb hts hinX8 hown hK hP 2 rfl rfl 27 (by decide) (hts (.fieldLink RX8 227 "CipherBoxModel" "tape" "[B") (by decide +kernel)) (fun _ h9 => h9) rfl dX8_key_84 ?_
              refine lv_iload hx hb dX8_key_87 (lv_at hl 0 rfl) ?_
              refine w_bald hx hb hK hP 0 rfl (by omega) (by omega) dX8_key_89 ?_
              refine w_bast hx hb hK hP hD hS 1 rfl (by omega) (by omega) (fl (k + 1) (fun j_ => bN (ft j_)) fk) (fl_s rfl) dX8_key_90 (fun H locs hP hD hS => ?_)
              have hP : va_P G.1 vwCl [(a 27, .inl (G.2.2.1, 400, .inl ft)), (a 33, .inl (G.2.2.1, 32, .inl (fl (k + 1) (fun j_ => bN (ft j_)) fk))), (h, .inr (7, mO a rd mn 0 os (nI 1) tp))] H := hP
              have hD : va_D A [(a 27, .inl (G.2.2.1, 400, .inl ft)), (a 33, .inl (G.2.2.1, 32, .inl (fl (k + 1) (fun j_ => bN (ft j_)) fk))), (h, .inr (7, mO a rd mn 0 os (nI 1) tp))] := hD
              refine lv_iinc (v := nI (k + 1)) (lv' := [(4, .int (nI (k + 1))), (3, .int (nI 1)), (2, .int (nI tp)), (0, .ref h), (1, .int (nI 1))]) hx hb dX8_key_91 hl (k := 0) rfl (nI_add k 1) (by decide) rfl (fun ls hl => ?_)
              refine lv_goto (tgt := 71) hx hb dX8_key_94 (by decide) ?_
              exact ih (k + 1) H _ _ (by omega) (by omega) hP hD hS (lv_sub hl [0, 1, 2, 3, 4] rfl)
          · exact absurd h7 (by decide)
        · refine lv_iload_n hx hb dX8_key_40 rfl (lv_at hl 0 rfl) ?_
          refine lv_bipush (v := nI 32) hx hb dX8_key_41 (by decide) ?_
          refine w_icmpN_ne (tgt := 50) hx hb (by omega) (by omega) dX8_key_43 (by decide) (fun h9 => ?_) (fun h9 => ?_)
          · exact absurd h9 (by omega)
          · refine lv_iconst (v := nI 1) hx hb dX8_key_46 (by decide) ?_
            refine lv_goto (tgt := 51) hx hb dX8_key_47 (by decide) ?_
            refine lv_istore_n (lv' := [(3, .int (nI 1)), (2, .int (nI tp)), (0, .ref h), (1, .int (nI 1))]) hx hb dX8_key_51 rfl hl (by decide) rfl (fun ls hl => ?_)
            refine lv_iload_n hx hb dX8_key_52 rfl (lv_at hl 0 rfl) ?_
            refine w_ifN_ne (tgt := 58) hx hb (by omega) dX8_key_53 (by decide) (fun h10 => ?_) (fun h10 => ?_)
            · refine lv_aload_n hx hb dX8_key_58 rfl (lv_at hl 2 rfl) ?_
              refine lv_iload_n hx hb dX8_key_59 rfl (lv_at hl 3 rfl) ?_
              refine va_put (D := G.1) (ci := 7) (v := .int (nI 1)) (ty := .int) (C := RX8) (T := TX8) (N := 35) hx hb hts hinX8 tyX8 tyX8_ok nmX8 hown hK hP hD hS 2 rfl rfl 31 (by decide) (hts (.fieldLink RX8 233 "CipherBoxModel" "type" "I") (by decide +kernel)) (fun _ h9 => h9) rfl (by decide +kernel) rfl rfl (Nat.le_of_ble_eq_true rfl) dX8_key_60 (fun H locs hP hD hS => ?_)
              have hP : va_P G.1 vwCl [(a 27, .inl (G.2.2.1, 400, .inl ft)), (a 33, .inl (G.2.2.1, 32, .inl fk)), (h, .inr (7, mO a rd mn 0 os (nI 1) sz))] H := hP
              have hD : va_D A [(a 27, .inl (G.2.2.1, 400, .inl ft)), (a 33, .inl (G.2.2.1, 32, .inl fk)), (h, .inr (7, mO a rd mn 0 os (nI 1) sz))] := hD
              refine lv_aload_n hx hb dX8_key_63 rfl (lv_at hl 2 rfl) ?_
              refine lv_iload_n hx hb dX8_key_64 rfl (lv_at hl 1 rfl) ?_
              refine va_put (D := G.1) (ci := 7) (v := .int (nI tp)) (ty := .int) (C := RX8) (T := TX8) (N := 35) hx hb hts hinX8 tyX8 tyX8_ok nmX8 hown hK hP hD hS 2 rfl rfl 32 (by decide) (hts (.fieldLink RX8 258 "CipherBoxModel" "size" "I") (by decide +kernel)) (fun _ h9 => h9) rfl (by decide +kernel) rfl rfl (Nat.le_of_ble_eq_true rfl) dX8_key_65 (fun H locs hP hD hS => ?_)
              have hP : va_P G.1 vwCl [(a 27, .inl (G.2.2.1, 400, .inl ft)), (a 33, .inl (G.2.2.1, 32, .inl fk)), (h, .inr (7, mO a rd mn 0 os (nI 1) tp))] H := hP
              have hD : va_D A [(a 27, .inl (G.2.2.1, 400, .inl ft)), (a 33, .inl (G.2.2.1, 32, .inl fk)), (h, .inr (7, mO a rd mn 0 os (nI 1) tp))] := hD
              refine lv_iconst (v := nI 0) hx hb dX8_key_68 (by decide) ?_
              refine lv_istore (lv' := [(4, .int (nI 0)), (3, .int (nI 1)), (2, .int (nI tp)), (0, .ref h), (1, .int (nI 1))]) hx hb dX8_key_69 hl (by decide) rfl (fun ls hl => ?_)
              refine w_loop (ι := Nat) (fun k => tp - k) (fun k => k ≤ tp) (fun k => [(a 27, .inl (G.2.2.1, 400, .inl ft)), (a 33, .inl (G.2.2.1, 32, .inl (fl k (fun j_ => bN (ft j_)) fk))), (h, .inr (7, mO a rd mn 0 os (nI 1) tp))]) (fun k => [(4, .int (nI k)), (3, .int (nI 1)), (2, .int (nI tp)), (0, .ref h), (1, .int (nI 1))]) 0 (by omega) (by simp only [fl_0]; exact hP) (by simp only [fl_0]; exact hD) hS hl ?_
              intro k H locs ls hk hP hD hS hl ih
              have hk : k ≤ tp := hk
              have hP : va_P G.1 vwCl [(a 27, .inl (G.2.2.1, 400, .inl ft)), (a 33, .inl (G.2.2.1, 32, .inl (fl k (fun j_ => bN (ft j_)) fk))), (h, .inr (7, mO a rd mn 0 os (nI 1) tp))] H := hP
              have hD : va_D A [(a 27, .inl (G.2.2.1, 400, .inl ft)), (a 33, .inl (G.2.2.1, 32, .inl (fl k (fun j_ => bN (ft j_)) fk))), (h, .inr (7, mO a rd mn 0 os (nI 1) tp))] := hD
              have hl : lv_has ls 5 [(4, .int (nI k)), (3, .int (nI 1)), (2, .int (nI tp)), (0, .ref h), (1, .int (nI 1))] := hl
              refine lv_iload hx hb dX8_key_71 (lv_at hl 0 rfl) ?_
              refine lv_iload_n hx hb dX8_key_73 rfl (lv_at hl 2 rfl) ?_
              refine w_icmpN_ge (tgt := 97) hx hb (by omega) (by omega) dX8_key_74 (by decide) (fun h11 => ?_) (fun h11 => ?_)
              · obtain rfl : tp = k := Eq.symm (show k = tp from by omega)
                refine lv_iconst (v := nI 1) hx hb dX8_key_97 (by decide) ?_
                exact hret (nI 1) () H _ 98 ls dX8_key_98 (rfl) (hP.sub [2, 0, 1] rfl) (hD.sub [2, 0, 1] (by decide) rfl) hS
              · refine lv_aload_n hx hb dX8_key_77 rfl (lv_at hl 3 rfl) ?_
                refine va_get (D := G.1) (ci := 7) (v := .ref (a 33)) (C := RX8) (T := TX8) (N := 35) hx hb hts hinX8 hown hK hP 2 rfl rfl 33 (by decide) (hts (.fieldLink RX8 236 "CipherBoxModel" "key" "[B") (by decide +kernel)) (fun _ h9 => h9) rfl dX8_key_78 ?_
                refine lv_iload hx hb dX8_key_81 (lv_at hl 0 rfl) ?_
                refine lv_aload_n hx hb dX8_key_83 rfl (lv_at hl 3 rfl) ?_
                refine va_get (D := G.1) (ci := 7) (v := .ref (a 27)) (C := RX8) (T := TX8) (N := 35) hx hb hts hinX8 hown hK hP 2 rfl rfl 27 (by decide) (hts (.fieldLink RX8 227 "CipherBoxModel" "tape" "[B") (by decide +kernel)) (fun _ h9 => h9) rfl dX8_key_84 ?_
                refine lv_iload hx hb dX8_key_87 (lv_at hl 0 rfl) ?_
                refine w_bald hx hb hK hP 0 rfl (by omega) (by omega) dX8_key_89 ?_
                refine w_bast hx hb hK hP hD hS 1 rfl (by omega) (by omega) (fl (k + 1) (fun j_ => bN (ft j_)) fk) (fl_s rfl) dX8_key_90 (fun H locs hP hD hS => ?_)
                have hP : va_P G.1 vwCl [(a 27, .inl (G.2.2.1, 400, .inl ft)), (a 33, .inl (G.2.2.1, 32, .inl (fl (k + 1) (fun j_ => bN (ft j_)) fk))), (h, .inr (7, mO a rd mn 0 os (nI 1) tp))] H := hP
                have hD : va_D A [(a 27, .inl (G.2.2.1, 400, .inl ft)), (a 33, .inl (G.2.2.1, 32, .inl (fl (k + 1) (fun j_ => bN (ft j_)) fk))), (h, .inr (7, mO a rd mn 0 os (nI 1) tp))] := hD
                refine lv_iinc (v := nI (k + 1)) (lv' := [(4, .int (nI (k + 1))), (3, .int (nI 1)), (2, .int (nI tp)), (0, .ref h), (1, .int (nI 1))]) hx hb dX8_key_91 hl (k := 0) rfl (nI_add k 1) (by decide) rfl (fun ls hl => ?_)
                refine lv_goto (tgt := 71) hx hb dX8_key_94 (by decide) ?_
                exact ih (k + 1) H _ _ (by omega) (by omega) hP hD hS (lv_sub hl [0, 1, 2, 3, 4] rfl)
            · exact absurd h10 (by decide)
  · exact absurd h1 (by decide)

set_option maxHeartbeats 4000000 in
set_option maxRecDepth 100000 in
theorem c_m_key_no (l : Launch) (G : wG) (h : Nat) (a : Nat → Nat) (rd mn tp os : Nat) (ty : Int32) (sz : Nat) (v : Int32) (ht : ¬ (v = 0 ∧ tp = 16) ∧ ¬ (v = nI 1 ∧ (tp = 16 ∨ tp = 24 ∨ tp = 32))) (ht2 : tp ≤ 400) : CMi l G yX8_key wsX8_key 1 21 [.ref h, .int v] [(h, .inr (7, mO a rd mn tp os ty sz))] (fun r (_ : Unit) => r = (-1)) (fun _ => [(h, .inr (7, mO a rd mn 0 os ty sz))]) := by
  refine CMi.start cX8_key 5 .int (by decide) rfl (Nat.le_of_ble_eq_true rfl) (fun r u h => vp_nar_int r) ?_
  intro p e s m below meth c A Q ls H locs hx hb hml hown hts hK hT hA hP hD hS hl hret
  have hl : lv_has ls 5 [(0, .ref h), (1, .int v)] := hl
  refine lv_aload_n hx hb dX8_key_0 rfl (lv_at hl 0 rfl) ?_
  refine w_fini (wr := []) (va_runV (As := []) (rest := []) ⟨hx, hb, hml, hown, hts⟩ (c_m_use l G h a rd mn tp os ty sz H.size) (cwV 0 hts gX8_key_X8_use rfl rfl rfl (by decide +kernel) ⟨Nat.le_of_ble_eq_true rfl, Nat.le_of_ble_eq_true rfl⟩) ⟨wPre.blind, (va_recv hK hP (ci := 7) (q0 := 0) rfl rfl), (fun U hU hW => ⟨rfl, w_pre hK hT hA hP hD hS (isC := [0]) (by decide) rfl U hU hW⟩)⟩ rfl rfl hl.1 rfl (lv_room (Nat.le_of_ble_eq_true rfl)) dX8_key_1 ⟨Nat.le_of_ble_eq_true rfl, Nat.le_of_ble_eq_true rfl⟩) hA hP hD hS [0] [] rfl rfl (by decide) (by decide) (fun r u H locs hpost hP hD hS => ?_)
  obtain rfl := hpost
  have hP : va_P G.1 vwCl [(h, .inr (7, mO a rd mn 0 os ty sz))] H := hP
  have hD : va_D A [(h, .inr (7, mO a rd mn 0 os ty sz))] := hD
  refine lv_istore_n (lv' := [(2, .int (nI tp)), (0, .ref h), (1, .int v)]) hx hb dX8_key_4 rfl hl (by decide) rfl (fun ls hl => ?_)
  refine lv_iload_n hx hb dX8_key_5 rfl (lv_at hl 2 rfl) ?_
  refine lv_if_ne (tgt := 23) hx hb dX8_key_6 (by decide) (fun h1 => ?_) (fun h1 => ?_)
  · refine lv_iload_n hx hb dX8_key_23 rfl (lv_at hl 2 rfl) ?_
    refine lv_iconst (v := nI 1) hx hb dX8_key_24 (by decide) ?_
    refine lv_icmp_ne (tgt := 50) hx hb dX8_key_25 (by decide) (fun h2 => ?_) (fun h2 => ?_)
    · refine lv_iconst (v := nI 0) hx hb dX8_key_50 (by decide) ?_
      refine lv_istore_n (lv' := [(3, .int (nI 0)), (2, .int (nI tp)), (0, .ref h), (1, .int v)]) hx hb dX8_key_51 rfl hl (by decide) rfl (fun ls hl => ?_)
      refine lv_iload_n hx hb dX8_key_52 rfl (lv_at hl 0 rfl) ?_
      refine w_ifN_ne (tgt := 58) hx hb (by omega) dX8_key_53 (by decide) (fun h3 => ?_) (fun h3 => ?_)
      · exact absurd rfl h3
      · refine lv_iconst (v := (-1)) hx hb dX8_key_56 (by decide) ?_
        exact hret (-1) () H _ 57 ls dX8_key_57 (rfl) (hP.sub [0] rfl) (hD.sub [0] (by decide) rfl) hS
    · refine lv_iload_n hx hb dX8_key_28 rfl (lv_at hl 0 rfl) ?_
      refine lv_bipush (v := nI 16) hx hb dX8_key_29 (by decide) ?_
      refine w_icmpN_eq (tgt := 46) hx hb (by omega) (by omega) dX8_key_31 (by decide) (fun h4 => ?_) (fun h4 => ?_)
      · exact (ht.2 ⟨by assumption, by omega⟩).elim
      · refine lv_iload_n hx hb dX8_key_34 rfl (lv_at hl 0 rfl) ?_
        refine lv_bipush (v := nI 24) hx hb dX8_key_35 (by decide) ?_
        refine w_icmpN_eq (tgt := 46) hx hb (by omega) (by omega) dX8_key_37 (by decide) (fun h5 => ?_) (fun h5 => ?_)
        · exact (ht.2 ⟨by assumption, by omega⟩).elim
        · refine lv_iload_n hx hb dX8_key_40 rfl (lv_at hl 0 rfl) ?_
          refine lv_bipush (v := nI 32) hx hb dX8_key_41 (by decide) ?_
          refine w_icmpN_ne (tgt := 50) hx hb (by omega) (by omega) dX8_key_43 (by decide) (fun h6 => ?_) (fun h6 => ?_)
          · refine lv_iconst (v := nI 0) hx hb dX8_key_50 (by decide) ?_
            refine lv_istore_n (lv' := [(3, .int (nI 0)), (2, .int (nI tp)), (0, .ref h), (1, .int v)]) hx hb dX8_key_51 rfl hl (by decide) rfl (fun ls hl => ?_)
            refine lv_iload_n hx hb dX8_key_52 rfl (lv_at hl 0 rfl) ?_
            refine w_ifN_ne (tgt := 58) hx hb (by omega) dX8_key_53 (by decide) (fun h7 => ?_) (fun h7 => ?_)
            · exact absurd rfl h7
            · refine lv_iconst (v := (-1)) hx hb dX8_key_56 (by decide) ?_
              exact hret (-1) () H _ 57 ls dX8_key_57 (rfl) (hP.sub [0] rfl) (hD.sub [0] (by decide) rfl) hS
          · exact (ht.2 ⟨by assumption, by omega⟩).elim
  · refine lv_iload_n hx hb dX8_key_9 rfl (lv_at hl 0 rfl) ?_
    refine lv_bipush (v := nI 16) hx hb dX8_key_10 (by decide) ?_
    refine w_icmpN_ne (tgt := 19) hx hb (by omega) (by omega) dX8_key_12 (by decide) (fun h8 => ?_) (fun h8 => ?_)
    · refine lv_iconst (v := nI 0) hx hb dX8_key_19 (by decide) ?_
      refine lv_goto (tgt := 51) hx hb dX8_key_20 (by decide) ?_
      refine lv_istore_n (lv' := [(3, .int (nI 0)), (2, .int (nI tp)), (0, .ref h), (1, .int v)]) hx hb dX8_key_51 rfl hl (by decide) rfl (fun ls hl => ?_)
      refine lv_iload_n hx hb dX8_key_52 rfl (lv_at hl 0 rfl) ?_
      refine w_ifN_ne (tgt := 58) hx hb (by omega) dX8_key_53 (by decide) (fun h9 => ?_) (fun h9 => ?_)
      · exact absurd rfl h9
      · refine lv_iconst (v := (-1)) hx hb dX8_key_56 (by decide) ?_
        exact hret (-1) () H _ 57 ls dX8_key_57 (rfl) (hP.sub [0] rfl) (hD.sub [0] (by decide) rfl) hS
    · exact (ht.1 ⟨by assumption, h8⟩).elim

set_option maxHeartbeats 4000000 in
set_option maxRecDepth 100000 in
theorem c_m_pad_ok (l : Launch) (G : wG) (h : Nat) (a : Nat → Nat) (rd mn tp os : Nat) (ty : Int32) (sz : Nat) (ft fo : Nat → Int32) (B : Nat) (hB : B = 8 ∨ B = 16) (ht : (tp / B + 1) * B ≤ 400) (ht2 : tp ≤ 400) : CMi l G yX8_pad wsX8_pad 1 21 [.ref h, .int (nI B)] [(h, .inr (7, mO a rd mn tp os ty sz)), (a 27, .inl (G.2.2.1, 400, .inl ft)), (a 29, .inl (G.2.2.1, 416, .inl fo))] (fun r (_ : Unit) => r = nI ((tp / B + 1) * B)) (fun _ => [(h, .inr (7, mO a rd mn 0 ((tp / B + 1) * B) ty sz)), (a 27, .inl (G.2.2.1, 400, .inl ft)), (a 29, .inl (G.2.2.1, 416, .inl (fl ((tp / B + 1) * B) (mPd tp ft) fo)))]) := by
  refine CMi.start cX8_pad 5 .int (by decide) rfl (Nat.le_of_ble_eq_true rfl) (fun r u h => vp_nar_int r) ?_
  intro p e s m below meth c A Q ls H locs hx hb hml hown hts hK hT hA hP hD hS hl hret
  have hinX8 : ∀ w ∈ u_ws RX8 TX8 35, w ∈ wsX8_pad := by decide +kernel
  have hl : lv_has ls 5 [(0, .ref h), (1, .int (nI B))] := hl
  have hB1 : 0 < B := by omega
  have hB2 : B < 2 ^ 31 := by omega
  have hBe : ¬ (B ≠ 8 ∧ B ≠ 16) := by omega
  refine lv_aload_n hx hb dX8_pad_0 rfl (lv_at hl 0 rfl) ?_
  refine w_fini (wr := [(a 27, .inl (G.2.2.1, 400, .inl ft)), (a 29, .inl (G.2.2.1, 416, .inl fo))]) (va_runV (As := []) (rest := []) ⟨hx, hb, hml, hown, hts⟩ (c_m_use l G h a rd mn tp os ty sz H.size) (cwV 0 hts gX8_pad_X8_use rfl rfl rfl (by decide +kernel) ⟨Nat.le_of_ble_eq_true rfl, Nat.le_of_ble_eq_true rfl⟩) ⟨wPre.blind, (va_recv hK hP (ci := 7) (q0 := 0) rfl rfl), (fun U hU hW => ⟨rfl, w_pre hK hT hA hP hD hS (isC := [0]) (by decide) rfl U hU hW⟩)⟩ rfl rfl hl.1 rfl (lv_room (Nat.le_of_ble_eq_true rfl)) dX8_pad_1 ⟨Nat.le_of_ble_eq_true rfl, Nat.le_of_ble_eq_true rfl⟩) hA hP hD hS [0] [1, 2] rfl rfl (by decide) (by decide) (fun r u H locs hpost hP hD hS => ?_)
  obtain rfl := hpost
  have hP : va_P G.1 vwCl [(a 27, .inl (G.2.2.1, 400, .inl ft)), (a 29, .inl (G.2.2.1, 416, .inl fo)), (h, .inr (7, mO a rd mn 0 os ty sz))] H := hP
  have hD : va_D A [(a 27, .inl (G.2.2.1, 400, .inl ft)), (a 29, .inl (G.2.2.1, 416, .inl fo)), (h, .inr (7, mO a rd mn 0 os ty sz))] := hD
  refine lv_istore_n (lv' := [(2, .int (nI tp)), (0, .ref h), (1, .int (nI B))]) hx hb dX8_pad_4 rfl hl (by decide) rfl (fun ls hl => ?_)
  refine lv_iload_n hx hb dX8_pad_5 rfl (lv_at hl 2 rfl) ?_
  refine lv_bipush (v := nI 8) hx hb dX8_pad_6 (by decide) ?_
  refine w_icmpN_eq (tgt := 19) hx hb (by omega) (by omega) dX8_pad_8 (by decide) (fun h1 => ?_) (fun h1 => ?_)
  · refine lv_iload_n hx hb dX8_pad_19 rfl (lv_at hl 0 rfl) ?_
    refine lv_iload_n hx hb dX8_pad_20 rfl (lv_at hl 2 rfl) ?_
    refine w_idivN hx hb (by omega) (by omega) (by omega) dX8_pad_21 ?_
    refine lv_iconst (v := nI 1) hx hb dX8_pad_22 (by decide) ?_
    refine w_iaddN hx hb dX8_pad_23 ?_
    refine lv_iload_n hx hb dX8_pad_24 rfl (lv_at hl 2 rfl) ?_
    refine w_imulN hx hb dX8_pad_25 ?_
    refine lv_istore_n (lv' := [(3, .int (nI (((tp / B) + 1) * B))), (2, .int (nI tp)), (0, .ref h), (1, .int (nI B))]) hx hb dX8_pad_26 rfl hl (by decide) rfl (fun ls hl => ?_)
    refine lv_iload_n hx hb dX8_pad_27 rfl (lv_at hl 0 rfl) ?_
    refine lv_sipush (v := nI 400) hx hb dX8_pad_28 (by decide) ?_
    refine w_icmpN_le (tgt := 36) hx hb (by omega) (by omega) dX8_pad_31 (by decide) (fun h2 => ?_) (fun h2 => ?_)
    · refine lv_iconst (v := nI 0) hx hb dX8_pad_36 (by decide) ?_
      refine lv_istore (lv' := [(4, .int (nI 0)), (3, .int (nI (((tp / B) + 1) * B))), (2, .int (nI tp)), (0, .ref h), (1, .int (nI B))]) hx hb dX8_pad_37 hl (by decide) rfl (fun ls hl => ?_)
      refine w_loop (ι := Nat) (fun k => (tp / B + 1) * B - k) (fun k => k ≤ (tp / B + 1) * B) (fun k => [(a 27, .inl (G.2.2.1, 400, .inl ft)), (a 29, .inl (G.2.2.1, 416, .inl (fl k (mPd tp ft) fo))), (h, .inr (7, mO a rd mn 0 os ty sz))]) (fun k => [(4, .int (nI k)), (3, .int (nI (((tp / B) + 1) * B))), (2, .int (nI tp)), (0, .ref h), (1, .int (nI B))]) 0 (Nat.zero_le _) (by simp only [fl_0]; exact hP) (by simp only [fl_0]; exact hD) hS hl ?_
      intro k H locs ls hk hP hD hS hl ih
      have hk : k ≤ (tp / B + 1) * B := hk
      have hP : va_P G.1 vwCl [(a 27, .inl (G.2.2.1, 400, .inl ft)), (a 29, .inl (G.2.2.1, 416, .inl (fl k (mPd tp ft) fo))), (h, .inr (7, mO a rd mn 0 os ty sz))] H := hP
      have hD : va_D A [(a 27, .inl (G.2.2.1, 400, .inl ft)), (a 29, .inl (G.2.2.1, 416, .inl (fl k (mPd tp ft) fo))), (h, .inr (7, mO a rd mn 0 os ty sz))] := hD
      have hl : lv_has ls 5 [(4, .int (nI k)), (3, .int (nI (((tp / B) + 1) * B))), (2, .int (nI tp)), (0, .ref h), (1, .int (nI B))] := hl
      refine lv_iload hx hb dX8_pad_39 (lv_at hl 0 rfl) ?_
      refine lv_iload_n hx hb dX8_pad_41 rfl (lv_at hl 1 rfl) ?_
      refine w_icmpN_ge (tgt := 86) hx hb (by omega) (by omega) dX8_pad_42 (by decide) (fun h3 => ?_) (fun h3 => ?_)
      · obtain rfl : (tp / B + 1) * B = k := Eq.symm (show k = (tp / B + 1) * B from by omega)
        refine lv_aload_n hx hb dX8_pad_86 rfl (lv_at hl 3 rfl) ?_
        refine lv_iload_n hx hb dX8_pad_87 rfl (lv_at hl 1 rfl) ?_
        refine va_put (D := G.1) (ci := 7) (v := .int (nI (((tp / B) + 1) * B))) (ty := .int) (C := RX8) (T := TX8) (N := 35) hx hb hts hinX8 tyX8 tyX8_ok nmX8 hown hK hP hD hS 2 rfl rfl 30 (by decide) (hts (.fieldLink RX8 251 "CipherBoxModel" "outSize" "I") (by decide +kernel)) (fun _ h9 => h9) rfl (by decide +kernel) rfl rfl (Nat.le_of_ble_eq_true rfl) dX8_pad_88 (fun H locs hP hD hS => ?_)
        have hP : va_P G.1 vwCl [(a 27, .inl (G.2.2.1, 400, .inl ft)), (a 29, .inl (G.2.2.1, 416, .inl (fl ((tp / B + 1) * B) (mPd tp ft) fo))), (h, .inr (7, mO a rd mn 0 (((tp / B) + 1) * B) ty sz))] H := hP
        have hD : va_D A [(a 27, .inl (G.2.2.1, 400, .inl ft)), (a 29, .inl (G.2.2.1, 416, .inl (fl ((tp / B + 1) * B) (mPd tp ft) fo))), (h, .inr (7, mO a rd mn 0 (((tp / B) + 1) * B) ty sz))] := hD
        refine lv_iload_n hx hb dX8_pad_91 rfl (lv_at hl 1 rfl) ?_
        exact hret (nI (((tp / B) + 1) * B)) () H _ 92 ls dX8_pad_92 (rfl) (hP.sub [2, 0, 1] rfl) (hD.sub [2, 0, 1] (by decide) rfl) hS
      · refine lv_aload_n hx hb dX8_pad_45 rfl (lv_at hl 3 rfl) ?_
        refine va_get (D := G.1) (ci := 7) (v := .ref (a 29)) (C := RX8) (T := TX8) (N := 35) hx hb hts hinX8 hown hK hP 2 rfl rfl 29 (by decide) (hts (.fieldLink RX8 230 "CipherBoxModel" "out" "[B") (by decide +kernel)) (fun _ h9 => h9) rfl dX8_pad_46 ?_
        refine lv_iload hx hb dX8_pad_49 (lv_at hl 0 rfl) ?_
        refine lv_iload hx hb dX8_pad_51 (lv_at hl 0 rfl) ?_
        refine lv_iload_n hx hb dX8_pad_53 rfl (lv_at hl 2 rfl) ?_
        refine w_icmpN_ge (tgt := 67) hx hb (by omega) (by omega) dX8_pad_54 (by decide) (fun h4 => ?_) (fun h4 => ?_)
        · refine lv_iload hx hb dX8_pad_67 (lv_at hl 0 rfl) ?_
          refine lv_iload_n hx hb dX8_pad_69 rfl (lv_at hl 2 rfl) ?_
          refine w_icmpN_ne (tgt := 78) hx hb (by omega) (by omega) dX8_pad_70 (by decide) (fun h5 => ?_) (fun h5 => ?_)
          · refine lv_iconst (v := nI 0) hx hb dX8_pad_78 (by decide) ?_
            refine w_bast hx hb hK hP hD hS 1 rfl (by omega) (by omega) (fl (k + 1) (mPd tp ft) fo) (fl_s (by first | rw [mPd_1 (by omega)] | rw [mPd_2 (by omega)] | rw [mPd_3 (by omega)])) dX8_pad_79 (fun H locs hP hD hS => ?_)
            have hP : va_P G.1 vwCl [(a 27, .inl (G.2.2.1, 400, .inl ft)), (a 29, .inl (G.2.2.1, 416, .inl (fl (k + 1) (mPd tp ft) fo))), (h, .inr (7, mO a rd mn 0 os ty sz))] H := hP
            have hD : va_D A [(a 27, .inl (G.2.2.1, 400, .inl ft)), (a 29, .inl (G.2.2.1, 416, .inl (fl (k + 1) (mPd tp ft) fo))), (h, .inr (7, mO a rd mn 0 os ty sz))] := hD
            refine lv_iinc (v := nI (k + 1)) (lv' := [(4, .int (nI (k + 1))), (3, .int (nI (((tp / B) + 1) * B))), (2, .int (nI tp)), (0, .ref h), (1, .int (nI B))]) hx hb dX8_pad_80 hl (k := 0) rfl (nI_add k 1) (by decide) rfl (fun ls hl => ?_)
            refine lv_goto (tgt := 39) hx hb dX8_pad_83 (by decide) ?_
            exact ih (k + 1) H _ _ (by omega) (by omega) hP hD hS (lv_sub hl [0, 1, 2, 3, 4] rfl)
          · refine lv_bipush (v := (-128)) hx hb dX8_pad_73 (by decide) ?_
            refine lv_goto (tgt := 79) hx hb dX8_pad_75 (by decide) ?_
            refine w_bast hx hb hK hP hD hS 1 rfl (by omega) (by omega) (fl (k + 1) (mPd tp ft) fo) (fl_s (by first | rw [mPd_1 (by omega)] | rw [mPd_2 (by omega)] | rw [mPd_3 (by omega)])) dX8_pad_79 (fun H locs hP hD hS => ?_)
            have hP : va_P G.1 vwCl [(a 27, .inl (G.2.2.1, 400, .inl ft)), (a 29, .inl (G.2.2.1, 416, .inl (fl (k + 1) (mPd tp ft) fo))), (h, .inr (7, mO a rd mn 0 os ty sz))] H := hP
            have hD : va_D A [(a 27, .inl (G.2.2.1, 400, .inl ft)), (a 29, .inl (G.2.2.1, 416, .inl (fl (k + 1) (mPd tp ft) fo))), (h, .inr (7, mO a rd mn 0 os ty sz))] := hD
            refine lv_iinc (v := nI (k + 1)) (lv' := [(4, .int (nI (k + 1))), (3, .int (nI (((tp / B) + 1) * B))), (2, .int (nI tp)), (0, .ref h), (1, .int (nI B))]) hx hb dX8_pad_80 hl (k := 0) rfl (nI_add k 1) (by decide) rfl (fun ls hl => ?_)
            refine lv_goto (tgt := 39) hx hb dX8_pad_83 (by decide) ?_
            exact ih (k + 1) H _ _ (by omega) (by omega) hP hD hS (lv_sub hl [0, 1, 2, 3, 4] rfl)
        · refine lv_aload_n hx hb dX8_pad_57 rfl (lv_at hl 3 rfl) ?_
          refine va_get (D := G.1) (ci := 7) (v := .ref (a 27)) (C := RX8) (T := TX8) (N := 35) hx hb hts hinX8 hown hK hP 2 rfl rfl 27 (by decide) (hts (.fieldLink RX8 227 "CipherBoxModel" "tape" "[B") (by decide +kernel)) (fun _ h9 => h9) rfl dX8_pad_58 ?_
          refine lv_iload hx hb dX8_pad_61 (lv_at hl 0 rfl) ?_
          refine w_bald hx hb hK hP 0 rfl (by omega) (by omega) dX8_pad_63 ?_
          refine lv_goto (tgt := 79) hx hb dX8_pad_64 (by decide) ?_
          refine w_bast hx hb hK hP hD hS 1 rfl (by omega) (by omega) (fl (k + 1) (mPd tp ft) fo) (fl_s (by first | rw [mPd_1 (by omega)] | rw [mPd_2 (by omega)] | rw [mPd_3 (by omega)])) dX8_pad_79 (fun H locs hP hD hS => ?_)
          have hP : va_P G.1 vwCl [(a 27, .inl (G.2.2.1, 400, .inl ft)), (a 29, .inl (G.2.2.1, 416, .inl (fl (k + 1) (mPd tp ft) fo))), (h, .inr (7, mO a rd mn 0 os ty sz))] H := hP
          have hD : va_D A [(a 27, .inl (G.2.2.1, 400, .inl ft)), (a 29, .inl (G.2.2.1, 416, .inl (fl (k + 1) (mPd tp ft) fo))), (h, .inr (7, mO a rd mn 0 os ty sz))] := hD
          refine lv_iinc (v := nI (k + 1)) (lv' := [(4, .int (nI (k + 1))), (3, .int (nI (((tp / B) + 1) * B))), (2, .int (nI tp)), (0, .ref h), (1, .int (nI B))]) hx hb dX8_pad_80 hl (k := 0) rfl (nI_add k 1) (by decide) rfl (fun ls hl => ?_)
          refine lv_goto (tgt := 39) hx hb dX8_pad_83 (by decide) ?_
          exact ih (k + 1) H _ _ (by omega) (by omega) hP hD hS (lv_sub hl [0, 1, 2, 3, 4] rfl)
    · exact absurd h2 (by omega)
  · refine lv_iload_n hx hb dX8_pad_11 rfl (lv_at hl 2 rfl) ?_
    refine lv_bipush (v := nI 16) hx hb dX8_pad_12 (by decide) ?_
    refine w_icmpN_eq (tgt := 19) hx hb (by omega) (by omega) dX8_pad_14 (by decide) (fun h6 => ?_) (fun h6 => ?_)
    · refine lv_iload_n hx hb dX8_pad_19 rfl (lv_at hl 0 rfl) ?_
      refine lv_iload_n hx hb dX8_pad_20 rfl (lv_at hl 2 rfl) ?_
      refine w_idivN hx hb (by omega) (by omega) (by omega) dX8_pad_21 ?_
      refine lv_iconst (v := nI 1) hx hb dX8_pad_22 (by decide) ?_
      refine w_iaddN hx hb dX8_pad_23 ?_
      refine lv_iload_n hx hb dX8_pad_24 rfl (lv_at hl 2 rfl) ?_
      refine w_imulN hx hb dX8_pad_25 ?_
      refine lv_istore_n (lv' := [(3, .int (nI (((tp / B) + 1) * B))), (2, .int (nI tp)), (0, .ref h), (1, .int (nI B))]) hx hb dX8_pad_26 rfl hl (by decide) rfl (fun ls hl => ?_)
      refine lv_iload_n hx hb dX8_pad_27 rfl (lv_at hl 0 rfl) ?_
      refine lv_sipush (v := nI 400) hx hb dX8_pad_28 (by decide) ?_
      refine w_icmpN_le (tgt := 36) hx hb (by omega) (by omega) dX8_pad_31 (by decide) (fun h7 => ?_) (fun h7 => ?_)
      · refine lv_iconst (v := nI 0) hx hb dX8_pad_36 (by decide) ?_
        refine lv_istore (lv' := [(4, .int (nI 0)), (3, .int (nI (((tp / B) + 1) * B))), (2, .int (nI tp)), (0, .ref h), (1, .int (nI B))]) hx hb dX8_pad_37 hl (by decide) rfl (fun ls hl => ?_)
        refine w_loop (ι := Nat) (fun k => (tp / B + 1) * B - k) (fun k => k ≤ (tp / B + 1) * B) (fun k => [(a 27, .inl (G.2.2.1, 400, .inl ft)), (a 29, .inl (G.2.2.1, 416, .inl (fl k (mPd tp ft) fo))), (h, .inr (7, mO a rd mn 0 os ty sz))]) (fun k => [(4, .int (nI k)), (3, .int (nI (((tp / B) + 1) * B))), (2, .int (nI tp)), (0, .ref h), (1, .int (nI B))]) 0 (Nat.zero_le _) (by simp only [fl_0]; exact hP) (by simp only [fl_0]; exact hD) hS hl ?_
        intro k H locs ls hk hP hD hS hl ih
        have hk : k ≤ (tp / B + 1) * B := hk
        have hP : va_P G.1 vwCl [(a 27, .inl (G.2.2.1, 400, .inl ft)), (a 29, .inl (G.2.2.1, 416, .inl (fl k (mPd tp ft) fo))), (h, .inr (7, mO a rd mn 0 os ty sz))] H := hP
        have hD : va_D A [(a 27, .inl (G.2.2.1, 400, .inl ft)), (a 29, .inl (G.2.2.1, 416, .inl (fl k (mPd tp ft) fo))), (h, .inr (7, mO a rd mn 0 os ty sz))] := hD
        have hl : lv_has ls 5 [(4, .int (nI k)), (3, .int (nI (((tp / B) + 1) * B))), (2, .int (nI tp)), (0, .ref h), (1, .int (nI B))] := hl
        refine lv_iload hx hb dX8_pad_39 (lv_at hl 0 rfl) ?_
        refine lv_iload_n hx hb dX8_pad_41 rfl (lv_at hl 1 rfl) ?_
        refine w_icmpN_ge (tgt := 86) hx hb (by omega) (by omega) dX8_pad_42 (by decide) (fun h8 => ?_) (fun h8 => ?_)
        · obtain rfl : (tp / B + 1) * B = k := Eq.symm (show k = (tp / B + 1) * B from by omega)
          refine lv_aload_n hx hb dX8_pad_86 rfl (lv_at hl 3 rfl) ?_
          refine lv_iload_n hx hb dX8_pad_87 rfl (lv_at hl 1 rfl) ?_
          refine va_put (D := G.1) (ci := 7) (v := .int (nI (((tp / B) + 1) * B))) (ty := .int) (C := RX8) (T := TX8) (N := 35) hx hb hts hinX8 tyX8 tyX8_ok nmX8 hown hK hP hD hS 2 rfl rfl 30 (by decide) (hts (.fieldLink RX8 251 "CipherBoxModel" "outSize" "I") (by decide +kernel)) (fun _ h9 => h9) rfl (by decide +kernel) rfl rfl (Nat.le_of_ble_eq_true rfl) dX8_pad_88 (fun H locs hP hD hS => ?_)
          have hP : va_P G.1 vwCl [(a 27, .inl (G.2.2.1, 400, .inl ft)), (a 29, .inl (G.2.2.1, 416, .inl (fl ((tp / B + 1) * B) (mPd tp ft) fo))), (h, .inr (7, mO a rd mn 0 (((tp / B) + 1) * B) ty sz))] H := hP
          have hD : va_D A [(a 27, .inl (G.2.2.1, 400, .inl ft)), (a 29, .inl (G.2.2.1, 416, .inl (fl ((tp / B + 1) * B) (mPd tp ft) fo))), (h, .inr (7, mO a rd mn 0 (((tp / B) + 1) * B) ty sz))] := hD
          refine lv_iload_n hx hb dX8_pad_91 rfl (lv_at hl 1 rfl) ?_
          exact hret (nI (((tp / B) + 1) * B)) () H _ 92 ls dX8_pad_92 (rfl) (hP.sub [2, 0, 1] rfl) (hD.sub [2, 0, 1] (by decide) rfl) hS
        · refine lv_aload_n hx hb dX8_pad_45 rfl (lv_at hl 3 rfl) ?_
          refine va_get (D := G.1) (ci := 7) (v := .ref (a 29)) (C := RX8) (T := TX8) (N := 35) hx hb hts hinX8 hown hK hP 2 rfl rfl 29 (by decide) (hts (.fieldLink RX8 230 "CipherBoxModel" "out" "[B") (by decide +kernel)) (fun _ h9 => h9) rfl dX8_pad_46 ?_
          refine lv_iload hx hb dX8_pad_49 (lv_at hl 0 rfl) ?_
          refine lv_iload hx hb dX8_pad_51 (lv_at hl 0 rfl) ?_
          refine lv_iload_n hx hb dX8_pad_53 rfl (lv_at hl 2 rfl) ?_
          refine w_icmpN_ge (tgt := 67) hx hb (by omega) (by omega) dX8_pad_54 (by decide) (fun h9 => ?_) (fun h9 => ?_)
          · refine lv_iload hx hb dX8_pad_67 (lv_at hl 0 rfl) ?_
            refine lv_iload_n hx hb dX8_pad_69 rfl (lv_at hl 2 rfl) ?_
            refine w_icmpN_ne (tgt := 78) hx hb (by omega) (by omega) dX8_pad_70 (by decide) (fun h10 => ?_) (fun h10 => ?_)
            · refine lv_iconst (v := nI 0) hx hb dX8_pad_78 (by decide) ?_
              refine w_bast hx hb hK hP hD hS 1 rfl (by omega) (by omega) (fl (k + 1) (mPd tp ft) fo) (fl_s (by first | rw [mPd_1 (by omega)] | rw [mPd_2 (by omega)] | rw [mPd_3 (by omega)])) dX8_pad_79 (fun H locs hP hD hS => ?_)
              have hP : va_P G.1 vwCl [(a 27, .inl (G.2.2.1, 400, .inl ft)), (a 29, .inl (G.2.2.1, 416, .inl (fl (k + 1) (mPd tp ft) fo))), (h, .inr (7, mO a rd mn 0 os ty sz))] H := hP
              have hD : va_D A [(a 27, .inl (G.2.2.1, 400, .inl ft)), (a 29, .inl (G.2.2.1, 416, .inl (fl (k + 1) (mPd tp ft) fo))), (h, .inr (7, mO a rd mn 0 os ty sz))] := hD
              refine lv_iinc (v := nI (k + 1)) (lv' := [(4, .int (nI (k + 1))), (3, .int (nI (((tp / B) + 1) * B))), (2, .int (nI tp)), (0, .ref h), (1, .int (nI B))]) hx hb dX8_pad_80 hl (k := 0) rfl (nI_add k 1) (by decide) rfl (fun ls hl => ?_)
              refine lv_goto (tgt := 39) hx hb dX8_pad_83 (by decide) ?_
              exact ih (k + 1) H _ _ (by omega) (by omega) hP hD hS (lv_sub hl [0, 1, 2, 3, 4] rfl)
            · refine lv_bipush (v := (-128)) hx hb dX8_pad_73 (by decide) ?_
              refine lv_goto (tgt := 79) hx hb dX8_pad_75 (by decide) ?_
              refine w_bast hx hb hK hP hD hS 1 rfl (by omega) (by omega) (fl (k + 1) (mPd tp ft) fo) (fl_s (by first | rw [mPd_1 (by omega)] | rw [mPd_2 (by omega)] | rw [mPd_3 (by omega)])) dX8_pad_79 (fun H locs hP hD hS => ?_)
              have hP : va_P G.1 vwCl [(a 27, .inl (G.2.2.1, 400, .inl ft)), (a 29, .inl (G.2.2.1, 416, .inl (fl (k + 1) (mPd tp ft) fo))), (h, .inr (7, mO a rd mn 0 os ty sz))] H := hP
              have hD : va_D A [(a 27, .inl (G.2.2.1, 400, .inl ft)), (a 29, .inl (G.2.2.1, 416, .inl (fl (k + 1) (mPd tp ft) fo))), (h, .inr (7, mO a rd mn 0 os ty sz))] := hD
              refine lv_iinc (v := nI (k + 1)) (lv' := [(4, .int (nI (k + 1))), (3, .int (nI (((tp / B) + 1) * B))), (2, .int (nI tp)), (0, .ref h), (1, .int (nI B))]) hx hb dX8_pad_80 hl (k := 0) rfl (nI_add k 1) (by decide) rfl (fun ls hl => ?_)
              refine lv_goto (tgt := 39) hx hb dX8_pad_83 (by decide) ?_
              exact ih (k + 1) H _ _ (by omega) (by omega) hP hD hS (lv_sub hl [0, 1, 2, 3, 4] rfl)
          · refine lv_aload_n hx hb dX8_pad_57 rfl (lv_at hl 3 rfl) ?_
            refine va_get (D := G.1) (ci := 7) (v := .ref (a 27)) (C := RX8) (T := TX8) (N := 35) hx hb hts hinX8 hown hK hP 2 rfl rfl 27 (by decide) (hts (.fieldLink RX8 227 "CipherBoxModel" "tape" "[B") (by decide +kernel)) (fun _ h9 => h9) rfl dX8_pad_58 ?_
            refine lv_iload hx hb dX8_pad_61 (lv_at hl 0 rfl) ?_
            refine w_bald hx hb hK hP 0 rfl (by omega) (by omega) dX8_pad_63 ?_
            refine lv_goto (tgt := 79) hx hb dX8_pad_64 (by decide) ?_
            refine w_bast hx hb hK hP hD hS 1 rfl (by omega) (by omega) (fl (k + 1) (mPd tp ft) fo) (fl_s (by first | rw [mPd_1 (by omega)] | rw [mPd_2 (by omega)] | rw [mPd_3 (by omega)])) dX8_pad_79 (fun H locs hP hD hS => ?_)
            have hP : va_P G.1 vwCl [(a 27, .inl (G.2.2.1, 400, .inl ft)), (a 29, .inl (G.2.2.1, 416, .inl (fl (k + 1) (mPd tp ft) fo))), (h, .inr (7, mO a rd mn 0 os ty sz))] H := hP
            have hD : va_D A [(a 27, .inl (G.2.2.1, 400, .inl ft)), (a 29, .inl (G.2.2.1, 416, .inl (fl (k + 1) (mPd tp ft) fo))), (h, .inr (7, mO a rd mn 0 os ty sz))] := hD
            refine lv_iinc (v := nI (k + 1)) (lv' := [(4, .int (nI (k + 1))), (3, .int (nI (((tp / B) + 1) * B))), (2, .int (nI tp)), (0, .ref h), (1, .int (nI B))]) hx hb dX8_pad_80 hl (k := 0) rfl (nI_add k 1) (by decide) rfl (fun ls hl => ?_)
            refine lv_goto (tgt := 39) hx hb dX8_pad_83 (by decide) ?_
            exact ih (k + 1) H _ _ (by omega) (by omega) hP hD hS (lv_sub hl [0, 1, 2, 3, 4] rfl)
      · exact absurd h7 (by omega)
    · exact absurd ⟨by assumption, h6⟩ hBe

set_option maxHeartbeats 4000000 in
set_option maxRecDepth 100000 in
theorem c_m_pad_big (l : Launch) (G : wG) (h : Nat) (a : Nat → Nat) (rd mn tp os : Nat) (ty : Int32) (sz : Nat) (B : Nat) (hB : B = 8 ∨ B = 16) (ht : 400 < (tp / B + 1) * B) (ht2 : tp ≤ 400) : CMi l G yX8_pad wsX8_pad 1 21 [.ref h, .int (nI B)] [(h, .inr (7, mO a rd mn tp os ty sz))] (fun r (_ : Unit) => r = (-1)) (fun _ => [(h, .inr (7, mO a rd mn 0 os ty sz))]) := by
  refine CMi.start cX8_pad 5 .int (by decide) rfl (Nat.le_of_ble_eq_true rfl) (fun r u h => vp_nar_int r) ?_
  intro p e s m below meth c A Q ls H locs hx hb hml hown hts hK hT hA hP hD hS hl hret
  have hl : lv_has ls 5 [(0, .ref h), (1, .int (nI B))] := hl
  have hB1 : 0 < B := by omega
  have hB2 : B < 2 ^ 31 := by omega
  have hBe : ¬ (B ≠ 8 ∧ B ≠ 16) := by omega
  have hlt : (tp / B + 1) * B < 2 ^ 31 := by rcases hB with rfl | rfl <;> omega
  refine lv_aload_n hx hb dX8_pad_0 rfl (lv_at hl 0 rfl) ?_
  refine w_fini (wr := []) (va_runV (As := []) (rest := []) ⟨hx, hb, hml, hown, hts⟩ (c_m_use l G h a rd mn tp os ty sz H.size) (cwV 0 hts gX8_pad_X8_use rfl rfl rfl (by decide +kernel) ⟨Nat.le_of_ble_eq_true rfl, Nat.le_of_ble_eq_true rfl⟩) ⟨wPre.blind, (va_recv hK hP (ci := 7) (q0 := 0) rfl rfl), (fun U hU hW => ⟨rfl, w_pre hK hT hA hP hD hS (isC := [0]) (by decide) rfl U hU hW⟩)⟩ rfl rfl hl.1 rfl (lv_room (Nat.le_of_ble_eq_true rfl)) dX8_pad_1 ⟨Nat.le_of_ble_eq_true rfl, Nat.le_of_ble_eq_true rfl⟩) hA hP hD hS [0] [] rfl rfl (by decide) (by decide) (fun r u H locs hpost hP hD hS => ?_)
  obtain rfl := hpost
  have hP : va_P G.1 vwCl [(h, .inr (7, mO a rd mn 0 os ty sz))] H := hP
  have hD : va_D A [(h, .inr (7, mO a rd mn 0 os ty sz))] := hD
  refine lv_istore_n (lv' := [(2, .int (nI tp)), (0, .ref h), (1, .int (nI B))]) hx hb dX8_pad_4 rfl hl (by decide) rfl (fun ls hl => ?_)
  refine lv_iload_n hx hb dX8_pad_5 rfl (lv_at hl 2 rfl) ?_
  refine lv_bipush (v := nI 8) hx hb dX8_pad_6 (by decide) ?_
  refine w_icmpN_eq (tgt := 19) hx hb (by omega) (by omega) dX8_pad_8 (by decide) (fun h1 => ?_) (fun h1 => ?_)
  · refine lv_iload_n hx hb dX8_pad_19 rfl (lv_at hl 0 rfl) ?_
    refine lv_iload_n hx hb dX8_pad_20 rfl (lv_at hl 2 rfl) ?_
    refine w_idivN hx hb (by omega) (by omega) (by omega) dX8_pad_21 ?_
    refine lv_iconst (v := nI 1) hx hb dX8_pad_22 (by decide) ?_
    refine w_iaddN hx hb dX8_pad_23 ?_
    refine lv_iload_n hx hb dX8_pad_24 rfl (lv_at hl 2 rfl) ?_
    refine w_imulN hx hb dX8_pad_25 ?_
    refine lv_istore_n (lv' := [(3, .int (nI (((tp / B) + 1) * B))), (2, .int (nI tp)), (0, .ref h), (1, .int (nI B))]) hx hb dX8_pad_26 rfl hl (by decide) rfl (fun ls hl => ?_)
    refine lv_iload_n hx hb dX8_pad_27 rfl (lv_at hl 0 rfl) ?_
    refine lv_sipush (v := nI 400) hx hb dX8_pad_28 (by decide) ?_
    refine w_icmpN_le (tgt := 36) hx hb (by omega) (by omega) dX8_pad_31 (by decide) (fun h2 => ?_) (fun h2 => ?_)
    · exact absurd h2 (by omega)
    · refine lv_iconst (v := (-1)) hx hb dX8_pad_34 (by decide) ?_
      exact hret (-1) () H _ 35 ls dX8_pad_35 (rfl) (hP.sub [0] rfl) (hD.sub [0] (by decide) rfl) hS
  · refine lv_iload_n hx hb dX8_pad_11 rfl (lv_at hl 2 rfl) ?_
    refine lv_bipush (v := nI 16) hx hb dX8_pad_12 (by decide) ?_
    refine w_icmpN_eq (tgt := 19) hx hb (by omega) (by omega) dX8_pad_14 (by decide) (fun h3 => ?_) (fun h3 => ?_)
    · refine lv_iload_n hx hb dX8_pad_19 rfl (lv_at hl 0 rfl) ?_
      refine lv_iload_n hx hb dX8_pad_20 rfl (lv_at hl 2 rfl) ?_
      refine w_idivN hx hb (by omega) (by omega) (by omega) dX8_pad_21 ?_
      refine lv_iconst (v := nI 1) hx hb dX8_pad_22 (by decide) ?_
      refine w_iaddN hx hb dX8_pad_23 ?_
      refine lv_iload_n hx hb dX8_pad_24 rfl (lv_at hl 2 rfl) ?_
      refine w_imulN hx hb dX8_pad_25 ?_
      refine lv_istore_n (lv' := [(3, .int (nI (((tp / B) + 1) * B))), (2, .int (nI tp)), (0, .ref h), (1, .int (nI B))]) hx hb dX8_pad_26 rfl hl (by decide) rfl (fun ls hl => ?_)
      refine lv_iload_n hx hb dX8_pad_27 rfl (lv_at hl 0 rfl) ?_
      refine lv_sipush (v := nI 400) hx hb dX8_pad_28 (by decide) ?_
      refine w_icmpN_le (tgt := 36) hx hb (by omega) (by omega) dX8_pad_31 (by decide) (fun h4 => ?_) (fun h4 => ?_)
      · exact absurd h4 (by omega)
      · refine lv_iconst (v := (-1)) hx hb dX8_pad_34 (by decide) ?_
        exact hret (-1) () H _ 35 ls dX8_pad_35 (rfl) (hP.sub [0] rfl) (hD.sub [0] (by decide) rfl) hS
    · exact absurd ⟨by assumption, h3⟩ hBe

set_option maxHeartbeats 4000000 in
set_option maxRecDepth 100000 in
theorem c_m_pad_no (l : Launch) (G : wG) (h : Nat) (a : Nat → Nat) (rd mn tp os : Nat) (ty : Int32) (sz : Nat) (v : Int32) (hv : ¬ v = nI 8 ∧ ¬ v = nI 16) : CMi l G yX8_pad wsX8_pad 1 21 [.ref h, .int v] [(h, .inr (7, mO a rd mn tp os ty sz))] (fun r (_ : Unit) => r = (-1)) (fun _ => [(h, .inr (7, mO a rd mn 0 os ty sz))]) := by
  refine CMi.start cX8_pad 5 .int (by decide) rfl (Nat.le_of_ble_eq_true rfl) (fun r u h => vp_nar_int r) ?_
  intro p e s m below meth c A Q ls H locs hx hb hml hown hts hK hT hA hP hD hS hl hret
  have hl : lv_has ls 5 [(0, .ref h), (1, .int v)] := hl
  refine lv_aload_n hx hb dX8_pad_0 rfl (lv_at hl 0 rfl) ?_
  refine w_fini (wr := []) (va_runV (As := []) (rest := []) ⟨hx, hb, hml, hown, hts⟩ (c_m_use l G h a rd mn tp os ty sz H.size) (cwV 0 hts gX8_pad_X8_use rfl rfl rfl (by decide +kernel) ⟨Nat.le_of_ble_eq_true rfl, Nat.le_of_ble_eq_true rfl⟩) ⟨wPre.blind, (va_recv hK hP (ci := 7) (q0 := 0) rfl rfl), (fun U hU hW => ⟨rfl, w_pre hK hT hA hP hD hS (isC := [0]) (by decide) rfl U hU hW⟩)⟩ rfl rfl hl.1 rfl (lv_room (Nat.le_of_ble_eq_true rfl)) dX8_pad_1 ⟨Nat.le_of_ble_eq_true rfl, Nat.le_of_ble_eq_true rfl⟩) hA hP hD hS [0] [] rfl rfl (by decide) (by decide) (fun r u H locs hpost hP hD hS => ?_)
  obtain rfl := hpost
  have hP : va_P G.1 vwCl [(h, .inr (7, mO a rd mn 0 os ty sz))] H := hP
  have hD : va_D A [(h, .inr (7, mO a rd mn 0 os ty sz))] := hD
  refine lv_istore_n (lv' := [(2, .int (nI tp)), (0, .ref h), (1, .int v)]) hx hb dX8_pad_4 rfl hl (by decide) rfl (fun ls hl => ?_)
  refine lv_iload_n hx hb dX8_pad_5 rfl (lv_at hl 2 rfl) ?_
  refine lv_bipush (v := nI 8) hx hb dX8_pad_6 (by decide) ?_
  refine lv_icmp_eq (tgt := 19) hx hb dX8_pad_8 (by decide) (fun h1 => ?_) (fun h1 => ?_)
  · exact absurd h1 hv.1
  · refine lv_iload_n hx hb dX8_pad_11 rfl (lv_at hl 2 rfl) ?_
    refine lv_bipush (v := nI 16) hx hb dX8_pad_12 (by decide) ?_
    refine lv_icmp_eq (tgt := 19) hx hb dX8_pad_14 (by decide) (fun h2 => ?_) (fun h2 => ?_)
    · exact absurd h2 hv.2
    · refine lv_iconst (v := (-1)) hx hb dX8_pad_17 (by decide) ?_
      exact hret (-1) () H _ 18 ls dX8_pad_18 (rfl) (hP.sub [0] rfl) (hD.sub [0] (by decide) rfl) hS

set_option maxHeartbeats 4000000 in
set_option maxRecDepth 100000 in
theorem c_m_unpad_ok (l : Launch) (G : wG) (h : Nat) (a : Nat → Nat) (rd mn tp os : Nat) (ty : Int32) (sz : Nat) (ft fo : Nat → Int32) (q : Nat) (hq : lnz ft tp = q + 1) (hq2 : ft q = (-128)) (ht2 : tp ≤ 400) : CMi l G yX8_unpad wsX8_unpad 1 21 [.ref h] [(h, .inr (7, mO a rd mn tp os ty sz)), (a 27, .inl (G.2.2.1, 400, .inl ft)), (a 29, .inl (G.2.2.1, 416, .inl fo))] (fun r (_ : Unit) => r = nI q) (fun _ => [(h, .inr (7, mO a rd mn 0 q ty sz)), (a 27, .inl (G.2.2.1, 400, .inl ft)), (a 29, .inl (G.2.2.1, 416, .inl (fl q (fun j_ => bN (ft j_)) fo)))]) := by
  refine CMi.start cX8_unpad 4 .int (by decide) rfl (Nat.le_of_ble_eq_true rfl) (fun r u h => vp_nar_int r) ?_
  intro p e s m below meth c A Q ls H locs hx hb hml hown hts hK hT hA hP hD hS hl hret
  have hinX8 : ∀ w ∈ u_ws RX8 TX8 35, w ∈ wsX8_unpad := by decide +kernel
  have hl : lv_has ls 4 [(0, .ref h)] := hl
  refine lv_aload_n hx hb dX8_unpad_0 rfl (lv_at hl 0 rfl) ?_
  refine w_fini (wr := [(a 27, .inl (G.2.2.1, 400, .inl ft)), (a 29, .inl (G.2.2.1, 416, .inl fo))]) (va_runV (As := []) (rest := []) ⟨hx, hb, hml, hown, hts⟩ (c_m_use l G h a rd mn tp os ty sz H.size) (cwV 0 hts gX8_unpad_X8_use rfl rfl rfl (by decide +kernel) ⟨Nat.le_of_ble_eq_true rfl, Nat.le_of_ble_eq_true rfl⟩) ⟨wPre.blind, (va_recv hK hP (ci := 7) (q0 := 0) rfl rfl), (fun U hU hW => ⟨rfl, w_pre hK hT hA hP hD hS (isC := [0]) (by decide) rfl U hU hW⟩)⟩ rfl rfl hl.1 rfl (lv_room (Nat.le_of_ble_eq_true rfl)) dX8_unpad_1 ⟨Nat.le_of_ble_eq_true rfl, Nat.le_of_ble_eq_true rfl⟩) hA hP hD hS [0] [1, 2] rfl rfl (by decide) (by decide) (fun r u H locs hpost hP hD hS => ?_)
  obtain rfl := hpost
  have hP : va_P G.1 vwCl [(a 27, .inl (G.2.2.1, 400, .inl ft)), (a 29, .inl (G.2.2.1, 416, .inl fo)), (h, .inr (7, mO a rd mn 0 os ty sz))] H := hP
  have hD : va_D A [(a 27, .inl (G.2.2.1, 400, .inl ft)), (a 29, .inl (G.2.2.1, 416, .inl fo)), (h, .inr (7, mO a rd mn 0 os ty sz))] := hD
  refine lv_istore_n (lv' := [(1, .int (nI tp)), (0, .ref h)]) hx hb dX8_unpad_4 rfl hl (by decide) rfl (fun ls hl => ?_)
  refine lv_iload_n hx hb dX8_unpad_5 rfl (lv_at hl 0 rfl) ?_
  refine lv_iconst (v := nI 1) hx hb dX8_unpad_6 (by decide) ?_
  refine lv_isub hx hb dX8_unpad_7 ?_
  refine lv_istore_n (lv' := [(2, .int ((nI tp) - (nI 1))), (1, .int (nI tp)), (0, .ref h)]) hx hb dX8_unpad_8 rfl hl (by decide) rfl (fun ls hl => ?_)
  refine w_loop (ι := Nat) (fun k => k) (fun k => k ≤ tp ∧ lnz ft tp = lnz ft k) (fun k => [(a 27, .inl (G.2.2.1, 400, .inl ft)), (a 29, .inl (G.2.2.1, 416, .inl fo)), (h, .inr (7, mO a rd mn 0 os ty sz))]) (fun k => [(2, .int (nI k - nI 1)), (1, .int (nI tp)), (0, .ref h)]) tp (⟨Nat.le_refl _, rfl⟩) hP hD hS hl ?_
  intro k H locs ls hk hP hD hS hl ih
  have hk : k ≤ tp ∧ lnz ft tp = lnz ft k := hk
  have hk1 := hk.1
  have hP : va_P G.1 vwCl [(a 27, .inl (G.2.2.1, 400, .inl ft)), (a 29, .inl (G.2.2.1, 416, .inl fo)), (h, .inr (7, mO a rd mn 0 os ty sz))] H := hP
  have hD : va_D A [(a 27, .inl (G.2.2.1, 400, .inl ft)), (a 29, .inl (G.2.2.1, 416, .inl fo)), (h, .inr (7, mO a rd mn 0 os ty sz))] := hD
  have hl : lv_has ls 4 [(2, .int (nI k - nI 1)), (1, .int (nI tp)), (0, .ref h)] := hl
  refine lv_iload_n hx hb dX8_unpad_9 rfl (lv_at hl 0 rfl) ?_
  refine lv_if_lt (tgt := 28) hx hb dX8_unpad_10 (by decide) (fun h1 => ?_) (fun h1 => ?_)
  · exact absurd (by rw [sub1_neg (by omega) h1] at hk; exact hk.2) (by rw [hq]; exact Nat.succ_ne_zero q)
  · have hpos : 0 < k := by
      rcases Nat.eq_zero_or_pos k with q9 | q9
      · exact absurd (by rw [q9]; decide) h1
      · exact q9
    refine lv_aload_n hx hb dX8_unpad_13 rfl (lv_at hl 2 rfl) ?_
    refine va_get (D := G.1) (ci := 7) (v := .ref (a 27)) (C := RX8) (T := TX8) (N := 35) hx hb hts hinX8 hown hK hP 2 rfl rfl 27 (by decide) (hts (.fieldLink RX8 227 "CipherBoxModel" "tape" "[B") (by decide +kernel)) (fun _ h9 => h9) rfl dX8_unpad_14 ?_
    refine lv_iload_n hx hb dX8_unpad_17 rfl (lv_at hl 0 rfl) ?_
    refine w_top (nI (k - 1)) (pk_sub (by omega)) ?_
    refine w_bald hx hb hK hP 0 rfl (by omega) (by omega) dX8_unpad_18 ?_
    refine lv_if_ne (tgt := 28) hx hb dX8_unpad_19 (by decide) (fun h2 => ?_) (fun h2 => ?_)
    · have h2 : ¬ ft (k - 1) = 0 := h2
      have hkq : k = q + 1 := by rw [← hq, hk.2, lnz_n hpos h2]
      obtain rfl := hkq
      have hl : lv_has ls 4 [(2, .int (nI q)), (1, .int (nI tp)), (0, .ref h)] := by have h9 := hl; rw [show nI (q + 1) - nI 1 = nI q from nI_pred q] at h9; exact h9
      refine lv_iload_n hx hb dX8_unpad_28 rfl (lv_at hl 0 rfl) ?_
      refine lv_if_lt (tgt := 43) hx hb dX8_unpad_29 (by decide) (fun h3 => ?_) (fun h3 => ?_)
      · exact absurd h3 (nI_pos (by omega))
      · refine lv_aload_n hx hb dX8_unpad_32 rfl (lv_at hl 2 rfl) ?_
        refine va_get (D := G.1) (ci := 7) (v := .ref (a 27)) (C := RX8) (T := TX8) (N := 35) hx hb hts hinX8 hown hK hP 2 rfl rfl 27 (by decide) (hts (.fieldLink RX8 227 "CipherBoxModel" "tape" "[B") (by decide +kernel)) (fun _ h9 => h9) rfl dX8_unpad_33 ?_
        refine lv_iload_n hx hb dX8_unpad_36 rfl (lv_at hl 0 rfl) ?_
        refine w_bald hx hb hK hP 0 rfl (by omega) (by omega) dX8_unpad_37 ?_
        refine lv_bipush (v := (-128)) hx hb dX8_unpad_38 (by decide) ?_
        refine lv_icmp_eq (tgt := 45) hx hb dX8_unpad_40 (by decide) (fun h4 => ?_) (fun h4 => ?_)
        · refine lv_iconst (v := nI 0) hx hb dX8_unpad_45 (by decide) ?_
          refine lv_istore_n (lv' := [(3, .int (nI 0)), (2, .int (nI q)), (1, .int (nI tp)), (0, .ref h)]) hx hb dX8_unpad_46 rfl hl (by decide) rfl (fun ls hl => ?_)
          refine w_loop (ι := Nat) (fun j => q - j) (fun j => j ≤ q) (fun j => [(a 27, .inl (G.2.2.1, 400, .inl ft)), (a 29, .inl (G.2.2.1, 416, .inl (fl j (fun j_ => bN (ft j_)) fo))), (h, .inr (7, mO a rd mn 0 os ty sz))]) (fun j => [(3, .int (nI j)), (2, .int (nI q)), (1, .int (nI tp)), (0, .ref h)]) 0 (by omega) (by simp only [fl_0]; exact hP) (by simp only [fl_0]; exact hD) hS hl ?_
          intro j H locs ls hj hP hD hS hl ih2
          have hj : j ≤ q := hj
          have hP : va_P G.1 vwCl [(a 27, .inl (G.2.2.1, 400, .inl ft)), (a 29, .inl (G.2.2.1, 416, .inl (fl j (fun j_ => bN (ft j_)) fo))), (h, .inr (7, mO a rd mn 0 os ty sz))] H := hP
          have hD : va_D A [(a 27, .inl (G.2.2.1, 400, .inl ft)), (a 29, .inl (G.2.2.1, 416, .inl (fl j (fun j_ => bN (ft j_)) fo))), (h, .inr (7, mO a rd mn 0 os ty sz))] := hD
          have hl : lv_has ls 4 [(3, .int (nI j)), (2, .int (nI q)), (1, .int (nI tp)), (0, .ref h)] := hl
          refine lv_iload_n hx hb dX8_unpad_47 rfl (lv_at hl 0 rfl) ?_
          refine lv_iload_n hx hb dX8_unpad_48 rfl (lv_at hl 1 rfl) ?_
          refine w_icmpN_ge (tgt := 70) hx hb (by omega) (by omega) dX8_unpad_49 (by decide) (fun h5 => ?_) (fun h5 => ?_)
          · obtain rfl : q = j := Eq.symm (show j = q from by omega)
            refine lv_aload_n hx hb dX8_unpad_70 rfl (lv_at hl 3 rfl) ?_
            refine lv_iload_n hx hb dX8_unpad_71 rfl (lv_at hl 1 rfl) ?_
            refine va_put (D := G.1) (ci := 7) (v := .int (nI q)) (ty := .int) (C := RX8) (T := TX8) (N := 35) hx hb hts hinX8 tyX8 tyX8_ok nmX8 hown hK hP hD hS 2 rfl rfl 30 (by decide) (hts (.fieldLink RX8 251 "CipherBoxModel" "outSize" "I") (by decide +kernel)) (fun _ h9 => h9) rfl (by decide +kernel) rfl rfl (Nat.le_of_ble_eq_true rfl) dX8_unpad_72 (fun H locs hP hD hS => ?_)
            have hP : va_P G.1 vwCl [(a 27, .inl (G.2.2.1, 400, .inl ft)), (a 29, .inl (G.2.2.1, 416, .inl (fl q (fun j_ => bN (ft j_)) fo))), (h, .inr (7, mO a rd mn 0 q ty sz))] H := hP
            have hD : va_D A [(a 27, .inl (G.2.2.1, 400, .inl ft)), (a 29, .inl (G.2.2.1, 416, .inl (fl q (fun j_ => bN (ft j_)) fo))), (h, .inr (7, mO a rd mn 0 q ty sz))] := hD
            refine lv_iload_n hx hb dX8_unpad_75 rfl (lv_at hl 1 rfl) ?_
            exact hret (nI q) () H _ 76 ls dX8_unpad_76 (rfl) (hP.sub [2, 0, 1] rfl) (hD.sub [2, 0, 1] (by decide) rfl) hS
          · refine lv_aload_n hx hb dX8_unpad_52 rfl (lv_at hl 3 rfl) ?_
            refine va_get (D := G.1) (ci := 7) (v := .ref (a 29)) (C := RX8) (T := TX8) (N := 35) hx hb hts hinX8 hown hK hP 2 rfl rfl 29 (by decide) (hts (.fieldLink RX8 230 "CipherBoxModel" "out" "[B") (by decide +kernel)) (fun _ h9 => h9) rfl dX8_unpad_53 ?_
            refine lv_iload_n hx hb dX8_unpad_56 rfl (lv_at hl 0 rfl) ?_
            refine lv_aload_n hx hb dX8_unpad_57 rfl (lv_at hl 3 rfl) ?_
            refine va_get (D := G.1) (ci := 7) (v := .ref (a 27)) (C := RX8) (T := TX8) (N := 35) hx hb hts hinX8 hown hK hP 2 rfl rfl 27 (by decide) (hts (.fieldLink RX8 227 "CipherBoxModel" "tape" "[B") (by decide +kernel)) (fun _ h9 => h9) rfl dX8_unpad_58 ?_
            refine lv_iload_n hx hb dX8_unpad_61 rfl (lv_at hl 0 rfl) ?_
            refine w_bald hx hb hK hP 0 rfl (by omega) (by omega) dX8_unpad_62 ?_
            refine w_bast hx hb hK hP hD hS 1 rfl (by omega) (by omega) (fl (j + 1) (fun j_ => bN (ft j_)) fo) (fl_s rfl) dX8_unpad_63 (fun H locs hP hD hS => ?_)
            have hP : va_P G.1 vwCl [(a 27, .inl (G.2.2.1, 400, .inl ft)), (a 29, .inl (G.2.2.1, 416, .inl (fl (j + 1) (fun j_ => bN (ft j_)) fo))), (h, .inr (7, mO a rd mn 0 os ty sz))] H := hP
            have hD : va_D A [(a 27, .inl (G.2.2.1, 400, .inl ft)), (a 29, .inl (G.2.2.1, 416, .inl (fl (j + 1) (fun j_ => bN (ft j_)) fo))), (h, .inr (7, mO a rd mn 0 os ty sz))] := hD
            refine lv_iinc (v := nI (j + 1)) (lv' := [(3, .int (nI (j + 1))), (2, .int (nI q)), (1, .int (nI tp)), (0, .ref h)]) hx hb dX8_unpad_64 hl (k := 0) rfl (nI_add j 1) (by decide) rfl (fun ls hl => ?_)
            refine lv_goto (tgt := 47) hx hb dX8_unpad_67 (by decide) ?_
            exact ih2 (j + 1) H _ _ (by omega) (by omega) hP hD hS (lv_sub hl [0, 1, 2, 3] rfl)
        · exact absurd hq2 h4
    · have h2 : ft (k - 1) = 0 := h2
      obtain ⟨x6, ex6⟩ : ∃ y : Int32, y = nI k - nI 1 + -1 := ⟨_, rfl⟩
      refine lv_iinc (v := x6) (lv' := [(2, .int x6), (1, .int (nI tp)), (0, .ref h)]) hx hb dX8_unpad_22 hl (k := 0) rfl (by rw [ex6]; rfl) (by decide) rfl (fun ls hl => ?_)
      have hl : lv_has ls 4 [(2, .int (nI (k - 1) - nI 1)), (1, .int (nI tp)), (0, .ref h)] := by have h9 := hl; rw [ex6, sub1_dec hpos] at h9; exact h9
      refine lv_goto (tgt := 9) hx hb dX8_unpad_25 (by decide) ?_
      exact ih (k - 1) H _ _ (by omega) (⟨by omega, hk.2.trans (lnz_0 hpos h2)⟩) hP hD hS (lv_sub hl [0, 1, 2] rfl)

set_option maxHeartbeats 4000000 in
set_option maxRecDepth 100000 in
theorem c_m_unpad_no (l : Launch) (G : wG) (h : Nat) (a : Nat → Nat) (rd mn tp os : Nat) (ty : Int32) (sz : Nat) (ft : Nat → Int32) (hq : ∀ q, lnz ft tp = q + 1 → ¬ ft q = (-128)) (ht2 : tp ≤ 400) : CMi l G yX8_unpad wsX8_unpad 1 21 [.ref h] [(h, .inr (7, mO a rd mn tp os ty sz)), (a 27, .inl (G.2.2.1, 400, .inl ft))] (fun r (_ : Unit) => r = (-1)) (fun _ => [(h, .inr (7, mO a rd mn 0 os ty sz)), (a 27, .inl (G.2.2.1, 400, .inl ft))]) := by
  refine CMi.start cX8_unpad 4 .int (by decide) rfl (Nat.le_of_ble_eq_true rfl) (fun r u h => vp_nar_int r) ?_
  intro p e s m below meth c A Q ls H locs hx hb hml hown hts hK hT hA hP hD hS hl hret
  have hinX8 : ∀ w ∈ u_ws RX8 TX8 35, w ∈ wsX8_unpad := by decide +kernel
  have hl : lv_has ls 4 [(0, .ref h)] := hl
  refine lv_aload_n hx hb dX8_unpad_0 rfl (lv_at hl 0 rfl) ?_
  refine w_fini (wr := [(a 27, .inl (G.2.2.1, 400, .inl ft))]) (va_runV (As := []) (rest := []) ⟨hx, hb, hml, hown, hts⟩ (c_m_use l G h a rd mn tp os ty sz H.size) (cwV 0 hts gX8_unpad_X8_use rfl rfl rfl (by decide +kernel) ⟨Nat.le_of_ble_eq_true rfl, Nat.le_of_ble_eq_true rfl⟩) ⟨wPre.blind, (va_recv hK hP (ci := 7) (q0 := 0) rfl rfl), (fun U hU hW => ⟨rfl, w_pre hK hT hA hP hD hS (isC := [0]) (by decide) rfl U hU hW⟩)⟩ rfl rfl hl.1 rfl (lv_room (Nat.le_of_ble_eq_true rfl)) dX8_unpad_1 ⟨Nat.le_of_ble_eq_true rfl, Nat.le_of_ble_eq_true rfl⟩) hA hP hD hS [0] [1] rfl rfl (by decide) (by decide) (fun r u H locs hpost hP hD hS => ?_)
  obtain rfl := hpost
  have hP : va_P G.1 vwCl [(a 27, .inl (G.2.2.1, 400, .inl ft)), (h, .inr (7, mO a rd mn 0 os ty sz))] H := hP
  have hD : va_D A [(a 27, .inl (G.2.2.1, 400, .inl ft)), (h, .inr (7, mO a rd mn 0 os ty sz))] := hD
  refine lv_istore_n (lv' := [(1, .int (nI tp)), (0, .ref h)]) hx hb dX8_unpad_4 rfl hl (by decide) rfl (fun ls hl => ?_)
  refine lv_iload_n hx hb dX8_unpad_5 rfl (lv_at hl 0 rfl) ?_
  refine lv_iconst (v := nI 1) hx hb dX8_unpad_6 (by decide) ?_
  refine lv_isub hx hb dX8_unpad_7 ?_
  refine lv_istore_n (lv' := [(2, .int ((nI tp) - (nI 1))), (1, .int (nI tp)), (0, .ref h)]) hx hb dX8_unpad_8 rfl hl (by decide) rfl (fun ls hl => ?_)
  refine w_loop (ι := Nat) (fun k => k) (fun k => k ≤ tp ∧ lnz ft tp = lnz ft k) (fun k => [(a 27, .inl (G.2.2.1, 400, .inl ft)), (h, .inr (7, mO a rd mn 0 os ty sz))]) (fun k => [(2, .int (nI k - nI 1)), (1, .int (nI tp)), (0, .ref h)]) tp (⟨Nat.le_refl _, rfl⟩) hP hD hS hl ?_
  intro k H locs ls hk hP hD hS hl ih
  have hk : k ≤ tp ∧ lnz ft tp = lnz ft k := hk
  have hk1 := hk.1
  have hP : va_P G.1 vwCl [(a 27, .inl (G.2.2.1, 400, .inl ft)), (h, .inr (7, mO a rd mn 0 os ty sz))] H := hP
  have hD : va_D A [(a 27, .inl (G.2.2.1, 400, .inl ft)), (h, .inr (7, mO a rd mn 0 os ty sz))] := hD
  have hl : lv_has ls 4 [(2, .int (nI k - nI 1)), (1, .int (nI tp)), (0, .ref h)] := hl
  refine lv_iload_n hx hb dX8_unpad_9 rfl (lv_at hl 0 rfl) ?_
  refine lv_if_lt (tgt := 28) hx hb dX8_unpad_10 (by decide) (fun h1 => ?_) (fun h1 => ?_)
  · have h0 : k = 0 := sub1_neg (by omega) h1
    refine lv_iload_n hx hb dX8_unpad_28 rfl (lv_at hl 0 rfl) ?_
    refine lv_if_lt (tgt := 43) hx hb dX8_unpad_29 (by decide) (fun h2 => ?_) (fun h2 => ?_)
    · refine lv_iconst (v := (-1)) hx hb dX8_unpad_43 (by decide) ?_
      exact hret (-1) () H _ 44 ls dX8_unpad_44 (rfl) (hP.sub [1, 0] rfl) (hD.sub [1, 0] (by decide) rfl) hS
    · exact absurd (by rw [h0]; decide) h2
  · have hpos : 0 < k := by
      rcases Nat.eq_zero_or_pos k with q9 | q9
      · exact absurd (by rw [q9]; decide) h1
      · exact q9
    refine lv_aload_n hx hb dX8_unpad_13 rfl (lv_at hl 2 rfl) ?_
    refine va_get (D := G.1) (ci := 7) (v := .ref (a 27)) (C := RX8) (T := TX8) (N := 35) hx hb hts hinX8 hown hK hP 1 rfl rfl 27 (by decide) (hts (.fieldLink RX8 227 "CipherBoxModel" "tape" "[B") (by decide +kernel)) (fun _ h9 => h9) rfl dX8_unpad_14 ?_
    refine lv_iload_n hx hb dX8_unpad_17 rfl (lv_at hl 0 rfl) ?_
    refine w_top (nI (k - 1)) (pk_sub (by omega)) ?_
    refine w_bald hx hb hK hP 0 rfl (by omega) (by omega) dX8_unpad_18 ?_
    refine lv_if_ne (tgt := 28) hx hb dX8_unpad_19 (by decide) (fun h3 => ?_) (fun h3 => ?_)
    · have h2 : ¬ ft (k - 1) = 0 := h3
      obtain ⟨q, rfl⟩ : ∃ q, k = q + 1 := ⟨k - 1, by omega⟩
      have hlq : ¬ ft q = (-128) := hq q (by rw [hk.2, lnz_n hpos h2])
      have hl : lv_has ls 4 [(2, .int (nI q)), (1, .int (nI tp)), (0, .ref h)] := by have h9 := hl; rw [show nI (q + 1) - nI 1 = nI q from nI_pred q] at h9; exact h9
      refine lv_iload_n hx hb dX8_unpad_28 rfl (lv_at hl 0 rfl) ?_
      refine lv_if_lt (tgt := 43) hx hb dX8_unpad_29 (by decide) (fun h4 => ?_) (fun h4 => ?_)
      · exact absurd h4 (nI_pos (by omega))
      · refine lv_aload_n hx hb dX8_unpad_32 rfl (lv_at hl 2 rfl) ?_
        refine va_get (D := G.1) (ci := 7) (v := .ref (a 27)) (C := RX8) (T := TX8) (N := 35) hx hb hts hinX8 hown hK hP 1 rfl rfl 27 (by decide) (hts (.fieldLink RX8 227 "CipherBoxModel" "tape" "[B") (by decide +kernel)) (fun _ h9 => h9) rfl dX8_unpad_33 ?_
        refine lv_iload_n hx hb dX8_unpad_36 rfl (lv_at hl 0 rfl) ?_
        refine w_bald hx hb hK hP 0 rfl (by omega) (by omega) dX8_unpad_37 ?_
        refine lv_bipush (v := (-128)) hx hb dX8_unpad_38 (by decide) ?_
        refine lv_icmp_eq (tgt := 45) hx hb dX8_unpad_40 (by decide) (fun h5 => ?_) (fun h5 => ?_)
        · exact absurd h5 hlq
        · refine lv_iconst (v := (-1)) hx hb dX8_unpad_43 (by decide) ?_
          exact hret (-1) () H _ 44 ls dX8_unpad_44 (rfl) (hP.sub [1, 0] rfl) (hD.sub [1, 0] (by decide) rfl) hS
    · have h2 : ft (k - 1) = 0 := h3
      obtain ⟨x6, ex6⟩ : ∃ y : Int32, y = nI k - nI 1 + -1 := ⟨_, rfl⟩
      refine lv_iinc (v := x6) (lv' := [(2, .int x6), (1, .int (nI tp)), (0, .ref h)]) hx hb dX8_unpad_22 hl (k := 0) rfl (by rw [ex6]; rfl) (by decide) rfl (fun ls hl => ?_)
      have hl : lv_has ls 4 [(2, .int (nI (k - 1) - nI 1)), (1, .int (nI tp)), (0, .ref h)] := by have h9 := hl; rw [ex6, sub1_dec hpos] at h9; exact h9
      refine lv_goto (tgt := 9) hx hb dX8_unpad_25 (by decide) ?_
      exact ih (k - 1) H _ _ (by omega) (⟨by omega, hk.2.trans (lnz_0 hpos h2)⟩) hP hD hS (lv_sub hl [0, 1, 2] rfl)
