/-! the class's DES, over ints and longs as they stand -/
def pmI (v : Int64) (w t : Nat) : Nat → Int64
  | 0 => lN 0
  | k + 1 => (lsl (pmI v w t k) (nI 1)) ||| ((lus v (nI w - nI (tbV t k))) &&& lN 1)
def pm (v : Int64) (w t : Nat) : Int64 := pmI v w t (tbL t)
def thI (x : Int32) (b : Nat) : Int32 := ((x <<< (nI b &&& 31)) ||| ush x (nI 28 - nI b)) &&& nI 268435455
def hfI (x : Int32) : Nat → Int32
  | 0 => x
  | n + 1 => thI (hfI x n) (tbV 5 n)
def kU (v : Int64) : Int32 := ((lus (pm v 64 3) (nI 28)).toInt32) &&& nI 268435455
def kL (v : Int64) : Int32 := ((pm v 64 3).toInt32) &&& nI 268435455
def ptI (v : Int64) (k : Nat) : Int64 := pm ((lsl ((hfI (kU v) (k + 1)).toInt64) (nI 28)) ||| (hfI (kL v) (k + 1)).toInt64) 56 4
/-- the round keys, six bits a box -/
def dkI (v : Int64) : Nat → Int32 := fun i => ((lus (ptI v (i / 8)) (nI (42 - 6 * (i % 8)))).toInt32) &&& nI 63
theorem dk_i {v : Int64} {k j : Nat} (hj : j < 8) : dkI v (k * 8 + j) = ((lus (ptI v k) (nI (42 - 6 * j))).toInt32) &&& nI 63 := by
  simp only [dkI]
  rw [show (k * 8 + j) / 8 = k by omega, show (k * 8 + j) % 8 = j by omega]
def rgI (x : Int32) : Int64 := ((lsl ((x &&& nI 1).toInt64) (nI 33)) ||| (lsl (x.toInt64 &&& lN 4294967295) (nI 1))) ||| ((ush x (nI 31)).toInt64)
def sxI (fk : Nat → Int32) (x : Int32) (q b : Nat) : Nat := ((((lus (rgI x) (nI (28 - 4 * b))).toInt32) ^^^ fk (q * 8 + b))).toBitVec.toNat % 2 ^ 6
theorem sx_lt (fk : Nat → Int32) (x : Int32) (q b : Nat) : sxI fk x q b < 64 := Nat.mod_lt _ (by decide)
def scI (fk fx : Nat → Int32) (x : Int32) (q : Nat) : Nat → Int32
  | 0 => nI 0
  | b + 1 => scI fk fx x q b ||| fx (b * 64 + sxI fk x q b)
/-- the halves behind n rounds -/
def rdI (fk fx : Nat → Int32) (ix : Nat → Nat) (y x : Int32) : Nat → Int32 × Int32
  | 0 => (y, x)
  | n + 1 => ((rdI fk fx ix y x n).2, (rdI fk fx ix y x n).1 ^^^ scI fk fx (rdI fk fx ix y x n).2 (ix n) 8)
def rdO (p : Int32 × Int32) : Int64 := (lsl (p.2.toInt64) (nI 32)) ||| (p.1.toInt64 &&& lN 4294967295)
def rds (fk fx : Nat → Int32) (ix : Nat → Nat) (v : Int64) : Int64 := rdO (rdI fk fx ix ((lus v (nI 32)).toInt32) (v.toInt32) 16)
def cdI (fk fx : Nat → Int32) (ix : Nat → Nat) (v : Int64) : Int64 := pm (rds fk fx ix (pm v 64 1)) 64 2
def gaI (f : Nat → Int32) : Nat → Int64
  | 0 => lN 0
  | k + 1 => (lsl (gaI f k) (nI 8)) ||| ((f k &&& nI 255).toInt64)
def spR (v : Int64) : Nat → Int64
  | 0 => v
  | k + 1 => lus (spR v k) (nI 8)
def spB (v : Int64) : Nat → Int32 := fun j => ((spR v (7 - j)).toInt32) &&& nI 255
def fh (k : Nat) (g f : Nat → Int32) : Nat → Int32 := fun j => if 8 - k ≤ j then g j else f j
theorem fh_s {k : Nat} {g f : Nat → Int32} {v : Int32} (hk : k < 8) (h : v = g (8 - k - 1)) : upd (fh k g f) (8 - k - 1) v = fh (k + 1) g f := by
  funext j
  simp only [upd, fh]
  by_cases h1 : j = 8 - k - 1
  · rw [if_pos h1, if_pos (by omega), h, h1]
  · rw [if_neg h1]
    by_cases h2 : 8 - k ≤ j
    · rw [if_pos h2, if_pos (by omega)]
    · rw [if_neg h2, if_neg (by omega)]
theorem fh_8 {g f : Nat → Int32} : fh 8 g f = g := by funext j; simp only [fh]; rw [if_pos (by omega)]
def d3T (f1 f2 fx f : Nat → Int32) : Nat → Int32 := spB (pm (rds f1 fx (fun i_ => i_) (rds f2 fx (fun i_ => 15 - i_) (rds f1 fx (fun i_ => i_) (pm (gaI f 8) 64 1)))) 64 2)
def d3B (f1 f2 fx f : Nat → Int32) : Nat → Int32 := spB (pm (rds f1 fx (fun i_ => 15 - i_) (rds f2 fx (fun i_ => i_) (rds f1 fx (fun i_ => 15 - i_) (pm (gaI f 8) 64 1)))) 64 2)
set_option maxHeartbeats 4000000 in
set_option maxRecDepth 100000 in
theorem c_Des_permute (l : Launch) (G : wG) (v : Int64) (w t : Nat) (ht : t < 10) : CMl l G yX3_permute wsX3_permute 0 0 [.long v, .int (nI w), .ref (G.2.2.2 t)] [] (fun r (_ : Unit) => r = pm v w t) (fun _ => []) := by
  refine CMl.start cX3_permute 10 (by decide) rfl (Nat.le_of_ble_eq_true rfl) ?_
  intro p e s m below meth c A Q ls H locs hx hb hml hown hts hK hT hA hP hD hS hl hret
  have hl : lv_has ls 10 [(0, .long v), (2, .int (nI w)), (3, .ref (G.2.2.2 t))] := hl
  have hlt := tbL_le t ht
  refine lv_lconst (v := lN 0) hx hb dX3_permute_0 rfl ?_
  refine lv_lstore (lv' := [(4, .long (lN 0)), (0, .long v), (2, .int (nI w)), (3, .ref (G.2.2.2 t))]) hx hb dX3_permute_1 hl (by decide) rfl (fun ls hl => ?_)
  refine lv_aload_n hx hb dX3_permute_3 rfl (lv_at hl 3 rfl) ?_
  refine lv_astore (lv' := [(6, .ref (G.2.2.2 t)), (4, .long (lN 0)), (0, .long v), (2, .int (nI w)), (3, .ref (G.2.2.2 t))]) hx hb dX3_permute_4 hl (by decide) rfl (fun ls hl => ?_)
  refine lv_aload hx hb dX3_permute_6 (lv_at hl 0 rfl) ?_
  refine w_tlen hx hb hT hS ht dX3_permute_8 ?_
  refine lv_istore (lv' := [(7, .int (nI (tbL t))), (6, .ref (G.2.2.2 t)), (4, .long (lN 0)), (0, .long v), (2, .int (nI w)), (3, .ref (G.2.2.2 t))]) hx hb dX3_permute_9 hl (by decide) rfl (fun ls hl => ?_)
  refine lv_iconst (v := nI 0) hx hb dX3_permute_11 (by decide) ?_
  refine lv_istore (lv' := [(8, .int (nI 0)), (7, .int (nI (tbL t))), (6, .ref (G.2.2.2 t)), (4, .long (lN 0)), (0, .long v), (2, .int (nI w)), (3, .ref (G.2.2.2 t))]) hx hb dX3_permute_12 hl (by decide) rfl (fun ls hl => ?_)
  refine w_loop (ι := Nat) (fun k => tbL t - k) (fun k => k ≤ tbL t) (fun k => []) (fun k => [(8, .int (nI k)), (7, .int (nI (tbL t))), (6, .ref (G.2.2.2 t)), (4, .long (pmI v w t k)), (0, .long v), (2, .int (nI w)), (3, .ref (G.2.2.2 t))]) 0 (Nat.zero_le _) hP hD hS hl ?_
  intro k H locs ls hk hP hD hS hl ih
  have hk : k ≤ tbL t := hk
  have hP : va_P G.1 vwCl [] H := hP
  have hD : va_D A [] := hD
  have hl : lv_has ls 10 [(8, .int (nI k)), (7, .int (nI (tbL t))), (6, .ref (G.2.2.2 t)), (4, .long (pmI v w t k)), (0, .long v), (2, .int (nI w)), (3, .ref (G.2.2.2 t))] := hl
  refine lv_iload hx hb dX3_permute_14 (lv_at hl 0 rfl) ?_
  refine lv_iload hx hb dX3_permute_16 (lv_at hl 1 rfl) ?_
  refine w_icmpN_ge (tgt := 49) hx hb (by omega) (by omega) dX3_permute_18 (by decide) (fun h1 => ?_) (fun h1 => ?_)
  · obtain rfl : tbL t = k := Eq.symm (show k = tbL t from by omega)
    refine lv_lload hx hb dX3_permute_49 (lv_at hl 3 rfl) ?_
    exact hret (pmI v w t (tbL t)) () H _ 51 ls dX3_permute_51 (rfl) (hP.sub [] rfl) (hD.sub [] (by decide) rfl) hS
  · refine lv_aload hx hb dX3_permute_21 (lv_at hl 2 rfl) ?_
    refine lv_iload hx hb dX3_permute_23 (lv_at hl 0 rfl) ?_
    refine w_ti hx hb hT hS ht (by omega) dX3_permute_25 ?_
    refine lv_istore (lv' := [(9, .int (nI (tbV t k))), (8, .int (nI k)), (7, .int (nI (tbL t))), (6, .ref (G.2.2.2 t)), (4, .long (pmI v w t k)), (0, .long v), (2, .int (nI w)), (3, .ref (G.2.2.2 t))]) hx hb dX3_permute_26 hl (by decide) rfl (fun ls hl => ?_)
    refine lv_lload hx hb dX3_permute_28 (lv_at hl 4 rfl) ?_
    refine lv_iconst (v := nI 1) hx hb dX3_permute_30 (by decide) ?_
    refine lv_lshl (v := lsl (pmI v w t k) (nI 1)) hx hb dX3_permute_31 rfl ?_
    refine lv_lload_n hx hb dX3_permute_32 rfl (lv_at hl 5 rfl) ?_
    refine lv_iload_n hx hb dX3_permute_33 rfl (lv_at hl 6 rfl) ?_
    refine lv_iload hx hb dX3_permute_34 (lv_at hl 0 rfl) ?_
    refine lv_isub hx hb dX3_permute_36 ?_
    refine lv_lushr (v := lus v ((nI w) - (nI (tbV t k)))) hx hb dX3_permute_37 rfl ?_
    refine lv_lconst (v := lN 1) hx hb dX3_permute_38 rfl ?_
    refine lv_land hx hb dX3_permute_39 ?_
    refine lv_lor hx hb dX3_permute_40 ?_
    refine lv_lstore (lv' := [(4, .long ((lsl (pmI v w t k) (nI 1)) ||| ((lus v ((nI w) - (nI (tbV t k)))) &&& (lN 1)))), (9, .int (nI (tbV t k))), (8, .int (nI k)), (7, .int (nI (tbL t))), (6, .ref (G.2.2.2 t)), (0, .long v), (2, .int (nI w)), (3, .ref (G.2.2.2 t))]) hx hb dX3_permute_41 hl (by decide) rfl (fun ls hl => ?_)
    refine lv_iinc (v := nI (k + 1)) (lv' := [(8, .int (nI (k + 1))), (4, .long ((lsl (pmI v w t k) (nI 1)) ||| ((lus v ((nI w) - (nI (tbV t k)))) &&& (lN 1)))), (9, .int (nI (tbV t k))), (7, .int (nI (tbL t))), (6, .ref (G.2.2.2 t)), (0, .long v), (2, .int (nI w)), (3, .ref (G.2.2.2 t))]) hx hb dX3_permute_43 hl (k := 2) rfl (nI_add k 1) (by decide) rfl (fun ls hl => ?_)
    refine lv_goto (tgt := 14) hx hb dX3_permute_46 (by decide) ?_
    exact ih (k + 1) H _ _ (by omega) (by omega) hP hD hS (lv_sub hl [0, 3, 4, 1, 5, 6, 7] rfl)

set_option maxHeartbeats 4000000 in
set_option maxRecDepth 100000 in
theorem c_Des_turnHalf (l : Launch) (G : wG) (x : Int32) (b : Nat)  : CMi l G yX3_turnHalf wsX3_turnHalf 0 0 [.int x, .int (nI b)] [] (fun r (_ : Unit) => r = thI x b) (fun _ => []) := by
  refine CMi.start cX3_turnHalf 2 .int (by decide) rfl (Nat.le_of_ble_eq_true rfl) (fun r u h => vp_nar_int r) ?_
  intro p e s m below meth c A Q ls H locs hx hb hml hown hts hK hT hA hP hD hS hl hret
  have hl : lv_has ls 2 [(0, .int x), (1, .int (nI b))] := hl
  refine lv_iload_n hx hb dX3_turnHalf_0 rfl (lv_at hl 0 rfl) ?_
  refine lv_iload_n hx hb dX3_turnHalf_1 rfl (lv_at hl 1 rfl) ?_
  refine lv_ishl hx hb dX3_turnHalf_2 ?_
  refine lv_iload_n hx hb dX3_turnHalf_3 rfl (lv_at hl 0 rfl) ?_
  refine lv_bipush (v := nI 28) hx hb dX3_turnHalf_4 (by decide) ?_
  refine lv_iload_n hx hb dX3_turnHalf_6 rfl (lv_at hl 1 rfl) ?_
  refine lv_isub hx hb dX3_turnHalf_7 ?_
  refine lv_iushr (v := ush x ((nI 28) - (nI b))) hx hb dX3_turnHalf_8 rfl ?_
  refine lv_ior hx hb dX3_turnHalf_9 ?_
  refine lv_ldc hx hb hown (hts (.constant RX3 29 (268435455)) (by decide +kernel)) dX3_turnHalf_10 ?_
  refine w_top (nI 268435455) (by decide) ?_
  refine lv_iand hx hb dX3_turnHalf_12 ?_
  exact hret (((x <<< ((nI b) &&& 31)) ||| (ush x ((nI 28) - (nI b)))) &&& (nI 268435455)) () H _ 13 ls dX3_turnHalf_13 (rfl) (hP.sub [] rfl) (hD.sub [] (by decide) rfl) hS

theorem tb_5 : tbL 5 = 16 := by decide +kernel
set_option maxHeartbeats 4000000 in
set_option maxRecDepth 100000 in
theorem c_Des_schedule (l : Launch) (G : wG) (h dx dk : Nat) (fk : Nat → Int32) (v : Int64)  : CMv l G yX3_schedule wsX3_schedule 1 29 0 0 [.ref h, .long v] [(h, .inr (2, [.ref dx, .ref dk])), (dk, .inl (G.2.1, 128, .inl fk))] (fun (_ : Unit) => True) (fun _ => [(h, .inr (2, [.ref dx, .ref dk])), (dk, .inl (G.2.1, 128, .inl (dkI v)))]) := by
  refine CMv.start cX3_schedule 11 (by decide) rfl (Nat.le_of_ble_eq_true rfl) ?_
  intro p e s m below meth c A Q ls H locs hx hb hml hown hnm hts hK hT hA hP hD hS hl hret
  have hinX3 : ∀ w ∈ u_ws RX3 TX3 2, w ∈ wsX3_schedule := by decide +kernel
  have hl : lv_has ls 11 [(0, .ref h), (1, .long v)] := hl
  refine lv_lload_n hx hb dX3_schedule_0 rfl (lv_at hl 1 rfl) ?_
  refine lv_bipush (v := nI 64) hx hb dX3_schedule_1 (by decide) ?_
  refine w_gets hx hb hT hS 3 (by decide) hown (hts (.fieldLink RX3 22 "CipherBox$Des" "CHOICE_1" "[I") (by decide +kernel)) dX3_schedule_3 ?_
  refine w_finl (wr := [(h, .inr (2, [.ref dx, .ref dk])), (dk, .inl (G.2.1, 128, .inl fk))]) (va_runS (As := [.long v, .int (nI 64), .ref (G.2.2.2 3)]) (rest := []) ⟨hx, hb, hml, hown, hts⟩ (c_Des_permute l G v 64 3 (by omega) H.size) (va_cwS 3 hts gX3_schedule_X3_permute rfl rfl rfl (by decide +kernel) ⟨Nat.le_of_ble_eq_true rfl, Nat.le_of_ble_eq_true rfl⟩) ⟨wPre.blind, (fun U hU hW => ⟨rfl, w_pre hK hT hA hP hD hS (isC := []) (by decide) rfl U hU hW⟩)⟩ rfl rfl hl.1 rfl (lv_room (Nat.le_of_ble_eq_true rfl)) dX3_schedule_6 ⟨Nat.le_of_ble_eq_true rfl, Nat.le_of_ble_eq_true rfl⟩) hA hP hD hS [] [0, 1] rfl rfl (by decide) (by decide) (fun r u H locs hpost hP hD hS => ?_)
  obtain rfl := hpost
  have hP : va_P G.1 vwCl [(h, .inr (2, [.ref dx, .ref dk])), (dk, .inl (G.2.1, 128, .inl fk))] H := hP
  have hD : va_D A [(h, .inr (2, [.ref dx, .ref dk])), (dk, .inl (G.2.1, 128, .inl fk))] := hD
  refine lv_lstore_n (lv' := [(3, .long (pm v 64 3)), (0, .ref h), (1, .long v)]) hx hb dX3_schedule_9 rfl hl (by decide) rfl (fun ls hl => ?_)
  refine lv_lload_n hx hb dX3_schedule_10 rfl (lv_at hl 0 rfl) ?_
  refine lv_bipush (v := nI 28) hx hb dX3_schedule_11 (by decide) ?_
  refine lv_lushr (v := lus (pm v 64 3) (nI 28)) hx hb dX3_schedule_13 rfl ?_
  refine lv_l2i (v := ((lus (pm v 64 3) (nI 28))).toInt32) hx hb dX3_schedule_14 rfl ?_
  refine lv_ldc hx hb hown (hts (.constant RX3 29 (268435455)) (by decide +kernel)) dX3_schedule_15 ?_
  refine w_top (nI 268435455) (by decide) ?_
  refine lv_iand hx hb dX3_schedule_17 ?_
  refine lv_istore (lv' := [(5, .int ((((lus (pm v 64 3) (nI 28))).toInt32) &&& (nI 268435455))), (3, .long (pm v 64 3)), (0, .ref h), (1, .long v)]) hx hb dX3_schedule_18 hl (by decide) rfl (fun ls hl => ?_)
  refine lv_lload_n hx hb dX3_schedule_20 rfl (lv_at hl 1 rfl) ?_
  refine lv_l2i (v := ((pm v 64 3)).toInt32) hx hb dX3_schedule_21 rfl ?_
  refine lv_ldc hx hb hown (hts (.constant RX3 29 (268435455)) (by decide +kernel)) dX3_schedule_22 ?_
  refine w_top (nI 268435455) (by decide) ?_
  refine lv_iand hx hb dX3_schedule_24 ?_
  refine lv_istore (lv' := [(6, .int ((((pm v 64 3)).toInt32) &&& (nI 268435455))), (5, .int ((((lus (pm v 64 3) (nI 28))).toInt32) &&& (nI 268435455))), (3, .long (pm v 64 3)), (0, .ref h), (1, .long v)]) hx hb dX3_schedule_25 hl (by decide) rfl (fun ls hl => ?_)
  refine lv_iconst (v := nI 0) hx hb dX3_schedule_27 (by decide) ?_
  refine lv_istore (lv' := [(7, .int (nI 0)), (6, .int ((((pm v 64 3)).toInt32) &&& (nI 268435455))), (5, .int ((((lus (pm v 64 3) (nI 28))).toInt32) &&& (nI 268435455))), (3, .long (pm v 64 3)), (0, .ref h), (1, .long v)]) hx hb dX3_schedule_28 hl (by decide) rfl (fun ls hl => ?_)
  refine w_loop (ι := Nat) (fun k => 16 - k) (fun k => k ≤ 16) (fun k => [(h, .inr (2, [.ref dx, .ref dk])), (dk, .inl (G.2.1, 128, .inl (fl (k * 8) (dkI v) fk)))]) (fun k => [(7, .int (nI k)), (6, .int (hfI (kL v) k)), (5, .int (hfI (kU v) k)), (3, .long (pm v 64 3)), (0, .ref h), (1, .long v)]) 0 (by omega) (by simp only [Nat.zero_mul, fl_0]; exact hP) (by simp only [Nat.zero_mul, fl_0]; exact hD) hS hl ?_
  intro k H locs ls hk hP hD hS hl ih
  have hk : k ≤ 16 := hk
  have hP : va_P G.1 vwCl [(h, .inr (2, [.ref dx, .ref dk])), (dk, .inl (G.2.1, 128, .inl (fl (k * 8) (dkI v) fk)))] H := hP
  have hD : va_D A [(h, .inr (2, [.ref dx, .ref dk])), (dk, .inl (G.2.1, 128, .inl (fl (k * 8) (dkI v) fk)))] := hD
  have hl : lv_has ls 11 [(7, .int (nI k)), (6, .int (hfI (kL v) k)), (5, .int (hfI (kU v) k)), (3, .long (pm v 64 3)), (0, .ref h), (1, .long v)] := hl
  refine lv_iload hx hb dX3_schedule_30 (lv_at hl 0 rfl) ?_
  refine lv_bipush (v := nI 16) hx hb dX3_schedule_32 (by decide) ?_
  refine w_icmpN_ge (tgt := 133) hx hb (by omega) (by omega) dX3_schedule_34 (by decide) (fun h1 => ?_) (fun h1 => ?_)
  · obtain rfl : 16 = k := Eq.symm (show k = 16 from by omega)
    have hP := w_ext (fl (16 * 8) (dkI v) fk) (dkI v) 1 hP rfl (fun j hj => fl_in (by omega))
    have hD := hD.set (p := 1) (e := .inl (G.2.1, 128, .inl (dkI v))) rfl
    have hP : va_P G.1 vwCl [(h, .inr (2, [.ref dx, .ref dk])), (dk, .inl (G.2.1, 128, .inl (dkI v)))] H := hP
    have hD : va_D A [(h, .inr (2, [.ref dx, .ref dk])), (dk, .inl (G.2.1, 128, .inl (dkI v)))] := hD
    exact hret () H _ 133 ls dX3_schedule_133 (trivial) (hP.sub [0, 1] rfl) (hD.sub [0, 1] (by decide) rfl) hS
  · refine lv_iload hx hb dX3_schedule_37 (lv_at hl 2 rfl) ?_
    refine w_gets hx hb hT hS 5 (by decide) hown (hts (.fieldLink RX3 30 "CipherBox$Des" "LEFT_SHIFTS" "[I") (by decide +kernel)) dX3_schedule_39 ?_
    refine lv_iload hx hb dX3_schedule_42 (lv_at hl 0 rfl) ?_
    refine w_ti hx hb hT hS (by decide) (by rw [tb_5]; omega) dX3_schedule_44 ?_
    refine w_fini (wr := [(h, .inr (2, [.ref dx, .ref dk])), (dk, .inl (G.2.1, 128, .inl (fl (k * 8) (dkI v) fk)))]) (va_runS (As := [.int (hfI (kU v) k), .int (nI (tbV 5 k))]) (rest := []) ⟨hx, hb, hml, hown, hts⟩ (c_Des_turnHalf l G (hfI (kU v) k) (tbV 5 k) H.size) (va_cwS 2 hts gX3_schedule_X3_turnHalf rfl rfl rfl (by decide +kernel) ⟨Nat.le_of_ble_eq_true rfl, Nat.le_of_ble_eq_true rfl⟩) ⟨wPre.blind, (fun U hU hW => ⟨rfl, w_pre hK hT hA hP hD hS (isC := []) (by decide) rfl U hU hW⟩)⟩ rfl rfl hl.1 rfl (lv_room (Nat.le_of_ble_eq_true rfl)) dX3_schedule_45 ⟨Nat.le_of_ble_eq_true rfl, Nat.le_of_ble_eq_true rfl⟩) hA hP hD hS [] [0, 1] rfl rfl (by decide) (by decide) (fun r u H locs hpost hP hD hS => ?_)
    obtain rfl := hpost
    have hP : va_P G.1 vwCl [(h, .inr (2, [.ref dx, .ref dk])), (dk, .inl (G.2.1, 128, .inl (fl (k * 8) (dkI v) fk)))] H := hP
    have hD : va_D A [(h, .inr (2, [.ref dx, .ref dk])), (dk, .inl (G.2.1, 128, .inl (fl (k * 8) (dkI v) fk)))] := hD
    refine lv_istore (lv' := [(5, .int (thI (hfI (kU v) k) (tbV 5 k))), (7, .int (nI k)), (6, .int (hfI (kL v) k)), (3, .long (pm v 64 3)), (0, .ref h), (1, .long v)]) hx hb dX3_schedule_48 hl (by decide) rfl (fun ls hl => ?_)
    refine lv_iload hx hb dX3_schedule_50 (lv_at hl 2 rfl) ?_
    refine w_gets hx hb hT hS 5 (by decide) hown (hts (.fieldLink RX3 30 "CipherBox$Des" "LEFT_SHIFTS" "[I") (by decide +kernel)) dX3_schedule_52 ?_
    refine lv_iload hx hb dX3_schedule_55 (lv_at hl 1 rfl) ?_
    refine w_ti hx hb hT hS (by decide) (by rw [tb_5]; omega) dX3_schedule_57 ?_
    refine w_fini (wr := [(h, .inr (2, [.ref dx, .ref dk])), (dk, .inl (G.2.1, 128, .inl (fl (k * 8) (dkI v) fk)))]) (va_runS (As := [.int (hfI (kL v) k), .int (nI (tbV 5 k))]) (rest := []) ⟨hx, hb, hml, hown, hts⟩ (c_Des_turnHalf l G (hfI (kL v) k) (tbV 5 k) H.size) (va_cwS 2 hts gX3_schedule_X3_turnHalf rfl rfl rfl (by decide +kernel) ⟨Nat.le_of_ble_eq_true rfl, Nat.le_of_ble_eq_true rfl⟩) ⟨wPre.blind, (fun U hU hW => ⟨rfl, w_pre hK hT hA hP hD hS (isC := []) (by decide) rfl U hU hW⟩)⟩ rfl rfl hl.1 rfl (lv_room (Nat.le_of_ble_eq_true rfl)) dX3_schedule_58 ⟨Nat.le_of_ble_eq_true rfl, Nat.le_of_ble_eq_true rfl⟩) hA hP hD hS [] [0, 1] rfl rfl (by decide) (by decide) (fun r u H locs hpost hP hD hS => ?_)
    obtain rfl := hpost
    have hP : va_P G.1 vwCl [(h, .inr (2, [.ref dx, .ref dk])), (dk, .inl (G.2.1, 128, .inl (fl (k * 8) (dkI v) fk)))] H := hP
    have hD : va_D A [(h, .inr (2, [.ref dx, .ref dk])), (dk, .inl (G.2.1, 128, .inl (fl (k * 8) (dkI v) fk)))] := hD
    refine lv_istore (lv' := [(6, .int (thI (hfI (kL v) k) (tbV 5 k))), (5, .int (thI (hfI (kU v) k) (tbV 5 k))), (7, .int (nI k)), (3, .long (pm v 64 3)), (0, .ref h), (1, .long v)]) hx hb dX3_schedule_61 hl (by decide) rfl (fun ls hl => ?_)
    refine lv_iload hx hb dX3_schedule_63 (lv_at hl 1 rfl) ?_
    refine lv_i2l (v := ((thI (hfI (kU v) k) (tbV 5 k))).toInt64) hx hb dX3_schedule_65 rfl ?_
    refine lv_bipush (v := nI 28) hx hb dX3_schedule_66 (by decide) ?_
    refine lv_lshl (v := lsl (((thI (hfI (kU v) k) (tbV 5 k))).toInt64) (nI 28)) hx hb dX3_schedule_68 rfl ?_
    refine lv_iload hx hb dX3_schedule_69 (lv_at hl 0 rfl) ?_
    refine lv_i2l (v := ((thI (hfI (kL v) k) (tbV 5 k))).toInt64) hx hb dX3_schedule_71 rfl ?_
    refine lv_lor hx hb dX3_schedule_72 ?_
    refine lv_bipush (v := nI 56) hx hb dX3_schedule_73 (by decide) ?_
    refine w_gets hx hb hT hS 4 (by decide) hown (hts (.fieldLink RX3 37 "CipherBox$Des" "CHOICE_2" "[I") (by decide +kernel)) dX3_schedule_75 ?_
    refine w_finl (wr := [(h, .inr (2, [.ref dx, .ref dk])), (dk, .inl (G.2.1, 128, .inl (fl (k * 8) (dkI v) fk)))]) (va_runS (As := [.long ((lsl (((thI (hfI (kU v) k) (tbV 5 k))).toInt64) (nI 28)) ||| (((thI (hfI (kL v) k) (tbV 5 k))).toInt64)), .int (nI 56), .ref (G.2.2.2 4)]) (rest := []) ⟨hx, hb, hml, hown, hts⟩ (c_Des_permute l G ((lsl (((thI (hfI (kU v) k) (tbV 5 k))).toInt64) (nI 28)) ||| (((thI (hfI (kL v) k) (tbV 5 k))).toInt64)) 56 4 (by omega) H.size) (va_cwS 3 hts gX3_schedule_X3_permute rfl rfl rfl (by decide +kernel) ⟨Nat.le_of_ble_eq_true rfl, Nat.le_of_ble_eq_true rfl⟩) ⟨wPre.blind, (fun U hU hW => ⟨rfl, w_pre hK hT hA hP hD hS (isC := []) (by decide) rfl U hU hW⟩)⟩ rfl rfl hl.1 rfl (lv_room (Nat.le_of_ble_eq_true rfl)) dX3_schedule_78 ⟨Nat.le_of_ble_eq_true rfl, Nat.le_of_ble_eq_true rfl⟩) hA hP hD hS [] [0, 1] rfl rfl (by decide) (by decide) (fun r u H locs hpost hP hD hS => ?_)
    obtain rfl := hpost
    have hP : va_P G.1 vwCl [(h, .inr (2, [.ref dx, .ref dk])), (dk, .inl (G.2.1, 128, .inl (fl (k * 8) (dkI v) fk)))] H := hP
    have hD : va_D A [(h, .inr (2, [.ref dx, .ref dk])), (dk, .inl (G.2.1, 128, .inl (fl (k * 8) (dkI v) fk)))] := hD
    refine lv_lstore (lv' := [(8, .long (pm ((lsl (((thI (hfI (kU v) k) (tbV 5 k))).toInt64) (nI 28)) ||| (((thI (hfI (kL v) k) (tbV 5 k))).toInt64)) 56 4)), (6, .int (thI (hfI (kL v) k) (tbV 5 k))), (5, .int (thI (hfI (kU v) k) (tbV 5 k))), (7, .int (nI k)), (3, .long (pm v 64 3)), (0, .ref h), (1, .long v)]) hx hb dX3_schedule_81 hl (by decide) rfl (fun ls hl => ?_)
    refine lv_iconst (v := nI 0) hx hb dX3_schedule_83 (by decide) ?_
    refine lv_istore (lv' := [(10, .int (nI 0)), (8, .long (pm ((lsl (((thI (hfI (kU v) k) (tbV 5 k))).toInt64) (nI 28)) ||| (((thI (hfI (kL v) k) (tbV 5 k))).toInt64)) 56 4)), (6, .int (thI (hfI (kL v) k) (tbV 5 k))), (5, .int (thI (hfI (kU v) k) (tbV 5 k))), (7, .int (nI k)), (3, .long (pm v 64 3)), (0, .ref h), (1, .long v)]) hx hb dX3_schedule_84 hl (by decide) rfl (fun ls hl => ?_)
    refine w_loop (ι := Nat) (fun j => 8 - j) (fun j => j ≤ 8) (fun j => [(h, .inr (2, [.ref dx, .ref dk])), (dk, .inl (G.2.1, 128, .inl (fl (k * 8 + j) (dkI v) fk)))]) (fun j => [(10, .int (nI j)), (8, .long (ptI v k)), (6, .int (thI (hfI (kL v) k) (tbV 5 k))), (5, .int (thI (hfI (kU v) k) (tbV 5 k))), (7, .int (nI k)), (3, .long (pm v 64 3)), (0, .ref h), (1, .long v)]) 0 (by omega) hP hD hS hl ?_
    intro j H locs ls hj hP hD hS hl ih2
    have hj : j ≤ 8 := hj
    have hP : va_P G.1 vwCl [(h, .inr (2, [.ref dx, .ref dk])), (dk, .inl (G.2.1, 128, .inl (fl (k * 8 + j) (dkI v) fk)))] H := hP
    have hD : va_D A [(h, .inr (2, [.ref dx, .ref dk])), (dk, .inl (G.2.1, 128, .inl (fl (k * 8 + j) (dkI v) fk)))] := hD
    have hl : lv_has ls 11 [(10, .int (nI j)), (8, .long (ptI v k)), (6, .int (thI (hfI (kL v) k) (tbV 5 k))), (5, .int (thI (hfI (kU v) k) (tbV 5 k))), (7, .int (nI k)), (3, .long (pm v 64 3)), (0, .ref h), (1, .long v)] := hl
    refine lv_iload hx hb dX3_schedule_86 (lv_at hl 0 rfl) ?_
    refine lv_bipush (v := nI 8) hx hb dX3_schedule_88 (by decide) ?_
    refine w_icmpN_ge (tgt := 127) hx hb (by omega) (by omega) dX3_schedule_90 (by decide) (fun h2 => ?_) (fun h2 => ?_)
    · obtain rfl : 8 = j := Eq.symm (show j = 8 from by omega)
      refine lv_iinc (v := nI (k + 1)) (lv' := [(7, .int (nI (k + 1))), (10, .int (nI 8)), (8, .long (ptI v k)), (6, .int (thI (hfI (kL v) k) (tbV 5 k))), (5, .int (thI (hfI (kU v) k) (tbV 5 k))), (3, .long (pm v 64 3)), (0, .ref h), (1, .long v)]) hx hb dX3_schedule_127 hl (k := 4) rfl (nI_add k 1) (by decide) rfl (fun ls hl => ?_)
      refine lv_goto (tgt := 30) hx hb dX3_schedule_130 (by decide) ?_
      exact ih (k + 1) H _ _ (by omega) (by omega) (by have h9 : va_P G.1 vwCl [(h, .inr (2, [.ref dx, .ref dk])), (dk, .inl (G.2.1, 128, .inl (fl (k * 8 + 8) (dkI v) fk)))] H := hP; rw [show k * 8 + 8 = (k + 1) * 8 by omega] at h9; exact h9) (by have h9 : va_D A [(h, .inr (2, [.ref dx, .ref dk])), (dk, .inl (G.2.1, 128, .inl (fl (k * 8 + 8) (dkI v) fk)))] := hD; rw [show k * 8 + 8 = (k + 1) * 8 by omega] at h9; exact h9) hS (lv_sub hl [0, 3, 4, 5, 6, 7] rfl)
    · refine lv_aload_n hx hb dX3_schedule_93 rfl (lv_at hl 6 rfl) ?_
      refine va_get (D := G.1) (ci := 2) (v := .ref dk) (C := RX3) (T := TX3) (N := 2) hx hb hts hinX3 hown hK hP 0 rfl rfl 1 (by decide) (hts (.fieldLink RX3 9 "CipherBox$Des" "roundKeys" "[I") (by decide +kernel)) (fun _ h9 => h9) rfl dX3_schedule_94 ?_
      refine lv_iload hx hb dX3_schedule_97 (lv_at hl 4 rfl) ?_
      refine lv_bipush (v := nI 8) hx hb dX3_schedule_99 (by decide) ?_
      refine w_imulN hx hb dX3_schedule_101 ?_
      refine lv_iload hx hb dX3_schedule_102 (lv_at hl 0 rfl) ?_
      refine w_iaddN hx hb dX3_schedule_104 ?_
      refine lv_lload hx hb dX3_schedule_105 (lv_at hl 1 rfl) ?_
      refine lv_bipush (v := nI 42) hx hb dX3_schedule_107 (by decide) ?_
      refine lv_bipush (v := nI 6) hx hb dX3_schedule_109 (by decide) ?_
      refine lv_iload hx hb dX3_schedule_111 (lv_at hl 0 rfl) ?_
      refine w_imulN hx hb dX3_schedule_113 ?_
      refine w_isubN hx hb (by omega) dX3_schedule_114 ?_
      refine lv_lushr (v := lus (ptI v k) (nI (42 - (6 * j)))) hx hb dX3_schedule_115 rfl ?_
      refine lv_l2i (v := ((lus (ptI v k) (nI (42 - (6 * j))))).toInt32) hx hb dX3_schedule_116 rfl ?_
      refine lv_bipush (v := nI 63) hx hb dX3_schedule_117 (by decide) ?_
      refine lv_iand hx hb dX3_schedule_119 ?_
      refine w_iast hx hb hK hP hD hS 1 rfl (by omega) (by omega) (fl (k * 8 + (j + 1)) (dkI v) fk) (fl_s (k := k * 8 + j) (by rw [dk_i (by omega)])) dX3_schedule_120 (fun H locs hP hD hS => ?_)
      have hP : va_P G.1 vwCl [(h, .inr (2, [.ref dx, .ref dk])), (dk, .inl (G.2.1, 128, .inl (fl (k * 8 + (j + 1)) (dkI v) fk)))] H := hP
      have hD : va_D A [(h, .inr (2, [.ref dx, .ref dk])), (dk, .inl (G.2.1, 128, .inl (fl (k * 8 + (j + 1)) (dkI v) fk)))] := hD
      refine lv_iinc (v := nI (j + 1)) (lv' := [(10, .int (nI (j + 1))), (8, .long (ptI v k)), (6, .int (thI (hfI (kL v) k) (tbV 5 k))), (5, .int (thI (hfI (kU v) k) (tbV 5 k))), (7, .int (nI k)), (3, .long (pm v 64 3)), (0, .ref h), (1, .long v)]) hx hb dX3_schedule_121 hl (k := 0) rfl (nI_add j 1) (by decide) rfl (fun ls hl => ?_)
      refine lv_goto (tgt := 86) hx hb dX3_schedule_124 (by decide) ?_
      exact ih2 (j + 1) H _ _ (by omega) (by omega) hP hD hS (lv_sub hl [0, 1, 2, 3, 4, 5, 6, 7] rfl)

set_option maxHeartbeats 4000000 in
set_option maxRecDepth 100000 in
theorem c_Des_scrambled (l : Launch) (G : wG) (h dx dk : Nat) (fx fk : Nat → Int32) (x : Int32) (q : Nat) (hq : q < 16) : CMi l G yX3_scrambled wsX3_scrambled 0 0 [.ref h, .int x, .int (nI q)] [(h, .inr (2, [.ref dx, .ref dk])), (dx, .inl (G.2.1, 512, .inl fx)), (dk, .inl (G.2.1, 128, .inl fk))] (fun r (_ : Unit) => r = scI fk fx x q 8) (fun _ => [(h, .inr (2, [.ref dx, .ref dk])), (dx, .inl (G.2.1, 512, .inl fx)), (dk, .inl (G.2.1, 128, .inl fk))]) := by
  refine CMi.start cX3_scrambled 8 .int (by decide) rfl (Nat.le_of_ble_eq_true rfl) (fun r u h => vp_nar_int r) ?_
  intro p e s m below meth c A Q ls H locs hx hb hml hown hts hK hT hA hP hD hS hl hret
  have hinX3 : ∀ w ∈ u_ws RX3 TX3 2, w ∈ wsX3_scrambled := by decide +kernel
  have hl : lv_has ls 8 [(0, .ref h), (1, .int x), (2, .int (nI q))] := hl
  refine lv_iload_n hx hb dX3_scrambled_0 rfl (lv_at hl 1 rfl) ?_
  refine lv_iconst (v := nI 1) hx hb dX3_scrambled_1 (by decide) ?_
  refine lv_iand hx hb dX3_scrambled_2 ?_
  refine lv_i2l (v := ((x &&& (nI 1))).toInt64) hx hb dX3_scrambled_3 rfl ?_
  refine lv_bipush (v := nI 33) hx hb dX3_scrambled_4 (by decide) ?_
  refine lv_lshl (v := lsl (((x &&& (nI 1))).toInt64) (nI 33)) hx hb dX3_scrambled_6 rfl ?_
  refine lv_iload_n hx hb dX3_scrambled_7 rfl (lv_at hl 1 rfl) ?_
  refine lv_i2l (v := (x).toInt64) hx hb dX3_scrambled_8 rfl ?_
  refine lv_ldc2 hx hb hown (hts (.constantLong RX3 53 (4294967295)) (by decide +kernel)) dX3_scrambled_9 ?_
  refine w_topl (lN 4294967295) (by decide) ?_
  refine lv_land hx hb dX3_scrambled_12 ?_
  refine lv_iconst (v := nI 1) hx hb dX3_scrambled_13 (by decide) ?_
  refine lv_lshl (v := lsl (((x).toInt64) &&& (lN 4294967295)) (nI 1)) hx hb dX3_scrambled_14 rfl ?_
  refine lv_lor hx hb dX3_scrambled_15 ?_
  refine lv_iload_n hx hb dX3_scrambled_16 rfl (lv_at hl 1 rfl) ?_
  refine lv_bipush (v := nI 31) hx hb dX3_scrambled_17 (by decide) ?_
  refine lv_iushr (v := ush x (nI 31)) hx hb dX3_scrambled_19 rfl ?_
  refine lv_i2l (v := ((ush x (nI 31))).toInt64) hx hb dX3_scrambled_20 rfl ?_
  refine lv_lor hx hb dX3_scrambled_21 ?_
  refine lv_lstore_n (lv' := [(3, .long (((lsl (((x &&& (nI 1))).toInt64) (nI 33)) ||| (lsl (((x).toInt64) &&& (lN 4294967295)) (nI 1))) ||| (((ush x (nI 31))).toInt64))), (0, .ref h), (1, .int x), (2, .int (nI q))]) hx hb dX3_scrambled_22 rfl hl (by decide) rfl (fun ls hl => ?_)
  refine lv_iconst (v := nI 0) hx hb dX3_scrambled_23 (by decide) ?_
  refine lv_istore (lv' := [(5, .int (nI 0)), (3, .long (((lsl (((x &&& (nI 1))).toInt64) (nI 33)) ||| (lsl (((x).toInt64) &&& (lN 4294967295)) (nI 1))) ||| (((ush x (nI 31))).toInt64))), (0, .ref h), (1, .int x), (2, .int (nI q))]) hx hb dX3_scrambled_24 hl (by decide) rfl (fun ls hl => ?_)
  refine lv_iconst (v := nI 0) hx hb dX3_scrambled_26 (by decide) ?_
  refine lv_istore (lv' := [(6, .int (nI 0)), (5, .int (nI 0)), (3, .long (((lsl (((x &&& (nI 1))).toInt64) (nI 33)) ||| (lsl (((x).toInt64) &&& (lN 4294967295)) (nI 1))) ||| (((ush x (nI 31))).toInt64))), (0, .ref h), (1, .int x), (2, .int (nI q))]) hx hb dX3_scrambled_27 hl (by decide) rfl (fun ls hl => ?_)
  refine w_loop (ι := Nat) (fun k => 8 - k) (fun k => k ≤ 8) (fun k => [(h, .inr (2, [.ref dx, .ref dk])), (dx, .inl (G.2.1, 512, .inl fx)), (dk, .inl (G.2.1, 128, .inl fk))]) (fun k => [(6, .int (nI k)), (5, .int (scI fk fx x q k)), (3, .long (rgI x)), (0, .ref h), (1, .int x), (2, .int (nI q))]) 0 (by omega) hP hD hS hl ?_
  intro k H locs ls hk hP hD hS hl ih
  have hk : k ≤ 8 := hk
  have hP : va_P G.1 vwCl [(h, .inr (2, [.ref dx, .ref dk])), (dx, .inl (G.2.1, 512, .inl fx)), (dk, .inl (G.2.1, 128, .inl fk))] H := hP
  have hD : va_D A [(h, .inr (2, [.ref dx, .ref dk])), (dx, .inl (G.2.1, 512, .inl fx)), (dk, .inl (G.2.1, 128, .inl fk))] := hD
  have hl : lv_has ls 8 [(6, .int (nI k)), (5, .int (scI fk fx x q k)), (3, .long (rgI x)), (0, .ref h), (1, .int x), (2, .int (nI q))] := hl
  refine lv_iload hx hb dX3_scrambled_29 (lv_at hl 0 rfl) ?_
  refine lv_bipush (v := nI 8) hx hb dX3_scrambled_31 (by decide) ?_
  refine w_icmpN_ge (tgt := 88) hx hb (by omega) (by omega) dX3_scrambled_33 (by decide) (fun h1 => ?_) (fun h1 => ?_)
  · obtain rfl : 8 = k := Eq.symm (show k = 8 from by omega)
    refine lv_iload hx hb dX3_scrambled_88 (lv_at hl 1 rfl) ?_
    exact hret (scI fk fx x q 8) () H _ 90 ls dX3_scrambled_90 (rfl) (hP.sub [0, 1, 2] rfl) (hD.sub [0, 1, 2] (by decide) rfl) hS
  · refine lv_lload_n hx hb dX3_scrambled_36 rfl (lv_at hl 2 rfl) ?_
    refine lv_bipush (v := nI 28) hx hb dX3_scrambled_37 (by decide) ?_
    refine lv_iconst (v := nI 4) hx hb dX3_scrambled_39 (by decide) ?_
    refine lv_iload hx hb dX3_scrambled_40 (lv_at hl 0 rfl) ?_
    refine w_imulN hx hb dX3_scrambled_42 ?_
    refine w_isubN hx hb (by omega) dX3_scrambled_43 ?_
    refine lv_lushr (v := lus (rgI x) (nI (28 - (4 * k)))) hx hb dX3_scrambled_44 rfl ?_
    refine lv_l2i (v := ((lus (rgI x) (nI (28 - (4 * k))))).toInt32) hx hb dX3_scrambled_45 rfl ?_
    refine lv_aload_n hx hb dX3_scrambled_46 rfl (lv_at hl 3 rfl) ?_
    refine va_get (D := G.1) (ci := 2) (v := .ref dk) (C := RX3) (T := TX3) (N := 2) hx hb hts hinX3 hown hK hP 0 rfl rfl 1 (by decide) (hts (.fieldLink RX3 9 "CipherBox$Des" "roundKeys" "[I") (by decide +kernel)) (fun _ h9 => h9) rfl dX3_scrambled_47 ?_
    refine lv_iload_n hx hb dX3_scrambled_50 rfl (lv_at hl 5 rfl) ?_
    refine lv_bipush (v := nI 8) hx hb dX3_scrambled_51 (by decide) ?_
    refine w_imulN hx hb dX3_scrambled_53 ?_
    refine lv_iload hx hb dX3_scrambled_54 (lv_at hl 0 rfl) ?_
    refine w_iaddN hx hb dX3_scrambled_56 ?_
    refine w_iald hx hb hK hP 2 rfl (by omega) (by omega) dX3_scrambled_57 ?_
    refine lv_ixor hx hb dX3_scrambled_58 ?_
    refine lv_bipush (v := nI 63) hx hb dX3_scrambled_59 (by decide) ?_
    refine lv_iand hx hb dX3_scrambled_61 ?_
    refine w_top (nI (sxI fk x q k)) (pk_and _ 6 (by decide)) ?_
    refine lv_istore (lv' := [(7, .int (nI (sxI fk x q k))), (6, .int (nI k)), (5, .int (scI fk fx x q k)), (3, .long (rgI x)), (0, .ref h), (1, .int x), (2, .int (nI q))]) hx hb dX3_scrambled_62 hl (by decide) rfl (fun ls hl => ?_)
    refine lv_iload hx hb dX3_scrambled_64 (lv_at hl 2 rfl) ?_
    refine lv_aload_n hx hb dX3_scrambled_66 rfl (lv_at hl 4 rfl) ?_
    refine va_get (D := G.1) (ci := 2) (v := .ref dx) (C := RX3) (T := TX3) (N := 2) hx hb hts hinX3 hown hK hP 0 rfl rfl 0 (by decide) (hts (.fieldLink RX3 13 "CipherBox$Des" "boxes" "[I") (by decide +kernel)) (fun _ h9 => h9) rfl dX3_scrambled_67 ?_
    refine lv_iload hx hb dX3_scrambled_70 (lv_at hl 1 rfl) ?_
    refine lv_bipush (v := nI 64) hx hb dX3_scrambled_72 (by decide) ?_
    refine w_imulN hx hb dX3_scrambled_74 ?_
    refine lv_iload hx hb dX3_scrambled_75 (lv_at hl 0 rfl) ?_
    refine w_iaddN hx hb dX3_scrambled_77 ?_
    refine w_iald hx hb hK hP 1 rfl (by have := sx_lt fk x q k; omega) (by omega) dX3_scrambled_78 ?_
    refine lv_ior hx hb dX3_scrambled_79 ?_
    refine lv_istore (lv' := [(5, .int ((scI fk fx x q k) ||| (fx ((k * 64) + (sxI fk x q k))))), (7, .int (nI (sxI fk x q k))), (6, .int (nI k)), (3, .long (rgI x)), (0, .ref h), (1, .int x), (2, .int (nI q))]) hx hb dX3_scrambled_80 hl (by decide) rfl (fun ls hl => ?_)
    refine lv_iinc (v := nI (k + 1)) (lv' := [(6, .int (nI (k + 1))), (5, .int ((scI fk fx x q k) ||| (fx ((k * 64) + (sxI fk x q k))))), (7, .int (nI (sxI fk x q k))), (3, .long (rgI x)), (0, .ref h), (1, .int x), (2, .int (nI q))]) hx hb dX3_scrambled_82 hl (k := 2) rfl (nI_add k 1) (by decide) rfl (fun ls hl => ?_)
    refine lv_goto (tgt := 29) hx hb dX3_scrambled_85 (by decide) ?_
    exact ih (k + 1) H _ _ (by omega) (by omega) hP hD hS (lv_sub hl [0, 1, 3, 4, 5, 6] rfl)

set_option maxHeartbeats 4000000 in
set_option maxRecDepth 100000 in
theorem c_Des_rounds0 (l : Launch) (G : wG) (h dx dk : Nat) (fx fk : Nat → Int32) (v : Int64)  : CMl l G yX3_rounds wsX3_rounds 1 27 [.ref h, .long v, .int (nI 0)] [(h, .inr (2, [.ref dx, .ref dk])), (dx, .inl (G.2.1, 512, .inl fx)), (dk, .inl (G.2.1, 128, .inl fk))] (fun r (_ : Unit) => r = rds fk fx (fun i_ => i_) v) (fun _ => [(h, .inr (2, [.ref dx, .ref dk])), (dx, .inl (G.2.1, 512, .inl fx)), (dk, .inl (G.2.1, 128, .inl fk))]) := by
  refine CMl.start cX3_rounds 8 (by decide) rfl (Nat.le_of_ble_eq_true rfl) ?_
  intro p e s m below meth c A Q ls H locs hx hb hml hown hts hK hT hA hP hD hS hl hret
  have hl : lv_has ls 8 [(0, .ref h), (1, .long v), (3, .int (nI 0))] := hl
  refine lv_lload_n hx hb dX3_rounds_0 rfl (lv_at hl 1 rfl) ?_
  refine lv_bipush (v := nI 32) hx hb dX3_rounds_1 (by decide) ?_
  refine lv_lushr (v := lus v (nI 32)) hx hb dX3_rounds_3 rfl ?_
  refine lv_l2i (v := ((lus v (nI 32))).toInt32) hx hb dX3_rounds_4 rfl ?_
  refine lv_istore (lv' := [(4, .int (((lus v (nI 32))).toInt32)), (0, .ref h), (1, .long v), (3, .int (nI 0))]) hx hb dX3_rounds_5 hl (by decide) rfl (fun ls hl => ?_)
  refine lv_lload_n hx hb dX3_rounds_7 rfl (lv_at hl 2 rfl) ?_
  refine lv_l2i (v := (v).toInt32) hx hb dX3_rounds_8 rfl ?_
  refine lv_istore (lv' := [(5, .int ((v).toInt32)), (4, .int (((lus v (nI 32))).toInt32)), (0, .ref h), (1, .long v), (3, .int (nI 0))]) hx hb dX3_rounds_9 hl (by decide) rfl (fun ls hl => ?_)
  refine lv_iconst (v := nI 0) hx hb dX3_rounds_11 (by decide) ?_
  refine lv_istore (lv' := [(6, .int (nI 0)), (5, .int ((v).toInt32)), (4, .int (((lus v (nI 32))).toInt32)), (0, .ref h), (1, .long v), (3, .int (nI 0))]) hx hb dX3_rounds_12 hl (by decide) rfl (fun ls hl => ?_)
  refine w_loop (ι := Nat) (fun k => 16 - k) (fun k => k ≤ 16) (fun k => [(h, .inr (2, [.ref dx, .ref dk])), (dx, .inl (G.2.1, 512, .inl fx)), (dk, .inl (G.2.1, 128, .inl fk))]) (fun k => [(6, .int (nI k)), (5, .int ((rdI fk fx (fun i_ => i_) ((lus v (nI 32)).toInt32) (v.toInt32) k).2)), (4, .int ((rdI fk fx (fun i_ => i_) ((lus v (nI 32)).toInt32) (v.toInt32) k).1)), (0, .ref h), (1, .long v), (3, .int (nI 0))]) 0 (by omega) hP hD hS hl ?_
  intro k H locs ls hk hP hD hS hl ih
  have hk : k ≤ 16 := hk
  have hP : va_P G.1 vwCl [(h, .inr (2, [.ref dx, .ref dk])), (dx, .inl (G.2.1, 512, .inl fx)), (dk, .inl (G.2.1, 128, .inl fk))] H := hP
  have hD : va_D A [(h, .inr (2, [.ref dx, .ref dk])), (dx, .inl (G.2.1, 512, .inl fx)), (dk, .inl (G.2.1, 128, .inl fk))] := hD
  have hl : lv_has ls 8 [(6, .int (nI k)), (5, .int ((rdI fk fx (fun i_ => i_) ((lus v (nI 32)).toInt32) (v.toInt32) k).2)), (4, .int ((rdI fk fx (fun i_ => i_) ((lus v (nI 32)).toInt32) (v.toInt32) k).1)), (0, .ref h), (1, .long v), (3, .int (nI 0))] := hl
  refine lv_iload hx hb dX3_rounds_14 (lv_at hl 0 rfl) ?_
  refine lv_bipush (v := nI 16) hx hb dX3_rounds_16 (by decide) ?_
  refine w_icmpN_ge (tgt := 60) hx hb (by omega) (by omega) dX3_rounds_18 (by decide) (fun h1 => ?_) (fun h1 => ?_)
  · obtain rfl : 16 = k := Eq.symm (show k = 16 from by omega)
    refine lv_iload hx hb dX3_rounds_60 (lv_at hl 1 rfl) ?_
    refine lv_i2l (v := (((rdI fk fx (fun i_ => i_) ((lus v (nI 32)).toInt32) (v.toInt32) 16).2)).toInt64) hx hb dX3_rounds_62 rfl ?_
    refine lv_bipush (v := nI 32) hx hb dX3_rounds_63 (by decide) ?_
    refine lv_lshl (v := lsl ((((rdI fk fx (fun i_ => i_) ((lus v (nI 32)).toInt32) (v.toInt32) 16).2)).toInt64) (nI 32)) hx hb dX3_rounds_65 rfl ?_
    refine lv_iload hx hb dX3_rounds_66 (lv_at hl 2 rfl) ?_
    refine lv_i2l (v := (((rdI fk fx (fun i_ => i_) ((lus v (nI 32)).toInt32) (v.toInt32) 16).1)).toInt64) hx hb dX3_rounds_68 rfl ?_
    refine lv_ldc2 hx hb hown (hts (.constantLong RX3 53 (4294967295)) (by decide +kernel)) dX3_rounds_69 ?_
    refine w_topl (lN 4294967295) (by decide) ?_
    refine lv_land hx hb dX3_rounds_72 ?_
    refine lv_lor hx hb dX3_rounds_73 ?_
    exact hret ((lsl ((((rdI fk fx (fun i_ => i_) ((lus v (nI 32)).toInt32) (v.toInt32) 16).2)).toInt64) (nI 32)) ||| (((((rdI fk fx (fun i_ => i_) ((lus v (nI 32)).toInt32) (v.toInt32) 16).1)).toInt64) &&& (lN 4294967295))) () H _ 74 ls dX3_rounds_74 (rfl) (hP.sub [0, 1, 2] rfl) (hD.sub [0, 1, 2] (by decide) rfl) hS
  · refine lv_iload hx hb dX3_rounds_21 (lv_at hl 2 rfl) ?_
    refine lv_aload_n hx hb dX3_rounds_23 rfl (lv_at hl 3 rfl) ?_
    refine lv_iload hx hb dX3_rounds_24 (lv_at hl 1 rfl) ?_
    refine lv_iload_n hx hb dX3_rounds_26 rfl (lv_at hl 5 rfl) ?_
    refine w_ifN_eq (tgt := 38) hx hb (by omega) dX3_rounds_27 (by decide) (fun h2 => ?_) (fun h2 => ?_)
    · refine lv_iload hx hb dX3_rounds_38 (lv_at hl 0 rfl) ?_
      refine w_fini (wr := []) (va_runV (As := [.int ((rdI fk fx (fun i_ => i_) ((lus v (nI 32)).toInt32) (v.toInt32) k).2), .int (nI k)]) (rest := [.int ((rdI fk fx (fun i_ => i_) ((lus v (nI 32)).toInt32) (v.toInt32) k).1)]) ⟨hx, hb, hml, hown, hts⟩ (c_Des_scrambled l G h dx dk fx fk ((rdI fk fx (fun i_ => i_) ((lus v (nI 32)).toInt32) (v.toInt32) k).2) k (by omega) H.size) (cwV 2 hts gX3_rounds_X3_scrambled rfl rfl rfl (by decide +kernel) ⟨Nat.le_of_ble_eq_true rfl, Nat.le_of_ble_eq_true rfl⟩) ⟨wPre.blind, (va_recv hK hP (ci := 2) (q0 := 0) rfl rfl), (fun U hU hW => ⟨rfl, w_pre hK hT hA hP hD hS (isC := [0, 1, 2]) (by decide) rfl U hU hW⟩)⟩ rfl rfl hl.1 rfl (lv_room (Nat.le_of_ble_eq_true rfl)) dX3_rounds_40 ⟨Nat.le_of_ble_eq_true rfl, Nat.le_of_ble_eq_true rfl⟩) hA hP hD hS [0, 1, 2] [] rfl rfl (by decide) (by decide) (fun r u H locs hpost hP hD hS => ?_)
      obtain rfl := hpost
      have hP : va_P G.1 vwCl [(h, .inr (2, [.ref dx, .ref dk])), (dx, .inl (G.2.1, 512, .inl fx)), (dk, .inl (G.2.1, 128, .inl fk))] H := hP
      have hD : va_D A [(h, .inr (2, [.ref dx, .ref dk])), (dx, .inl (G.2.1, 512, .inl fx)), (dk, .inl (G.2.1, 128, .inl fk))] := hD
      refine lv_ixor hx hb dX3_rounds_43 ?_
      refine lv_istore (lv' := [(7, .int (((rdI fk fx (fun i_ => i_) ((lus v (nI 32)).toInt32) (v.toInt32) k).1) ^^^ (scI fk fx ((rdI fk fx (fun i_ => i_) ((lus v (nI 32)).toInt32) (v.toInt32) k).2) k 8))), (6, .int (nI k)), (5, .int ((rdI fk fx (fun i_ => i_) ((lus v (nI 32)).toInt32) (v.toInt32) k).2)), (4, .int ((rdI fk fx (fun i_ => i_) ((lus v (nI 32)).toInt32) (v.toInt32) k).1)), (0, .ref h), (1, .long v), (3, .int (nI 0))]) hx hb dX3_rounds_44 hl (by decide) rfl (fun ls hl => ?_)
      refine lv_iload hx hb dX3_rounds_46 (lv_at hl 2 rfl) ?_
      refine lv_istore (lv' := [(4, .int ((rdI fk fx (fun i_ => i_) ((lus v (nI 32)).toInt32) (v.toInt32) k).2)), (7, .int (((rdI fk fx (fun i_ => i_) ((lus v (nI 32)).toInt32) (v.toInt32) k).1) ^^^ (scI fk fx ((rdI fk fx (fun i_ => i_) ((lus v (nI 32)).toInt32) (v.toInt32) k).2) k 8))), (6, .int (nI k)), (5, .int ((rdI fk fx (fun i_ => i_) ((lus v (nI 32)).toInt32) (v.toInt32) k).2)), (0, .ref h), (1, .long v), (3, .int (nI 0))]) hx hb dX3_rounds_48 hl (by decide) rfl (fun ls hl => ?_)
      refine lv_iload hx hb dX3_rounds_50 (lv_at hl 1 rfl) ?_
      refine lv_istore (lv' := [(5, .int (((rdI fk fx (fun i_ => i_) ((lus v (nI 32)).toInt32) (v.toInt32) k).1) ^^^ (scI fk fx ((rdI fk fx (fun i_ => i_) ((lus v (nI 32)).toInt32) (v.toInt32) k).2) k 8))), (4, .int ((rdI fk fx (fun i_ => i_) ((lus v (nI 32)).toInt32) (v.toInt32) k).2)), (7, .int (((rdI fk fx (fun i_ => i_) ((lus v (nI 32)).toInt32) (v.toInt32) k).1) ^^^ (scI fk fx ((rdI fk fx (fun i_ => i_) ((lus v (nI 32)).toInt32) (v.toInt32) k).2) k 8))), (6, .int (nI k)), (0, .ref h), (1, .long v), (3, .int (nI 0))]) hx hb dX3_rounds_52 hl (by decide) rfl (fun ls hl => ?_)
      refine lv_iinc (v := nI (k + 1)) (lv' := [(6, .int (nI (k + 1))), (5, .int (((rdI fk fx (fun i_ => i_) ((lus v (nI 32)).toInt32) (v.toInt32) k).1) ^^^ (scI fk fx ((rdI fk fx (fun i_ => i_) ((lus v (nI 32)).toInt32) (v.toInt32) k).2) k 8))), (4, .int ((rdI fk fx (fun i_ => i_) ((lus v (nI 32)).toInt32) (v.toInt32) k).2)), (7, .int (((rdI fk fx (fun i_ => i_) ((lus v (nI 32)).toInt32) (v.toInt32) k).1) ^^^ (scI fk fx ((rdI fk fx (fun i_ => i_) ((lus v (nI 32)).toInt32) (v.toInt32) k).2) k 8))), (0, .ref h), (1, .long v), (3, .int (nI 0))]) hx hb dX3_rounds_54 hl (k := 3) rfl (nI_add k 1) (by decide) rfl (fun ls hl => ?_)
      refine lv_goto (tgt := 14) hx hb dX3_rounds_57 (by decide) ?_
      exact ih (k + 1) H _ _ (by omega) (by omega) hP hD hS (lv_sub hl [0, 1, 2, 4, 5, 6] rfl)
    · exact absurd rfl h2

set_option maxHeartbeats 4000000 in
set_option maxRecDepth 100000 in
theorem c_Des_rounds1 (l : Launch) (G : wG) (h dx dk : Nat) (fx fk : Nat → Int32) (v : Int64)  : CMl l G yX3_rounds wsX3_rounds 1 27 [.ref h, .long v, .int (nI 1)] [(h, .inr (2, [.ref dx, .ref dk])), (dx, .inl (G.2.1, 512, .inl fx)), (dk, .inl (G.2.1, 128, .inl fk))] (fun r (_ : Unit) => r = rds fk fx (fun i_ => 15 - i_) v) (fun _ => [(h, .inr (2, [.ref dx, .ref dk])), (dx, .inl (G.2.1, 512, .inl fx)), (dk, .inl (G.2.1, 128, .inl fk))]) := by
  refine CMl.start cX3_rounds 8 (by decide) rfl (Nat.le_of_ble_eq_true rfl) ?_
  intro p e s m below meth c A Q ls H locs hx hb hml hown hts hK hT hA hP hD hS hl hret
  have hl : lv_has ls 8 [(0, .ref h), (1, .long v), (3, .int (nI 1))] := hl
  refine lv_lload_n hx hb dX3_rounds_0 rfl (lv_at hl 1 rfl) ?_
  refine lv_bipush (v := nI 32) hx hb dX3_rounds_1 (by decide) ?_
  refine lv_lushr (v := lus v (nI 32)) hx hb dX3_rounds_3 rfl ?_
  refine lv_l2i (v := ((lus v (nI 32))).toInt32) hx hb dX3_rounds_4 rfl ?_
  refine lv_istore (lv' := [(4, .int (((lus v (nI 32))).toInt32)), (0, .ref h), (1, .long v), (3, .int (nI 1))]) hx hb dX3_rounds_5 hl (by decide) rfl (fun ls hl => ?_)
  refine lv_lload_n hx hb dX3_rounds_7 rfl (lv_at hl 2 rfl) ?_
  refine lv_l2i (v := (v).toInt32) hx hb dX3_rounds_8 rfl ?_
  refine lv_istore (lv' := [(5, .int ((v).toInt32)), (4, .int (((lus v (nI 32))).toInt32)), (0, .ref h), (1, .long v), (3, .int (nI 1))]) hx hb dX3_rounds_9 hl (by decide) rfl (fun ls hl => ?_)
  refine lv_iconst (v := nI 0) hx hb dX3_rounds_11 (by decide) ?_
  refine lv_istore (lv' := [(6, .int (nI 0)), (5, .int ((v).toInt32)), (4, .int (((lus v (nI 32))).toInt32)), (0, .ref h), (1, .long v), (3, .int (nI 1))]) hx hb dX3_rounds_12 hl (by decide) rfl (fun ls hl => ?_)
  refine w_loop (ι := Nat) (fun k => 16 - k) (fun k => k ≤ 16) (fun k => [(h, .inr (2, [.ref dx, .ref dk])), (dx, .inl (G.2.1, 512, .inl fx)), (dk, .inl (G.2.1, 128, .inl fk))]) (fun k => [(6, .int (nI k)), (5, .int ((rdI fk fx (fun i_ => 15 - i_) ((lus v (nI 32)).toInt32) (v.toInt32) k).2)), (4, .int ((rdI fk fx (fun i_ => 15 - i_) ((lus v (nI 32)).toInt32) (v.toInt32) k).1)), (0, .ref h), (1, .long v), (3, .int (nI 1))]) 0 (by omega) hP hD hS hl ?_
  intro k H locs ls hk hP hD hS hl ih
  have hk : k ≤ 16 := hk
  have hP : va_P G.1 vwCl [(h, .inr (2, [.ref dx, .ref dk])), (dx, .inl (G.2.1, 512, .inl fx)), (dk, .inl (G.2.1, 128, .inl fk))] H := hP
  have hD : va_D A [(h, .inr (2, [.ref dx, .ref dk])), (dx, .inl (G.2.1, 512, .inl fx)), (dk, .inl (G.2.1, 128, .inl fk))] := hD
  have hl : lv_has ls 8 [(6, .int (nI k)), (5, .int ((rdI fk fx (fun i_ => 15 - i_) ((lus v (nI 32)).toInt32) (v.toInt32) k).2)), (4, .int ((rdI fk fx (fun i_ => 15 - i_) ((lus v (nI 32)).toInt32) (v.toInt32) k).1)), (0, .ref h), (1, .long v), (3, .int (nI 1))] := hl
  refine lv_iload hx hb dX3_rounds_14 (lv_at hl 0 rfl) ?_
  refine lv_bipush (v := nI 16) hx hb dX3_rounds_16 (by decide) ?_
  refine w_icmpN_ge (tgt := 60) hx hb (by omega) (by omega) dX3_rounds_18 (by decide) (fun h1 => ?_) (fun h1 => ?_)
  · obtain rfl : 16 = k := Eq.symm (show k = 16 from by omega)
    refine lv_iload hx hb dX3_rounds_60 (lv_at hl 1 rfl) ?_
    refine lv_i2l (v := (((rdI fk fx (fun i_ => 15 - i_) ((lus v (nI 32)).toInt32) (v.toInt32) 16).2)).toInt64) hx hb dX3_rounds_62 rfl ?_
    refine lv_bipush (v := nI 32) hx hb dX3_rounds_63 (by decide) ?_
    refine lv_lshl (v := lsl ((((rdI fk fx (fun i_ => 15 - i_) ((lus v (nI 32)).toInt32) (v.toInt32) 16).2)).toInt64) (nI 32)) hx hb dX3_rounds_65 rfl ?_
    refine lv_iload hx hb dX3_rounds_66 (lv_at hl 2 rfl) ?_
    refine lv_i2l (v := (((rdI fk fx (fun i_ => 15 - i_) ((lus v (nI 32)).toInt32) (v.toInt32) 16).1)).toInt64) hx hb dX3_rounds_68 rfl ?_
    refine lv_ldc2 hx hb hown (hts (.constantLong RX3 53 (4294967295)) (by decide +kernel)) dX3_rounds_69 ?_
    refine w_topl (lN 4294967295) (by decide) ?_
    refine lv_land hx hb dX3_rounds_72 ?_
    refine lv_lor hx hb dX3_rounds_73 ?_
    exact hret ((lsl ((((rdI fk fx (fun i_ => 15 - i_) ((lus v (nI 32)).toInt32) (v.toInt32) 16).2)).toInt64) (nI 32)) ||| (((((rdI fk fx (fun i_ => 15 - i_) ((lus v (nI 32)).toInt32) (v.toInt32) 16).1)).toInt64) &&& (lN 4294967295))) () H _ 74 ls dX3_rounds_74 (rfl) (hP.sub [0, 1, 2] rfl) (hD.sub [0, 1, 2] (by decide) rfl) hS
  · refine lv_iload hx hb dX3_rounds_21 (lv_at hl 2 rfl) ?_
    refine lv_aload_n hx hb dX3_rounds_23 rfl (lv_at hl 3 rfl) ?_
    refine lv_iload hx hb dX3_rounds_24 (lv_at hl 1 rfl) ?_
    refine lv_iload_n hx hb dX3_rounds_26 rfl (lv_at hl 5 rfl) ?_
    refine w_ifN_eq (tgt := 38) hx hb (by omega) dX3_rounds_27 (by decide) (fun h2 => ?_) (fun h2 => ?_)
    · exact absurd h2 (by decide)
    · refine lv_bipush (v := nI 15) hx hb dX3_rounds_30 (by decide) ?_
      refine lv_iload hx hb dX3_rounds_32 (lv_at hl 0 rfl) ?_
      refine w_isubN hx hb (by omega) dX3_rounds_34 ?_
      refine lv_goto (tgt := 40) hx hb dX3_rounds_35 (by decide) ?_
      refine w_fini (wr := []) (va_runV (As := [.int ((rdI fk fx (fun i_ => 15 - i_) ((lus v (nI 32)).toInt32) (v.toInt32) k).2), .int (nI (15 - k))]) (rest := [.int ((rdI fk fx (fun i_ => 15 - i_) ((lus v (nI 32)).toInt32) (v.toInt32) k).1)]) ⟨hx, hb, hml, hown, hts⟩ (c_Des_scrambled l G h dx dk fx fk ((rdI fk fx (fun i_ => 15 - i_) ((lus v (nI 32)).toInt32) (v.toInt32) k).2) (15 - k) (by omega) H.size) (cwV 2 hts gX3_rounds_X3_scrambled rfl rfl rfl (by decide +kernel) ⟨Nat.le_of_ble_eq_true rfl, Nat.le_of_ble_eq_true rfl⟩) ⟨wPre.blind, (va_recv hK hP (ci := 2) (q0 := 0) rfl rfl), (fun U hU hW => ⟨rfl, w_pre hK hT hA hP hD hS (isC := [0, 1, 2]) (by decide) rfl U hU hW⟩)⟩ rfl rfl hl.1 rfl (lv_room (Nat.le_of_ble_eq_true rfl)) dX3_rounds_40 ⟨Nat.le_of_ble_eq_true rfl, Nat.le_of_ble_eq_true rfl⟩) hA hP hD hS [0, 1, 2] [] rfl rfl (by decide) (by decide) (fun r u H locs hpost hP hD hS => ?_)
      obtain rfl := hpost
      have hP : va_P G.1 vwCl [(h, .inr (2, [.ref dx, .ref dk])), (dx, .inl (G.2.1, 512, .inl fx)), (dk, .inl (G.2.1, 128, .inl fk))] H := hP
      have hD : va_D A [(h, .inr (2, [.ref dx, .ref dk])), (dx, .inl (G.2.1, 512, .inl fx)), (dk, .inl (G.2.1, 128, .inl fk))] := hD
      refine lv_ixor hx hb dX3_rounds_43 ?_
      refine lv_istore (lv' := [(7, .int (((rdI fk fx (fun i_ => 15 - i_) ((lus v (nI 32)).toInt32) (v.toInt32) k).1) ^^^ (scI fk fx ((rdI fk fx (fun i_ => 15 - i_) ((lus v (nI 32)).toInt32) (v.toInt32) k).2) (15 - k) 8))), (6, .int (nI k)), (5, .int ((rdI fk fx (fun i_ => 15 - i_) ((lus v (nI 32)).toInt32) (v.toInt32) k).2)), (4, .int ((rdI fk fx (fun i_ => 15 - i_) ((lus v (nI 32)).toInt32) (v.toInt32) k).1)), (0, .ref h), (1, .long v), (3, .int (nI 1))]) hx hb dX3_rounds_44 hl (by decide) rfl (fun ls hl => ?_)
      refine lv_iload hx hb dX3_rounds_46 (lv_at hl 2 rfl) ?_
      refine lv_istore (lv' := [(4, .int ((rdI fk fx (fun i_ => 15 - i_) ((lus v (nI 32)).toInt32) (v.toInt32) k).2)), (7, .int (((rdI fk fx (fun i_ => 15 - i_) ((lus v (nI 32)).toInt32) (v.toInt32) k).1) ^^^ (scI fk fx ((rdI fk fx (fun i_ => 15 - i_) ((lus v (nI 32)).toInt32) (v.toInt32) k).2) (15 - k) 8))), (6, .int (nI k)), (5, .int ((rdI fk fx (fun i_ => 15 - i_) ((lus v (nI 32)).toInt32) (v.toInt32) k).2)), (0, .ref h), (1, .long v), (3, .int (nI 1))]) hx hb dX3_rounds_48 hl (by decide) rfl (fun ls hl => ?_)
      refine lv_iload hx hb dX3_rounds_50 (lv_at hl 1 rfl) ?_
      refine lv_istore (lv' := [(5, .int (((rdI fk fx (fun i_ => 15 - i_) ((lus v (nI 32)).toInt32) (v.toInt32) k).1) ^^^ (scI fk fx ((rdI fk fx (fun i_ => 15 - i_) ((lus v (nI 32)).toInt32) (v.toInt32) k).2) (15 - k) 8))), (4, .int ((rdI fk fx (fun i_ => 15 - i_) ((lus v (nI 32)).toInt32) (v.toInt32) k).2)), (7, .int (((rdI fk fx (fun i_ => 15 - i_) ((lus v (nI 32)).toInt32) (v.toInt32) k).1) ^^^ (scI fk fx ((rdI fk fx (fun i_ => 15 - i_) ((lus v (nI 32)).toInt32) (v.toInt32) k).2) (15 - k) 8))), (6, .int (nI k)), (0, .ref h), (1, .long v), (3, .int (nI 1))]) hx hb dX3_rounds_52 hl (by decide) rfl (fun ls hl => ?_)
      refine lv_iinc (v := nI (k + 1)) (lv' := [(6, .int (nI (k + 1))), (5, .int (((rdI fk fx (fun i_ => 15 - i_) ((lus v (nI 32)).toInt32) (v.toInt32) k).1) ^^^ (scI fk fx ((rdI fk fx (fun i_ => 15 - i_) ((lus v (nI 32)).toInt32) (v.toInt32) k).2) (15 - k) 8))), (4, .int ((rdI fk fx (fun i_ => 15 - i_) ((lus v (nI 32)).toInt32) (v.toInt32) k).2)), (7, .int (((rdI fk fx (fun i_ => 15 - i_) ((lus v (nI 32)).toInt32) (v.toInt32) k).1) ^^^ (scI fk fx ((rdI fk fx (fun i_ => 15 - i_) ((lus v (nI 32)).toInt32) (v.toInt32) k).2) (15 - k) 8))), (0, .ref h), (1, .long v), (3, .int (nI 1))]) hx hb dX3_rounds_54 hl (k := 3) rfl (nI_add k 1) (by decide) rfl (fun ls hl => ?_)
      refine lv_goto (tgt := 14) hx hb dX3_rounds_57 (by decide) ?_
      exact ih (k + 1) H _ _ (by omega) (by omega) hP hD hS (lv_sub hl [0, 1, 2, 4, 5, 6] rfl)

set_option maxHeartbeats 4000000 in
set_option maxRecDepth 100000 in
theorem c_Des_coded0 (l : Launch) (G : wG) (h dx dk : Nat) (fx fk : Nat → Int32) (v : Int64)  : CMl l G yX3_coded wsX3_coded 2 54 [.ref h, .long v, .int (nI 0)] [(h, .inr (2, [.ref dx, .ref dk])), (dx, .inl (G.2.1, 512, .inl fx)), (dk, .inl (G.2.1, 128, .inl fk))] (fun r (_ : Unit) => r = cdI fk fx (fun i_ => i_) v) (fun _ => [(h, .inr (2, [.ref dx, .ref dk])), (dx, .inl (G.2.1, 512, .inl fx)), (dk, .inl (G.2.1, 128, .inl fk))]) := by
  refine CMl.start cX3_coded 4 (by decide) rfl (Nat.le_of_ble_eq_true rfl) ?_
  intro p e s m below meth c A Q ls H locs hx hb hml hown hts hK hT hA hP hD hS hl hret
  have hl : lv_has ls 4 [(0, .ref h), (1, .long v), (3, .int (nI 0))] := hl
  refine lv_aload_n hx hb dX3_coded_0 rfl (lv_at hl 0 rfl) ?_
  refine lv_lload_n hx hb dX3_coded_1 rfl (lv_at hl 1 rfl) ?_
  refine lv_bipush (v := nI 64) hx hb dX3_coded_2 (by decide) ?_
  refine w_gets hx hb hT hS 1 (by decide) hown (hts (.fieldLink RX3 40 "CipherBox$Des" "INITIAL" "[I") (by decide +kernel)) dX3_coded_4 ?_
  refine w_finl (wr := [(h, .inr (2, [.ref dx, .ref dk])), (dx, .inl (G.2.1, 512, .inl fx)), (dk, .inl (G.2.1, 128, .inl fk))]) (va_runS (As := [.long v, .int (nI 64), .ref (G.2.2.2 1)]) (rest := [.ref h]) ⟨hx, hb, hml, hown, hts⟩ (c_Des_permute l G v 64 1 (by decide) H.size) (va_cwS 3 hts gX3_coded_X3_permute rfl rfl rfl (by decide +kernel) ⟨Nat.le_of_ble_eq_true rfl, Nat.le_of_ble_eq_true rfl⟩) ⟨wPre.blind, (fun U hU hW => ⟨rfl, w_pre hK hT hA hP hD hS (isC := []) (by decide) rfl U hU hW⟩)⟩ rfl rfl hl.1 rfl (lv_room (Nat.le_of_ble_eq_true rfl)) dX3_coded_7 ⟨Nat.le_of_ble_eq_true rfl, Nat.le_of_ble_eq_true rfl⟩) hA hP hD hS [] [0, 1, 2] rfl rfl (by decide) (by decide) (fun r u H locs hpost hP hD hS => ?_)
  obtain rfl := hpost
  have hP : va_P G.1 vwCl [(h, .inr (2, [.ref dx, .ref dk])), (dx, .inl (G.2.1, 512, .inl fx)), (dk, .inl (G.2.1, 128, .inl fk))] H := hP
  have hD : va_D A [(h, .inr (2, [.ref dx, .ref dk])), (dx, .inl (G.2.1, 512, .inl fx)), (dk, .inl (G.2.1, 128, .inl fk))] := hD
  refine lv_iload_n hx hb dX3_coded_10 rfl (lv_at hl 2 rfl) ?_
  refine w_finl (wr := []) (va_runV (As := [.long (pm v 64 1), .int (nI 0)]) (rest := []) ⟨hx, hb, hml, hown, hts⟩ (c_Des_rounds0 l G h dx dk fx fk (pm v 64 1) H.size) (cwV 2 hts gX3_coded_X3_rounds rfl rfl rfl (by decide +kernel) ⟨Nat.le_of_ble_eq_true rfl, Nat.le_of_ble_eq_true rfl⟩) ⟨wPre.blind, (va_recv hK hP (ci := 2) (q0 := 0) rfl rfl), (fun U hU hW => ⟨rfl, w_pre hK hT hA hP hD hS (isC := [0, 1, 2]) (by decide) rfl U hU hW⟩)⟩ rfl rfl hl.1 rfl (lv_room (Nat.le_of_ble_eq_true rfl)) dX3_coded_11 ⟨Nat.le_of_ble_eq_true rfl, Nat.le_of_ble_eq_true rfl⟩) hA hP hD hS [0, 1, 2] [] rfl rfl (by decide) (by decide) (fun r u H locs hpost hP hD hS => ?_)
  obtain rfl := hpost
  have hP : va_P G.1 vwCl [(h, .inr (2, [.ref dx, .ref dk])), (dx, .inl (G.2.1, 512, .inl fx)), (dk, .inl (G.2.1, 128, .inl fk))] H := hP
  have hD : va_D A [(h, .inr (2, [.ref dx, .ref dk])), (dx, .inl (G.2.1, 512, .inl fx)), (dk, .inl (G.2.1, 128, .inl fk))] := hD
  refine lv_bipush (v := nI 64) hx hb dX3_coded_14 (by decide) ?_
  refine w_gets hx hb hT hS 2 (by decide) hown (hts (.fieldLink RX3 47 "CipherBox$Des" "FINAL" "[I") (by decide +kernel)) dX3_coded_16 ?_
  refine w_finl (wr := [(h, .inr (2, [.ref dx, .ref dk])), (dx, .inl (G.2.1, 512, .inl fx)), (dk, .inl (G.2.1, 128, .inl fk))]) (va_runS (As := [.long (rds fk fx (fun i_ => i_) (pm v 64 1)), .int (nI 64), .ref (G.2.2.2 2)]) (rest := []) ⟨hx, hb, hml, hown, hts⟩ (c_Des_permute l G (rds fk fx (fun i_ => i_) (pm v 64 1)) 64 2 (by decide) H.size) (va_cwS 3 hts gX3_coded_X3_permute rfl rfl rfl (by decide +kernel) ⟨Nat.le_of_ble_eq_true rfl, Nat.le_of_ble_eq_true rfl⟩) ⟨wPre.blind, (fun U hU hW => ⟨rfl, w_pre hK hT hA hP hD hS (isC := []) (by decide) rfl U hU hW⟩)⟩ rfl rfl hl.1 rfl (lv_room (Nat.le_of_ble_eq_true rfl)) dX3_coded_19 ⟨Nat.le_of_ble_eq_true rfl, Nat.le_of_ble_eq_true rfl⟩) hA hP hD hS [] [0, 1, 2] rfl rfl (by decide) (by decide) (fun r u H locs hpost hP hD hS => ?_)
  obtain rfl := hpost
  have hP : va_P G.1 vwCl [(h, .inr (2, [.ref dx, .ref dk])), (dx, .inl (G.2.1, 512, .inl fx)), (dk, .inl (G.2.1, 128, .inl fk))] H := hP
  have hD : va_D A [(h, .inr (2, [.ref dx, .ref dk])), (dx, .inl (G.2.1, 512, .inl fx)), (dk, .inl (G.2.1, 128, .inl fk))] := hD
  exact hret (pm (rds fk fx (fun i_ => i_) (pm v 64 1)) 64 2) () H _ 22 ls dX3_coded_22 (rfl) (hP.sub [0, 1, 2] rfl) (hD.sub [0, 1, 2] (by decide) rfl) hS

set_option maxHeartbeats 4000000 in
set_option maxRecDepth 100000 in
theorem c_Des_coded1 (l : Launch) (G : wG) (h dx dk : Nat) (fx fk : Nat → Int32) (v : Int64)  : CMl l G yX3_coded wsX3_coded 2 54 [.ref h, .long v, .int (nI 1)] [(h, .inr (2, [.ref dx, .ref dk])), (dx, .inl (G.2.1, 512, .inl fx)), (dk, .inl (G.2.1, 128, .inl fk))] (fun r (_ : Unit) => r = cdI fk fx (fun i_ => 15 - i_) v) (fun _ => [(h, .inr (2, [.ref dx, .ref dk])), (dx, .inl (G.2.1, 512, .inl fx)), (dk, .inl (G.2.1, 128, .inl fk))]) := by
  refine CMl.start cX3_coded 4 (by decide) rfl (Nat.le_of_ble_eq_true rfl) ?_
  intro p e s m below meth c A Q ls H locs hx hb hml hown hts hK hT hA hP hD hS hl hret
  have hl : lv_has ls 4 [(0, .ref h), (1, .long v), (3, .int (nI 1))] := hl
  refine lv_aload_n hx hb dX3_coded_0 rfl (lv_at hl 0 rfl) ?_
  refine lv_lload_n hx hb dX3_coded_1 rfl (lv_at hl 1 rfl) ?_
  refine lv_bipush (v := nI 64) hx hb dX3_coded_2 (by decide) ?_
  refine w_gets hx hb hT hS 1 (by decide) hown (hts (.fieldLink RX3 40 "CipherBox$Des" "INITIAL" "[I") (by decide +kernel)) dX3_coded_4 ?_
  refine w_finl (wr := [(h, .inr (2, [.ref dx, .ref dk])), (dx, .inl (G.2.1, 512, .inl fx)), (dk, .inl (G.2.1, 128, .inl fk))]) (va_runS (As := [.long v, .int (nI 64), .ref (G.2.2.2 1)]) (rest := [.ref h]) ⟨hx, hb, hml, hown, hts⟩ (c_Des_permute l G v 64 1 (by decide) H.size) (va_cwS 3 hts gX3_coded_X3_permute rfl rfl rfl (by decide +kernel) ⟨Nat.le_of_ble_eq_true rfl, Nat.le_of_ble_eq_true rfl⟩) ⟨wPre.blind, (fun U hU hW => ⟨rfl, w_pre hK hT hA hP hD hS (isC := []) (by decide) rfl U hU hW⟩)⟩ rfl rfl hl.1 rfl (lv_room (Nat.le_of_ble_eq_true rfl)) dX3_coded_7 ⟨Nat.le_of_ble_eq_true rfl, Nat.le_of_ble_eq_true rfl⟩) hA hP hD hS [] [0, 1, 2] rfl rfl (by decide) (by decide) (fun r u H locs hpost hP hD hS => ?_)
  obtain rfl := hpost
  have hP : va_P G.1 vwCl [(h, .inr (2, [.ref dx, .ref dk])), (dx, .inl (G.2.1, 512, .inl fx)), (dk, .inl (G.2.1, 128, .inl fk))] H := hP
  have hD : va_D A [(h, .inr (2, [.ref dx, .ref dk])), (dx, .inl (G.2.1, 512, .inl fx)), (dk, .inl (G.2.1, 128, .inl fk))] := hD
  refine lv_iload_n hx hb dX3_coded_10 rfl (lv_at hl 2 rfl) ?_
  refine w_finl (wr := []) (va_runV (As := [.long (pm v 64 1), .int (nI 1)]) (rest := []) ⟨hx, hb, hml, hown, hts⟩ (c_Des_rounds1 l G h dx dk fx fk (pm v 64 1) H.size) (cwV 2 hts gX3_coded_X3_rounds rfl rfl rfl (by decide +kernel) ⟨Nat.le_of_ble_eq_true rfl, Nat.le_of_ble_eq_true rfl⟩) ⟨wPre.blind, (va_recv hK hP (ci := 2) (q0 := 0) rfl rfl), (fun U hU hW => ⟨rfl, w_pre hK hT hA hP hD hS (isC := [0, 1, 2]) (by decide) rfl U hU hW⟩)⟩ rfl rfl hl.1 rfl (lv_room (Nat.le_of_ble_eq_true rfl)) dX3_coded_11 ⟨Nat.le_of_ble_eq_true rfl, Nat.le_of_ble_eq_true rfl⟩) hA hP hD hS [0, 1, 2] [] rfl rfl (by decide) (by decide) (fun r u H locs hpost hP hD hS => ?_)
  obtain rfl := hpost
  have hP : va_P G.1 vwCl [(h, .inr (2, [.ref dx, .ref dk])), (dx, .inl (G.2.1, 512, .inl fx)), (dk, .inl (G.2.1, 128, .inl fk))] H := hP
  have hD : va_D A [(h, .inr (2, [.ref dx, .ref dk])), (dx, .inl (G.2.1, 512, .inl fx)), (dk, .inl (G.2.1, 128, .inl fk))] := hD
  refine lv_bipush (v := nI 64) hx hb dX3_coded_14 (by decide) ?_
  refine w_gets hx hb hT hS 2 (by decide) hown (hts (.fieldLink RX3 47 "CipherBox$Des" "FINAL" "[I") (by decide +kernel)) dX3_coded_16 ?_
  refine w_finl (wr := [(h, .inr (2, [.ref dx, .ref dk])), (dx, .inl (G.2.1, 512, .inl fx)), (dk, .inl (G.2.1, 128, .inl fk))]) (va_runS (As := [.long (rds fk fx (fun i_ => 15 - i_) (pm v 64 1)), .int (nI 64), .ref (G.2.2.2 2)]) (rest := []) ⟨hx, hb, hml, hown, hts⟩ (c_Des_permute l G (rds fk fx (fun i_ => 15 - i_) (pm v 64 1)) 64 2 (by decide) H.size) (va_cwS 3 hts gX3_coded_X3_permute rfl rfl rfl (by decide +kernel) ⟨Nat.le_of_ble_eq_true rfl, Nat.le_of_ble_eq_true rfl⟩) ⟨wPre.blind, (fun U hU hW => ⟨rfl, w_pre hK hT hA hP hD hS (isC := []) (by decide) rfl U hU hW⟩)⟩ rfl rfl hl.1 rfl (lv_room (Nat.le_of_ble_eq_true rfl)) dX3_coded_19 ⟨Nat.le_of_ble_eq_true rfl, Nat.le_of_ble_eq_true rfl⟩) hA hP hD hS [] [0, 1, 2] rfl rfl (by decide) (by decide) (fun r u H locs hpost hP hD hS => ?_)
  obtain rfl := hpost
  have hP : va_P G.1 vwCl [(h, .inr (2, [.ref dx, .ref dk])), (dx, .inl (G.2.1, 512, .inl fx)), (dk, .inl (G.2.1, 128, .inl fk))] H := hP
  have hD : va_D A [(h, .inr (2, [.ref dx, .ref dk])), (dx, .inl (G.2.1, 512, .inl fx)), (dk, .inl (G.2.1, 128, .inl fk))] := hD
  exact hret (pm (rds fk fx (fun i_ => 15 - i_) (pm v 64 1)) 64 2) () H _ 22 ls dX3_coded_22 (rfl) (hP.sub [0, 1, 2] rfl) (hD.sub [0, 1, 2] (by decide) rfl) hS

set_option maxHeartbeats 4000000 in
set_option maxRecDepth 100000 in
theorem c_Des3_gathered (l : Launch) (G : wG) (h bb d1 d2 : Nat) (fb : Nat → Int32)  : CMl l G yX4_gathered wsX4_gathered 0 0 [.ref h] [(h, .inr (3, [.ref bb, .int (nI 3), .ref d1, .ref d2])), (bb, .inl (G.2.1, 8, .inl fb))] (fun r (_ : Unit) => r = gaI fb 8) (fun _ => [(h, .inr (3, [.ref bb, .int (nI 3), .ref d1, .ref d2])), (bb, .inl (G.2.1, 8, .inl fb))]) := by
  refine CMl.start cX4_gathered 7 (by decide) rfl (Nat.le_of_ble_eq_true rfl) ?_
  intro p e s m below meth c A Q ls H locs hx hb hml hown hts hK hT hA hP hD hS hl hret
  have hinX4 : ∀ w ∈ u_ws RX4 TX4 4, w ∈ wsX4_gathered := by decide +kernel
  have hl : lv_has ls 7 [(0, .ref h)] := hl
  refine lv_lconst (v := lN 0) hx hb dX4_gathered_0 rfl ?_
  refine lv_lstore_n (lv' := [(1, .long (lN 0)), (0, .ref h)]) hx hb dX4_gathered_1 rfl hl (by decide) rfl (fun ls hl => ?_)
  refine lv_aload_n hx hb dX4_gathered_2 rfl (lv_at hl 1 rfl) ?_
  refine va_get (D := G.1) (ci := 3) (v := .ref bb) (C := RX4) (T := TX4) (N := 4) hx hb hts hinX4 hown hK hP 0 rfl rfl 0 (by decide) (hts (.fieldLink RX4 67 "CipherBox$Des3" "block" "[I") (by decide +kernel)) (fun x9 h9 => u_same (hts (.sameField "CipherBox$Des3" "CipherBox$BlockCipher" "block" "[I") (by decide +kernel)) x9 h9) rfl dX4_gathered_3 ?_
  refine lv_astore_n (lv' := [(3, .ref bb), (1, .long (lN 0)), (0, .ref h)]) hx hb dX4_gathered_6 rfl hl (by decide) rfl (fun ls hl => ?_)
  refine lv_aload_n hx hb dX4_gathered_7 rfl (lv_at hl 0 rfl) ?_
  refine w_alenI hx hb hK hP 1 rfl dX4_gathered_8 ?_
  refine lv_istore (lv' := [(4, .int (nI 8)), (3, .ref bb), (1, .long (lN 0)), (0, .ref h)]) hx hb dX4_gathered_9 hl (by decide) rfl (fun ls hl => ?_)
  refine lv_iconst (v := nI 0) hx hb dX4_gathered_11 (by decide) ?_
  refine lv_istore (lv' := [(5, .int (nI 0)), (4, .int (nI 8)), (3, .ref bb), (1, .long (lN 0)), (0, .ref h)]) hx hb dX4_gathered_12 hl (by decide) rfl (fun ls hl => ?_)
  refine w_loop (ι := Nat) (fun k => 8 - k) (fun k => k ≤ 8) (fun k => [(h, .inr (3, [.ref bb, .int (nI 3), .ref d1, .ref d2])), (bb, .inl (G.2.1, 8, .inl fb))]) (fun k => [(5, .int (nI k)), (4, .int (nI 8)), (3, .ref bb), (1, .long (gaI fb k)), (0, .ref h)]) 0 (by omega) hP hD hS hl ?_
  intro k H locs ls hk hP hD hS hl ih
  have hk : k ≤ 8 := hk
  have hP : va_P G.1 vwCl [(h, .inr (3, [.ref bb, .int (nI 3), .ref d1, .ref d2])), (bb, .inl (G.2.1, 8, .inl fb))] H := hP
  have hD : va_D A [(h, .inr (3, [.ref bb, .int (nI 3), .ref d1, .ref d2])), (bb, .inl (G.2.1, 8, .inl fb))] := hD
  have hl : lv_has ls 7 [(5, .int (nI k)), (4, .int (nI 8)), (3, .ref bb), (1, .long (gaI fb k)), (0, .ref h)] := hl
  refine lv_iload hx hb dX4_gathered_14 (lv_at hl 0 rfl) ?_
  refine lv_iload hx hb dX4_gathered_16 (lv_at hl 1 rfl) ?_
  refine w_icmpN_ge (tgt := 46) hx hb (by omega) (by omega) dX4_gathered_18 (by decide) (fun h1 => ?_) (fun h1 => ?_)
  · obtain rfl : 8 = k := Eq.symm (show k = 8 from by omega)
    refine lv_lload_n hx hb dX4_gathered_46 rfl (lv_at hl 3 rfl) ?_
    exact hret (gaI fb 8) () H _ 47 ls dX4_gathered_47 (rfl) (hP.sub [0, 1] rfl) (hD.sub [0, 1] (by decide) rfl) hS
  · refine lv_aload_n hx hb dX4_gathered_21 rfl (lv_at hl 2 rfl) ?_
    refine lv_iload hx hb dX4_gathered_22 (lv_at hl 0 rfl) ?_
    refine w_iald hx hb hK hP 1 rfl (by omega) (by omega) dX4_gathered_24 ?_
    refine lv_istore (lv' := [(6, .int (fb k)), (5, .int (nI k)), (4, .int (nI 8)), (3, .ref bb), (1, .long (gaI fb k)), (0, .ref h)]) hx hb dX4_gathered_25 hl (by decide) rfl (fun ls hl => ?_)
    refine lv_lload_n hx hb dX4_gathered_27 rfl (lv_at hl 4 rfl) ?_
    refine lv_bipush (v := nI 8) hx hb dX4_gathered_28 (by decide) ?_
    refine lv_lshl (v := lsl (gaI fb k) (nI 8)) hx hb dX4_gathered_30 rfl ?_
    refine lv_iload hx hb dX4_gathered_31 (lv_at hl 0 rfl) ?_
    refine lv_sipush (v := nI 255) hx hb dX4_gathered_33 (by decide) ?_
    refine lv_iand hx hb dX4_gathered_36 ?_
    refine lv_i2l (v := (((fb k) &&& (nI 255))).toInt64) hx hb dX4_gathered_37 rfl ?_
    refine lv_lor hx hb dX4_gathered_38 ?_
    refine lv_lstore_n (lv' := [(1, .long ((lsl (gaI fb k) (nI 8)) ||| ((((fb k) &&& (nI 255))).toInt64))), (6, .int (fb k)), (5, .int (nI k)), (4, .int (nI 8)), (3, .ref bb), (0, .ref h)]) hx hb dX4_gathered_39 rfl hl (by decide) rfl (fun ls hl => ?_)
    refine lv_iinc (v := nI (k + 1)) (lv' := [(5, .int (nI (k + 1))), (1, .long ((lsl (gaI fb k) (nI 8)) ||| ((((fb k) &&& (nI 255))).toInt64))), (6, .int (fb k)), (4, .int (nI 8)), (3, .ref bb), (0, .ref h)]) hx hb dX4_gathered_40 hl (k := 2) rfl (nI_add k 1) (by decide) rfl (fun ls hl => ?_)
    refine lv_goto (tgt := 14) hx hb dX4_gathered_43 (by decide) ?_
    exact ih (k + 1) H _ _ (by omega) (by omega) hP hD hS (lv_sub hl [0, 3, 4, 1, 5] rfl)

set_option maxHeartbeats 4000000 in
set_option maxRecDepth 100000 in
theorem c_Des3_spread (l : Launch) (G : wG) (h bb d1 d2 : Nat) (fb : Nat → Int32) (v : Int64)  : CMv l G yX4_spread wsX4_spread 0 0 0 0 [.ref h, .long v] [(h, .inr (3, [.ref bb, .int (nI 3), .ref d1, .ref d2])), (bb, .inl (G.2.1, 8, .inl fb))] (fun (_ : Unit) => True) (fun _ => [(h, .inr (3, [.ref bb, .int (nI 3), .ref d1, .ref d2])), (bb, .inl (G.2.1, 8, .inl (spB v)))]) := by
  refine CMv.start cX4_spread 6 (by decide) rfl (Nat.le_of_ble_eq_true rfl) ?_
  intro p e s m below meth c A Q ls H locs hx hb hml hown hnm hts hK hT hA hP hD hS hl hret
  have hinX4 : ∀ w ∈ u_ws RX4 TX4 4, w ∈ wsX4_spread := by decide +kernel
  have hl : lv_has ls 6 [(0, .ref h), (1, .long v)] := hl
  refine lv_lload_n hx hb dX4_spread_0 rfl (lv_at hl 1 rfl) ?_
  refine lv_lstore_n (lv' := [(3, .long v), (0, .ref h), (1, .long v)]) hx hb dX4_spread_1 rfl hl (by decide) rfl (fun ls hl => ?_)
  refine lv_aload_n hx hb dX4_spread_2 rfl (lv_at hl 1 rfl) ?_
  refine va_get (D := G.1) (ci := 3) (v := .ref bb) (C := RX4) (T := TX4) (N := 4) hx hb hts hinX4 hown hK hP 0 rfl rfl 0 (by decide) (hts (.fieldLink RX4 67 "CipherBox$Des3" "block" "[I") (by decide +kernel)) (fun x9 h9 => u_same (hts (.sameField "CipherBox$Des3" "CipherBox$BlockCipher" "block" "[I") (by decide +kernel)) x9 h9) rfl dX4_spread_3 ?_
  refine w_alenI hx hb hK hP 1 rfl dX4_spread_6 ?_
  refine lv_iconst (v := nI 1) hx hb dX4_spread_7 (by decide) ?_
  refine w_isubN hx hb (by omega) dX4_spread_8 ?_
  refine lv_istore (lv' := [(5, .int (nI (8 - 1))), (3, .long v), (0, .ref h), (1, .long v)]) hx hb dX4_spread_9 hl (by decide) rfl (fun ls hl => ?_)
  refine w_loop (ι := Nat) (fun k => 8 - k) (fun k => k ≤ 8) (fun k => [(h, .inr (3, [.ref bb, .int (nI 3), .ref d1, .ref d2])), (bb, .inl (G.2.1, 8, .inl (fh k (spB v) fb)))]) (fun k => [(5, .int (nI (8 - k) - nI 1)), (3, .long (spR v k)), (0, .ref h), (1, .long v)]) 0 (by omega) (w_ext fb (fh 0 (spB v) fb) 1 hP rfl (fun j hj => by simp only [fh]; rw [if_neg (by omega)])) (hD.set (p := 1) rfl) hS (by have h9 := hl; rw [show nI (8 - 1) = nI (8 - 0) - nI 1 by decide] at h9; exact h9) ?_
  intro k H locs ls hk hP hD hS hl ih
  have hk : k ≤ 8 := hk
  have hP : va_P G.1 vwCl [(h, .inr (3, [.ref bb, .int (nI 3), .ref d1, .ref d2])), (bb, .inl (G.2.1, 8, .inl (fh k (spB v) fb)))] H := hP
  have hD : va_D A [(h, .inr (3, [.ref bb, .int (nI 3), .ref d1, .ref d2])), (bb, .inl (G.2.1, 8, .inl (fh k (spB v) fb)))] := hD
  have hl : lv_has ls 6 [(5, .int (nI (8 - k) - nI 1)), (3, .long (spR v k)), (0, .ref h), (1, .long v)] := hl
  refine lv_iload hx hb dX4_spread_11 (lv_at hl 0 rfl) ?_
  refine lv_if_lt (tgt := 40) hx hb dX4_spread_13 (by decide) (fun h1 => ?_) (fun h1 => ?_)
  · have h8 : 8 - k = 0 := sub1_neg (by omega) h1
    obtain rfl : 8 = k := Eq.symm (show k = 8 from by omega)
    exact hret () H _ 40 ls dX4_spread_40 (trivial) (by have h9 : va_P G.1 vwCl [(h, .inr (3, [.ref bb, .int (nI 3), .ref d1, .ref d2])), (bb, .inl (G.2.1, 8, .inl (fh 8 (spB v) fb)))] H := (hP.sub [0, 1] rfl); rw [fh_8] at h9; exact h9) (by have h9 : va_D A [(h, .inr (3, [.ref bb, .int (nI 3), .ref d1, .ref d2])), (bb, .inl (G.2.1, 8, .inl (fh 8 (spB v) fb)))] := (hD.sub [0, 1] (by decide) rfl); rw [fh_8] at h9; exact h9) hS
  · have h8 : 0 < 8 - k := by
      rcases Nat.eq_zero_or_pos (8 - k) with q9 | q9
      · exact absurd (by rw [q9]; decide) h1
      · exact q9
    refine lv_aload_n hx hb dX4_spread_16 rfl (lv_at hl 2 rfl) ?_
    refine va_get (D := G.1) (ci := 3) (v := .ref bb) (C := RX4) (T := TX4) (N := 4) hx hb hts hinX4 hown hK hP 0 rfl rfl 0 (by decide) (hts (.fieldLink RX4 67 "CipherBox$Des3" "block" "[I") (by decide +kernel)) (fun x9 h9 => u_same (hts (.sameField "CipherBox$Des3" "CipherBox$BlockCipher" "block" "[I") (by decide +kernel)) x9 h9) rfl dX4_spread_17 ?_
    refine lv_iload hx hb dX4_spread_20 (lv_at hl 0 rfl) ?_
    refine w_top (nI (8 - k - 1)) (pk_sub (by omega)) ?_
    refine lv_lload_n hx hb dX4_spread_22 rfl (lv_at hl 1 rfl) ?_
    refine lv_l2i (v := ((spR v k)).toInt32) hx hb dX4_spread_23 rfl ?_
    refine lv_sipush (v := nI 255) hx hb dX4_spread_24 (by decide) ?_
    refine lv_iand hx hb dX4_spread_27 ?_
    refine w_iast hx hb hK hP hD hS 1 rfl (by omega) (by omega) (fh (k + 1) (spB v) fb) (fh_s (by omega) (by simp only [spB]; rw [show 7 - (8 - k - 1) = k by omega])) dX4_spread_28 (fun H locs hP hD hS => ?_)
    have hP : va_P G.1 vwCl [(h, .inr (3, [.ref bb, .int (nI 3), .ref d1, .ref d2])), (bb, .inl (G.2.1, 8, .inl (fh (k + 1) (spB v) fb)))] H := hP
    have hD : va_D A [(h, .inr (3, [.ref bb, .int (nI 3), .ref d1, .ref d2])), (bb, .inl (G.2.1, 8, .inl (fh (k + 1) (spB v) fb)))] := hD
    refine lv_lload_n hx hb dX4_spread_29 rfl (lv_at hl 1 rfl) ?_
    refine lv_bipush (v := nI 8) hx hb dX4_spread_30 (by decide) ?_
    refine lv_lushr (v := lus (spR v k) (nI 8)) hx hb dX4_spread_32 rfl ?_
    refine lv_lstore_n (lv' := [(3, .long (lus (spR v k) (nI 8))), (5, .int (nI (8 - k) - nI 1)), (0, .ref h), (1, .long v)]) hx hb dX4_spread_33 rfl hl (by decide) rfl (fun ls hl => ?_)
    obtain ⟨x2, ex2⟩ : ∃ y : Int32, y = nI (8 - k) - nI 1 + -1 := ⟨_, rfl⟩
    refine lv_iinc (v := x2) (lv' := [(5, .int x2), (3, .long (lus (spR v k) (nI 8))), (0, .ref h), (1, .long v)]) hx hb dX4_spread_34 hl (k := 1) rfl (by rw [ex2]; rfl) (by decide) rfl (fun ls hl => ?_)
    have hl : lv_has ls 6 [(5, .int (nI (8 - (k + 1)) - nI 1)), (3, .long (lus (spR v k) (nI 8))), (0, .ref h), (1, .long v)] := by have h9 := hl; rw [ex2, sub1_dec h8] at h9; exact h9
    refine lv_goto (tgt := 11) hx hb dX4_spread_37 (by decide) ?_
    exact ih (k + 1) H _ _ (by omega) (by omega) hP hD hS (lv_sub hl [0, 1, 2, 3] rfl)

set_option maxHeartbeats 4000000 in
set_option maxRecDepth 100000 in
theorem c_Des3_codeThere (l : Launch) (G : wG) (h bb d1 d2 dx k1 k2 : Nat) (fb fx f1 f2 : Nat → Int32)  : CMv l G yX4_codeThere wsX4_codeThere 2 54 0 0 [.ref h] [(h, .inr (3, [.ref bb, .int (nI 3), .ref d1, .ref d2])), (bb, .inl (G.2.1, 8, .inl fb)), (d1, .inr (2, [.ref dx, .ref k1])), (d2, .inr (2, [.ref dx, .ref k2])), (dx, .inl (G.2.1, 512, .inl fx)), (k1, .inl (G.2.1, 128, .inl f1)), (k2, .inl (G.2.1, 128, .inl f2))] (fun (_ : Unit) => True) (fun _ => [(h, .inr (3, [.ref bb, .int (nI 3), .ref d1, .ref d2])), (bb, .inl (G.2.1, 8, .inl (d3T f1 f2 fx fb))), (d1, .inr (2, [.ref dx, .ref k1])), (d2, .inr (2, [.ref dx, .ref k2])), (dx, .inl (G.2.1, 512, .inl fx)), (k1, .inl (G.2.1, 128, .inl f1)), (k2, .inl (G.2.1, 128, .inl f2))]) := by
  refine CMv.start cX4_codeThere 3 (by decide) rfl (Nat.le_of_ble_eq_true rfl) ?_
  intro p e s m below meth c A Q ls H locs hx hb hml hown hnm hts hK hT hA hP hD hS hl hret
  have hinX4 : ∀ w ∈ u_ws RX4 TX4 4, w ∈ wsX4_codeThere := by decide +kernel
  have hl : lv_has ls 3 [(0, .ref h)] := hl
  refine lv_aload_n hx hb dX4_codeThere_0 rfl (lv_at hl 0 rfl) ?_
  refine w_finl (wr := [(d1, .inr (2, [.ref dx, .ref k1])), (d2, .inr (2, [.ref dx, .ref k2])), (dx, .inl (G.2.1, 512, .inl fx)), (k1, .inl (G.2.1, 128, .inl f1)), (k2, .inl (G.2.1, 128, .inl f2))]) (va_runV (As := []) (rest := []) ⟨hx, hb, hml, hown, hts⟩ (c_Des3_gathered l G h bb d1 d2 fb H.size) (cwV 0 hts gX4_codeThere_X4_gathered rfl rfl rfl (by decide +kernel) ⟨Nat.le_of_ble_eq_true rfl, Nat.le_of_ble_eq_true rfl⟩) ⟨wPre.blind, (va_recv hK hP (ci := 3) (q0 := 0) rfl rfl), (fun U hU hW => ⟨rfl, w_pre hK hT hA hP hD hS (isC := [0, 1]) (by decide) rfl U hU hW⟩)⟩ rfl rfl hl.1 rfl (lv_room (Nat.le_of_ble_eq_true rfl)) dX4_codeThere_1 ⟨Nat.le_of_ble_eq_true rfl, Nat.le_of_ble_eq_true rfl⟩) hA hP hD hS [0, 1] [2, 3, 4, 5, 6] rfl rfl (by decide) (by decide) (fun r u H locs hpost hP hD hS => ?_)
  obtain rfl := hpost
  have hP : va_P G.1 vwCl [(d1, .inr (2, [.ref dx, .ref k1])), (d2, .inr (2, [.ref dx, .ref k2])), (dx, .inl (G.2.1, 512, .inl fx)), (k1, .inl (G.2.1, 128, .inl f1)), (k2, .inl (G.2.1, 128, .inl f2)), (h, .inr (3, [.ref bb, .int (nI 3), .ref d1, .ref d2])), (bb, .inl (G.2.1, 8, .inl fb))] H := hP
  have hD : va_D A [(d1, .inr (2, [.ref dx, .ref k1])), (d2, .inr (2, [.ref dx, .ref k2])), (dx, .inl (G.2.1, 512, .inl fx)), (k1, .inl (G.2.1, 128, .inl f1)), (k2, .inl (G.2.1, 128, .inl f2)), (h, .inr (3, [.ref bb, .int (nI 3), .ref d1, .ref d2])), (bb, .inl (G.2.1, 8, .inl fb))] := hD
  refine lv_bipush (v := nI 64) hx hb dX4_codeThere_4 (by decide) ?_
  refine w_gets hx hb hT hS 1 (by decide) hown (hts (.fieldLink RX4 39 "CipherBox$Des" "INITIAL" "[I") (by decide +kernel)) dX4_codeThere_6 ?_
  refine w_finl (wr := [(d1, .inr (2, [.ref dx, .ref k1])), (d2, .inr (2, [.ref dx, .ref k2])), (dx, .inl (G.2.1, 512, .inl fx)), (k1, .inl (G.2.1, 128, .inl f1)), (k2, .inl (G.2.1, 128, .inl f2)), (h, .inr (3, [.ref bb, .int (nI 3), .ref d1, .ref d2])), (bb, .inl (G.2.1, 8, .inl fb))]) (va_runS (As := [.long (gaI fb 8), .int (nI 64), .ref (G.2.2.2 1)]) (rest := []) ⟨hx, hb, hml, hown, hts⟩ (c_Des_permute l G (gaI fb 8) 64 1 (by decide) H.size) (va_cwS 3 hts gX4_codeThere_X3_permute rfl rfl rfl (by decide +kernel) ⟨Nat.le_of_ble_eq_true rfl, Nat.le_of_ble_eq_true rfl⟩) ⟨wPre.blind, (fun U hU hW => ⟨rfl, w_pre hK hT hA hP hD hS (isC := []) (by decide) rfl U hU hW⟩)⟩ rfl rfl hl.1 rfl (lv_room (Nat.le_of_ble_eq_true rfl)) dX4_codeThere_9 ⟨Nat.le_of_ble_eq_true rfl, Nat.le_of_ble_eq_true rfl⟩) hA hP hD hS [] [0, 1, 2, 3, 4, 5, 6] rfl rfl (by decide) (by decide) (fun r u H locs hpost hP hD hS => ?_)
  obtain rfl := hpost
  have hP : va_P G.1 vwCl [(d1, .inr (2, [.ref dx, .ref k1])), (d2, .inr (2, [.ref dx, .ref k2])), (dx, .inl (G.2.1, 512, .inl fx)), (k1, .inl (G.2.1, 128, .inl f1)), (k2, .inl (G.2.1, 128, .inl f2)), (h, .inr (3, [.ref bb, .int (nI 3), .ref d1, .ref d2])), (bb, .inl (G.2.1, 8, .inl fb))] H := hP
  have hD : va_D A [(d1, .inr (2, [.ref dx, .ref k1])), (d2, .inr (2, [.ref dx, .ref k2])), (dx, .inl (G.2.1, 512, .inl fx)), (k1, .inl (G.2.1, 128, .inl f1)), (k2, .inl (G.2.1, 128, .inl f2)), (h, .inr (3, [.ref bb, .int (nI 3), .ref d1, .ref d2])), (bb, .inl (G.2.1, 8, .inl fb))] := hD
  refine lv_lstore_n (lv' := [(1, .long (pm (gaI fb 8) 64 1)), (0, .ref h)]) hx hb dX4_codeThere_12 rfl hl (by decide) rfl (fun ls hl => ?_)
  refine lv_aload_n hx hb dX4_codeThere_13 rfl (lv_at hl 1 rfl) ?_
  refine va_get (D := G.1) (ci := 3) (v := .ref d1) (C := RX4) (T := TX4) (N := 4) hx hb hts hinX4 hown hK hP 5 rfl rfl 2 (by decide) (hts (.fieldLink RX4 16 "CipherBox$Des3" "first" "LCipherBox$Des;") (by decide +kernel)) (fun _ h9 => h9) rfl dX4_codeThere_14 ?_
  refine lv_lload_n hx hb dX4_codeThere_17 rfl (lv_at hl 0 rfl) ?_
  refine lv_iconst (v := nI 0) hx hb dX4_codeThere_18 (by decide) ?_
  refine w_finl (wr := [(d2, .inr (2, [.ref dx, .ref k2])), (k2, .inl (G.2.1, 128, .inl f2)), (h, .inr (3, [.ref bb, .int (nI 3), .ref d1, .ref d2])), (bb, .inl (G.2.1, 8, .inl fb))]) (va_runV (As := [.long (pm (gaI fb 8) 64 1), .int (nI 0)]) (rest := []) ⟨hx, hb, hml, hown, hts⟩ (c_Des_rounds0 l G d1 dx k1 fx f1 (pm (gaI fb 8) 64 1) H.size) (cwV 2 hts gX4_codeThere_X3_rounds rfl rfl rfl (by decide +kernel) ⟨Nat.le_of_ble_eq_true rfl, Nat.le_of_ble_eq_true rfl⟩) ⟨wPre.blind, (va_recv hK hP (ci := 2) (q0 := 0) rfl rfl), (fun U hU hW => ⟨rfl, w_pre hK hT hA hP hD hS (isC := [0, 2, 3]) (by decide) rfl U hU hW⟩)⟩ rfl rfl hl.1 rfl (lv_room (Nat.le_of_ble_eq_true rfl)) dX4_codeThere_19 ⟨Nat.le_of_ble_eq_true rfl, Nat.le_of_ble_eq_true rfl⟩) hA hP hD hS [0, 2, 3] [1, 4, 5, 6] rfl rfl (by decide) (by decide) (fun r u H locs hpost hP hD hS => ?_)
  obtain rfl := hpost
  have hP : va_P G.1 vwCl [(d2, .inr (2, [.ref dx, .ref k2])), (k2, .inl (G.2.1, 128, .inl f2)), (h, .inr (3, [.ref bb, .int (nI 3), .ref d1, .ref d2])), (bb, .inl (G.2.1, 8, .inl fb)), (d1, .inr (2, [.ref dx, .ref k1])), (dx, .inl (G.2.1, 512, .inl fx)), (k1, .inl (G.2.1, 128, .inl f1))] H := hP
  have hD : va_D A [(d2, .inr (2, [.ref dx, .ref k2])), (k2, .inl (G.2.1, 128, .inl f2)), (h, .inr (3, [.ref bb, .int (nI 3), .ref d1, .ref d2])), (bb, .inl (G.2.1, 8, .inl fb)), (d1, .inr (2, [.ref dx, .ref k1])), (dx, .inl (G.2.1, 512, .inl fx)), (k1, .inl (G.2.1, 128, .inl f1))] := hD
  refine lv_lstore_n (lv' := [(1, .long (rds f1 fx (fun i_ => i_) (pm (gaI fb 8) 64 1))), (0, .ref h)]) hx hb dX4_codeThere_22 rfl hl (by decide) rfl (fun ls hl => ?_)
  refine lv_aload_n hx hb dX4_codeThere_23 rfl (lv_at hl 1 rfl) ?_
  refine va_get (D := G.1) (ci := 3) (v := .ref d2) (C := RX4) (T := TX4) (N := 4) hx hb hts hinX4 hown hK hP 2 rfl rfl 3 (by decide) (hts (.fieldLink RX4 22 "CipherBox$Des3" "last" "LCipherBox$Des;") (by decide +kernel)) (fun _ h9 => h9) rfl dX4_codeThere_24 ?_
  refine lv_lload_n hx hb dX4_codeThere_27 rfl (lv_at hl 0 rfl) ?_
  refine lv_iconst (v := nI 1) hx hb dX4_codeThere_28 (by decide) ?_
  refine w_finl (wr := [(h, .inr (3, [.ref bb, .int (nI 3), .ref d1, .ref d2])), (bb, .inl (G.2.1, 8, .inl fb)), (d1, .inr (2, [.ref dx, .ref k1])), (k1, .inl (G.2.1, 128, .inl f1))]) (va_runV (As := [.long (rds f1 fx (fun i_ => i_) (pm (gaI fb 8) 64 1)), .int (nI 1)]) (rest := []) ⟨hx, hb, hml, hown, hts⟩ (c_Des_rounds1 l G d2 dx k2 fx f2 (rds f1 fx (fun i_ => i_) (pm (gaI fb 8) 64 1)) H.size) (cwV 2 hts gX4_codeThere_X3_rounds rfl rfl rfl (by decide +kernel) ⟨Nat.le_of_ble_eq_true rfl, Nat.le_of_ble_eq_true rfl⟩) ⟨wPre.blind, (va_recv hK hP (ci := 2) (q0 := 0) rfl rfl), (fun U hU hW => ⟨rfl, w_pre hK hT hA hP hD hS (isC := [0, 5, 1]) (by decide) rfl U hU hW⟩)⟩ rfl rfl hl.1 rfl (lv_room (Nat.le_of_ble_eq_true rfl)) dX4_codeThere_29 ⟨Nat.le_of_ble_eq_true rfl, Nat.le_of_ble_eq_true rfl⟩) hA hP hD hS [0, 5, 1] [2, 3, 4, 6] rfl rfl (by decide) (by decide) (fun r u H locs hpost hP hD hS => ?_)
  obtain rfl := hpost
  have hP : va_P G.1 vwCl [(h, .inr (3, [.ref bb, .int (nI 3), .ref d1, .ref d2])), (bb, .inl (G.2.1, 8, .inl fb)), (d1, .inr (2, [.ref dx, .ref k1])), (k1, .inl (G.2.1, 128, .inl f1)), (d2, .inr (2, [.ref dx, .ref k2])), (dx, .inl (G.2.1, 512, .inl fx)), (k2, .inl (G.2.1, 128, .inl f2))] H := hP
  have hD : va_D A [(h, .inr (3, [.ref bb, .int (nI 3), .ref d1, .ref d2])), (bb, .inl (G.2.1, 8, .inl fb)), (d1, .inr (2, [.ref dx, .ref k1])), (k1, .inl (G.2.1, 128, .inl f1)), (d2, .inr (2, [.ref dx, .ref k2])), (dx, .inl (G.2.1, 512, .inl fx)), (k2, .inl (G.2.1, 128, .inl f2))] := hD
  refine lv_lstore_n (lv' := [(1, .long (rds f2 fx (fun i_ => 15 - i_) (rds f1 fx (fun i_ => i_) (pm (gaI fb 8) 64 1)))), (0, .ref h)]) hx hb dX4_codeThere_32 rfl hl (by decide) rfl (fun ls hl => ?_)
  refine lv_aload_n hx hb dX4_codeThere_33 rfl (lv_at hl 1 rfl) ?_
  refine va_get (D := G.1) (ci := 3) (v := .ref d1) (C := RX4) (T := TX4) (N := 4) hx hb hts hinX4 hown hK hP 0 rfl rfl 2 (by decide) (hts (.fieldLink RX4 16 "CipherBox$Des3" "first" "LCipherBox$Des;") (by decide +kernel)) (fun _ h9 => h9) rfl dX4_codeThere_34 ?_
  refine lv_lload_n hx hb dX4_codeThere_37 rfl (lv_at hl 0 rfl) ?_
  refine lv_iconst (v := nI 0) hx hb dX4_codeThere_38 (by decide) ?_
  refine w_finl (wr := [(h, .inr (3, [.ref bb, .int (nI 3), .ref d1, .ref d2])), (bb, .inl (G.2.1, 8, .inl fb)), (d2, .inr (2, [.ref dx, .ref k2])), (k2, .inl (G.2.1, 128, .inl f2))]) (va_runV (As := [.long (rds f2 fx (fun i_ => 15 - i_) (rds f1 fx (fun i_ => i_) (pm (gaI fb 8) 64 1))), .int (nI 0)]) (rest := []) ⟨hx, hb, hml, hown, hts⟩ (c_Des_rounds0 l G d1 dx k1 fx f1 (rds f2 fx (fun i_ => 15 - i_) (rds f1 fx (fun i_ => i_) (pm (gaI fb 8) 64 1))) H.size) (cwV 2 hts gX4_codeThere_X3_rounds rfl rfl rfl (by decide +kernel) ⟨Nat.le_of_ble_eq_true rfl, Nat.le_of_ble_eq_true rfl⟩) ⟨wPre.blind, (va_recv hK hP (ci := 2) (q0 := 2) rfl rfl), (fun U hU hW => ⟨rfl, w_pre hK hT hA hP hD hS (isC := [2, 5, 3]) (by decide) rfl U hU hW⟩)⟩ rfl rfl hl.1 rfl (lv_room (Nat.le_of_ble_eq_true rfl)) dX4_codeThere_39 ⟨Nat.le_of_ble_eq_true rfl, Nat.le_of_ble_eq_true rfl⟩) hA hP hD hS [2, 5, 3] [0, 1, 4, 6] rfl rfl (by decide) (by decide) (fun r u H locs hpost hP hD hS => ?_)
  obtain rfl := hpost
  have hP : va_P G.1 vwCl [(h, .inr (3, [.ref bb, .int (nI 3), .ref d1, .ref d2])), (bb, .inl (G.2.1, 8, .inl fb)), (d2, .inr (2, [.ref dx, .ref k2])), (k2, .inl (G.2.1, 128, .inl f2)), (d1, .inr (2, [.ref dx, .ref k1])), (dx, .inl (G.2.1, 512, .inl fx)), (k1, .inl (G.2.1, 128, .inl f1))] H := hP
  have hD : va_D A [(h, .inr (3, [.ref bb, .int (nI 3), .ref d1, .ref d2])), (bb, .inl (G.2.1, 8, .inl fb)), (d2, .inr (2, [.ref dx, .ref k2])), (k2, .inl (G.2.1, 128, .inl f2)), (d1, .inr (2, [.ref dx, .ref k1])), (dx, .inl (G.2.1, 512, .inl fx)), (k1, .inl (G.2.1, 128, .inl f1))] := hD
  refine lv_lstore_n (lv' := [(1, .long (rds f1 fx (fun i_ => i_) (rds f2 fx (fun i_ => 15 - i_) (rds f1 fx (fun i_ => i_) (pm (gaI fb 8) 64 1))))), (0, .ref h)]) hx hb dX4_codeThere_42 rfl hl (by decide) rfl (fun ls hl => ?_)
  refine lv_aload_n hx hb dX4_codeThere_43 rfl (lv_at hl 1 rfl) ?_
  refine lv_lload_n hx hb dX4_codeThere_44 rfl (lv_at hl 0 rfl) ?_
  refine lv_bipush (v := nI 64) hx hb dX4_codeThere_45 (by decide) ?_
  refine w_gets hx hb hT hS 2 (by decide) hown (hts (.fieldLink RX4 51 "CipherBox$Des" "FINAL" "[I") (by decide +kernel)) dX4_codeThere_47 ?_
  refine w_finl (wr := [(h, .inr (3, [.ref bb, .int (nI 3), .ref d1, .ref d2])), (bb, .inl (G.2.1, 8, .inl fb)), (d2, .inr (2, [.ref dx, .ref k2])), (k2, .inl (G.2.1, 128, .inl f2)), (d1, .inr (2, [.ref dx, .ref k1])), (dx, .inl (G.2.1, 512, .inl fx)), (k1, .inl (G.2.1, 128, .inl f1))]) (va_runS (As := [.long (rds f1 fx (fun i_ => i_) (rds f2 fx (fun i_ => 15 - i_) (rds f1 fx (fun i_ => i_) (pm (gaI fb 8) 64 1)))), .int (nI 64), .ref (G.2.2.2 2)]) (rest := [.ref h]) ⟨hx, hb, hml, hown, hts⟩ (c_Des_permute l G (rds f1 fx (fun i_ => i_) (rds f2 fx (fun i_ => 15 - i_) (rds f1 fx (fun i_ => i_) (pm (gaI fb 8) 64 1)))) 64 2 (by decide) H.size) (va_cwS 3 hts gX4_codeThere_X3_permute rfl rfl rfl (by decide +kernel) ⟨Nat.le_of_ble_eq_true rfl, Nat.le_of_ble_eq_true rfl⟩) ⟨wPre.blind, (fun U hU hW => ⟨rfl, w_pre hK hT hA hP hD hS (isC := []) (by decide) rfl U hU hW⟩)⟩ rfl rfl hl.1 rfl (lv_room (Nat.le_of_ble_eq_true rfl)) dX4_codeThere_50 ⟨Nat.le_of_ble_eq_true rfl, Nat.le_of_ble_eq_true rfl⟩) hA hP hD hS [] [0, 1, 2, 3, 4, 5, 6] rfl rfl (by decide) (by decide) (fun r u H locs hpost hP hD hS => ?_)
  obtain rfl := hpost
  have hP : va_P G.1 vwCl [(h, .inr (3, [.ref bb, .int (nI 3), .ref d1, .ref d2])), (bb, .inl (G.2.1, 8, .inl fb)), (d2, .inr (2, [.ref dx, .ref k2])), (k2, .inl (G.2.1, 128, .inl f2)), (d1, .inr (2, [.ref dx, .ref k1])), (dx, .inl (G.2.1, 512, .inl fx)), (k1, .inl (G.2.1, 128, .inl f1))] H := hP
  have hD : va_D A [(h, .inr (3, [.ref bb, .int (nI 3), .ref d1, .ref d2])), (bb, .inl (G.2.1, 8, .inl fb)), (d2, .inr (2, [.ref dx, .ref k2])), (k2, .inl (G.2.1, 128, .inl f2)), (d1, .inr (2, [.ref dx, .ref k1])), (dx, .inl (G.2.1, 512, .inl fx)), (k1, .inl (G.2.1, 128, .inl f1))] := hD
  refine w_finv (wr := [(d2, .inr (2, [.ref dx, .ref k2])), (k2, .inl (G.2.1, 128, .inl f2)), (d1, .inr (2, [.ref dx, .ref k1])), (dx, .inl (G.2.1, 512, .inl fx)), (k1, .inl (G.2.1, 128, .inl f1))]) (va_runV (As := [.long (pm (rds f1 fx (fun i_ => i_) (rds f2 fx (fun i_ => 15 - i_) (rds f1 fx (fun i_ => i_) (pm (gaI fb 8) 64 1)))) 64 2)]) (rest := []) ⟨hx, hb, hml, hown, hts⟩ (c_Des3_spread l G h bb d1 d2 fb (pm (rds f1 fx (fun i_ => i_) (rds f2 fx (fun i_ => 15 - i_) (rds f1 fx (fun i_ => i_) (pm (gaI fb 8) 64 1)))) 64 2) H.size) (cwV 1 hts gX4_codeThere_X4_spread rfl rfl rfl (by decide +kernel) ⟨Nat.le_of_ble_eq_true rfl, Nat.le_of_ble_eq_true rfl⟩) ⟨wPre.blind, (va_recv hK hP (ci := 3) (q0 := 0) rfl rfl), (fun U hU hW => ⟨rfl, w_pre hK hT hA hP hD hS (isC := [0, 1]) (by decide) rfl U hU hW⟩)⟩ rfl rfl hl.1 rfl (lv_room (Nat.le_of_ble_eq_true rfl)) dX4_codeThere_53 ⟨Nat.le_of_ble_eq_true rfl, Nat.le_of_ble_eq_true rfl⟩) hA hP hD hS [0, 1] [2, 3, 4, 5, 6] rfl rfl (by decide) (by decide) (fun u H locs hpost hP hD hS => ?_)
  have hP : va_P G.1 vwCl [(d2, .inr (2, [.ref dx, .ref k2])), (k2, .inl (G.2.1, 128, .inl f2)), (d1, .inr (2, [.ref dx, .ref k1])), (dx, .inl (G.2.1, 512, .inl fx)), (k1, .inl (G.2.1, 128, .inl f1)), (h, .inr (3, [.ref bb, .int (nI 3), .ref d1, .ref d2])), (bb, .inl (G.2.1, 8, .inl (spB (pm (rds f1 fx (fun i_ => i_) (rds f2 fx (fun i_ => 15 - i_) (rds f1 fx (fun i_ => i_) (pm (gaI fb 8) 64 1)))) 64 2))))] H := hP
  have hD : va_D A [(d2, .inr (2, [.ref dx, .ref k2])), (k2, .inl (G.2.1, 128, .inl f2)), (d1, .inr (2, [.ref dx, .ref k1])), (dx, .inl (G.2.1, 512, .inl fx)), (k1, .inl (G.2.1, 128, .inl f1)), (h, .inr (3, [.ref bb, .int (nI 3), .ref d1, .ref d2])), (bb, .inl (G.2.1, 8, .inl (spB (pm (rds f1 fx (fun i_ => i_) (rds f2 fx (fun i_ => 15 - i_) (rds f1 fx (fun i_ => i_) (pm (gaI fb 8) 64 1)))) 64 2))))] := hD
  exact hret () H _ 56 ls dX4_codeThere_56 (trivial) (hP.sub [5, 6, 2, 0, 3, 4, 1] rfl) (hD.sub [5, 6, 2, 0, 3, 4, 1] (by decide) rfl) hS

set_option maxHeartbeats 4000000 in
set_option maxRecDepth 100000 in
theorem c_Des3_codeBack (l : Launch) (G : wG) (h bb d1 d2 dx k1 k2 : Nat) (fb fx f1 f2 : Nat → Int32)  : CMv l G yX4_codeBack wsX4_codeBack 2 54 0 0 [.ref h] [(h, .inr (3, [.ref bb, .int (nI 3), .ref d1, .ref d2])), (bb, .inl (G.2.1, 8, .inl fb)), (d1, .inr (2, [.ref dx, .ref k1])), (d2, .inr (2, [.ref dx, .ref k2])), (dx, .inl (G.2.1, 512, .inl fx)), (k1, .inl (G.2.1, 128, .inl f1)), (k2, .inl (G.2.1, 128, .inl f2))] (fun (_ : Unit) => True) (fun _ => [(h, .inr (3, [.ref bb, .int (nI 3), .ref d1, .ref d2])), (bb, .inl (G.2.1, 8, .inl (d3B f1 f2 fx fb))), (d1, .inr (2, [.ref dx, .ref k1])), (d2, .inr (2, [.ref dx, .ref k2])), (dx, .inl (G.2.1, 512, .inl fx)), (k1, .inl (G.2.1, 128, .inl f1)), (k2, .inl (G.2.1, 128, .inl f2))]) := by
  refine CMv.start cX4_codeBack 3 (by decide) rfl (Nat.le_of_ble_eq_true rfl) ?_
  intro p e s m below meth c A Q ls H locs hx hb hml hown hnm hts hK hT hA hP hD hS hl hret
  have hinX4 : ∀ w ∈ u_ws RX4 TX4 4, w ∈ wsX4_codeBack := by decide +kernel
  have hl : lv_has ls 3 [(0, .ref h)] := hl
  refine lv_aload_n hx hb dX4_codeBack_0 rfl (lv_at hl 0 rfl) ?_
  refine w_finl (wr := [(d1, .inr (2, [.ref dx, .ref k1])), (d2, .inr (2, [.ref dx, .ref k2])), (dx, .inl (G.2.1, 512, .inl fx)), (k1, .inl (G.2.1, 128, .inl f1)), (k2, .inl (G.2.1, 128, .inl f2))]) (va_runV (As := []) (rest := []) ⟨hx, hb, hml, hown, hts⟩ (c_Des3_gathered l G h bb d1 d2 fb H.size) (cwV 0 hts gX4_codeBack_X4_gathered rfl rfl rfl (by decide +kernel) ⟨Nat.le_of_ble_eq_true rfl, Nat.le_of_ble_eq_true rfl⟩) ⟨wPre.blind, (va_recv hK hP (ci := 3) (q0 := 0) rfl rfl), (fun U hU hW => ⟨rfl, w_pre hK hT hA hP hD hS (isC := [0, 1]) (by decide) rfl U hU hW⟩)⟩ rfl rfl hl.1 rfl (lv_room (Nat.le_of_ble_eq_true rfl)) dX4_codeBack_1 ⟨Nat.le_of_ble_eq_true rfl, Nat.le_of_ble_eq_true rfl⟩) hA hP hD hS [0, 1] [2, 3, 4, 5, 6] rfl rfl (by decide) (by decide) (fun r u H locs hpost hP hD hS => ?_)
  obtain rfl := hpost
  have hP : va_P G.1 vwCl [(d1, .inr (2, [.ref dx, .ref k1])), (d2, .inr (2, [.ref dx, .ref k2])), (dx, .inl (G.2.1, 512, .inl fx)), (k1, .inl (G.2.1, 128, .inl f1)), (k2, .inl (G.2.1, 128, .inl f2)), (h, .inr (3, [.ref bb, .int (nI 3), .ref d1, .ref d2])), (bb, .inl (G.2.1, 8, .inl fb))] H := hP
  have hD : va_D A [(d1, .inr (2, [.ref dx, .ref k1])), (d2, .inr (2, [.ref dx, .ref k2])), (dx, .inl (G.2.1, 512, .inl fx)), (k1, .inl (G.2.1, 128, .inl f1)), (k2, .inl (G.2.1, 128, .inl f2)), (h, .inr (3, [.ref bb, .int (nI 3), .ref d1, .ref d2])), (bb, .inl (G.2.1, 8, .inl fb))] := hD
  refine lv_bipush (v := nI 64) hx hb dX4_codeBack_4 (by decide) ?_
  refine w_gets hx hb hT hS 1 (by decide) hown (hts (.fieldLink RX4 39 "CipherBox$Des" "INITIAL" "[I") (by decide +kernel)) dX4_codeBack_6 ?_
  refine w_finl (wr := [(d1, .inr (2, [.ref dx, .ref k1])), (d2, .inr (2, [.ref dx, .ref k2])), (dx, .inl (G.2.1, 512, .inl fx)), (k1, .inl (G.2.1, 128, .inl f1)), (k2, .inl (G.2.1, 128, .inl f2)), (h, .inr (3, [.ref bb, .int (nI 3), .ref d1, .ref d2])), (bb, .inl (G.2.1, 8, .inl fb))]) (va_runS (As := [.long (gaI fb 8), .int (nI 64), .ref (G.2.2.2 1)]) (rest := []) ⟨hx, hb, hml, hown, hts⟩ (c_Des_permute l G (gaI fb 8) 64 1 (by decide) H.size) (va_cwS 3 hts gX4_codeBack_X3_permute rfl rfl rfl (by decide +kernel) ⟨Nat.le_of_ble_eq_true rfl, Nat.le_of_ble_eq_true rfl⟩) ⟨wPre.blind, (fun U hU hW => ⟨rfl, w_pre hK hT hA hP hD hS (isC := []) (by decide) rfl U hU hW⟩)⟩ rfl rfl hl.1 rfl (lv_room (Nat.le_of_ble_eq_true rfl)) dX4_codeBack_9 ⟨Nat.le_of_ble_eq_true rfl, Nat.le_of_ble_eq_true rfl⟩) hA hP hD hS [] [0, 1, 2, 3, 4, 5, 6] rfl rfl (by decide) (by decide) (fun r u H locs hpost hP hD hS => ?_)
  obtain rfl := hpost
  have hP : va_P G.1 vwCl [(d1, .inr (2, [.ref dx, .ref k1])), (d2, .inr (2, [.ref dx, .ref k2])), (dx, .inl (G.2.1, 512, .inl fx)), (k1, .inl (G.2.1, 128, .inl f1)), (k2, .inl (G.2.1, 128, .inl f2)), (h, .inr (3, [.ref bb, .int (nI 3), .ref d1, .ref d2])), (bb, .inl (G.2.1, 8, .inl fb))] H := hP
  have hD : va_D A [(d1, .inr (2, [.ref dx, .ref k1])), (d2, .inr (2, [.ref dx, .ref k2])), (dx, .inl (G.2.1, 512, .inl fx)), (k1, .inl (G.2.1, 128, .inl f1)), (k2, .inl (G.2.1, 128, .inl f2)), (h, .inr (3, [.ref bb, .int (nI 3), .ref d1, .ref d2])), (bb, .inl (G.2.1, 8, .inl fb))] := hD
  refine lv_lstore_n (lv' := [(1, .long (pm (gaI fb 8) 64 1)), (0, .ref h)]) hx hb dX4_codeBack_12 rfl hl (by decide) rfl (fun ls hl => ?_)
  refine lv_aload_n hx hb dX4_codeBack_13 rfl (lv_at hl 1 rfl) ?_
  refine va_get (D := G.1) (ci := 3) (v := .ref d1) (C := RX4) (T := TX4) (N := 4) hx hb hts hinX4 hown hK hP 5 rfl rfl 2 (by decide) (hts (.fieldLink RX4 16 "CipherBox$Des3" "first" "LCipherBox$Des;") (by decide +kernel)) (fun _ h9 => h9) rfl dX4_codeBack_14 ?_
  refine lv_lload_n hx hb dX4_codeBack_17 rfl (lv_at hl 0 rfl) ?_
  refine lv_iconst (v := nI 1) hx hb dX4_codeBack_18 (by decide) ?_
  refine w_finl (wr := [(d2, .inr (2, [.ref dx, .ref k2])), (k2, .inl (G.2.1, 128, .inl f2)), (h, .inr (3, [.ref bb, .int (nI 3), .ref d1, .ref d2])), (bb, .inl (G.2.1, 8, .inl fb))]) (va_runV (As := [.long (pm (gaI fb 8) 64 1), .int (nI 1)]) (rest := []) ⟨hx, hb, hml, hown, hts⟩ (c_Des_rounds1 l G d1 dx k1 fx f1 (pm (gaI fb 8) 64 1) H.size) (cwV 2 hts gX4_codeBack_X3_rounds rfl rfl rfl (by decide +kernel) ⟨Nat.le_of_ble_eq_true rfl, Nat.le_of_ble_eq_true rfl⟩) ⟨wPre.blind, (va_recv hK hP (ci := 2) (q0 := 0) rfl rfl), (fun U hU hW => ⟨rfl, w_pre hK hT hA hP hD hS (isC := [0, 2, 3]) (by decide) rfl U hU hW⟩)⟩ rfl rfl hl.1 rfl (lv_room (Nat.le_of_ble_eq_true rfl)) dX4_codeBack_19 ⟨Nat.le_of_ble_eq_true rfl, Nat.le_of_ble_eq_true rfl⟩) hA hP hD hS [0, 2, 3] [1, 4, 5, 6] rfl rfl (by decide) (by decide) (fun r u H locs hpost hP hD hS => ?_)
  obtain rfl := hpost
  have hP : va_P G.1 vwCl [(d2, .inr (2, [.ref dx, .ref k2])), (k2, .inl (G.2.1, 128, .inl f2)), (h, .inr (3, [.ref bb, .int (nI 3), .ref d1, .ref d2])), (bb, .inl (G.2.1, 8, .inl fb)), (d1, .inr (2, [.ref dx, .ref k1])), (dx, .inl (G.2.1, 512, .inl fx)), (k1, .inl (G.2.1, 128, .inl f1))] H := hP
  have hD : va_D A [(d2, .inr (2, [.ref dx, .ref k2])), (k2, .inl (G.2.1, 128, .inl f2)), (h, .inr (3, [.ref bb, .int (nI 3), .ref d1, .ref d2])), (bb, .inl (G.2.1, 8, .inl fb)), (d1, .inr (2, [.ref dx, .ref k1])), (dx, .inl (G.2.1, 512, .inl fx)), (k1, .inl (G.2.1, 128, .inl f1))] := hD
  refine lv_lstore_n (lv' := [(1, .long (rds f1 fx (fun i_ => 15 - i_) (pm (gaI fb 8) 64 1))), (0, .ref h)]) hx hb dX4_codeBack_22 rfl hl (by decide) rfl (fun ls hl => ?_)
  refine lv_aload_n hx hb dX4_codeBack_23 rfl (lv_at hl 1 rfl) ?_
  refine va_get (D := G.1) (ci := 3) (v := .ref d2) (C := RX4) (T := TX4) (N := 4) hx hb hts hinX4 hown hK hP 2 rfl rfl 3 (by decide) (hts (.fieldLink RX4 22 "CipherBox$Des3" "last" "LCipherBox$Des;") (by decide +kernel)) (fun _ h9 => h9) rfl dX4_codeBack_24 ?_
  refine lv_lload_n hx hb dX4_codeBack_27 rfl (lv_at hl 0 rfl) ?_
  refine lv_iconst (v := nI 0) hx hb dX4_codeBack_28 (by decide) ?_
  refine w_finl (wr := [(h, .inr (3, [.ref bb, .int (nI 3), .ref d1, .ref d2])), (bb, .inl (G.2.1, 8, .inl fb)), (d1, .inr (2, [.ref dx, .ref k1])), (k1, .inl (G.2.1, 128, .inl f1))]) (va_runV (As := [.long (rds f1 fx (fun i_ => 15 - i_) (pm (gaI fb 8) 64 1)), .int (nI 0)]) (rest := []) ⟨hx, hb, hml, hown, hts⟩ (c_Des_rounds0 l G d2 dx k2 fx f2 (rds f1 fx (fun i_ => 15 - i_) (pm (gaI fb 8) 64 1)) H.size) (cwV 2 hts gX4_codeBack_X3_rounds rfl rfl rfl (by decide +kernel) ⟨Nat.le_of_ble_eq_true rfl, Nat.le_of_ble_eq_true rfl⟩) ⟨wPre.blind, (va_recv hK hP (ci := 2) (q0 := 0) rfl rfl), (fun U hU hW => ⟨rfl, w_pre hK hT hA hP hD hS (isC := [0, 5, 1]) (by decide) rfl U hU hW⟩)⟩ rfl rfl hl.1 rfl (lv_room (Nat.le_of_ble_eq_true rfl)) dX4_codeBack_29 ⟨Nat.le_of_ble_eq_true rfl, Nat.le_of_ble_eq_true rfl⟩) hA hP hD hS [0, 5, 1] [2, 3, 4, 6] rfl rfl (by decide) (by decide) (fun r u H locs hpost hP hD hS => ?_)
  obtain rfl := hpost
  have hP : va_P G.1 vwCl [(h, .inr (3, [.ref bb, .int (nI 3), .ref d1, .ref d2])), (bb, .inl (G.2.1, 8, .inl fb)), (d1, .inr (2, [.ref dx, .ref k1])), (k1, .inl (G.2.1, 128, .inl f1)), (d2, .inr (2, [.ref dx, .ref k2])), (dx, .inl (G.2.1, 512, .inl fx)), (k2, .inl (G.2.1, 128, .inl f2))] H := hP
  have hD : va_D A [(h, .inr (3, [.ref bb, .int (nI 3), .ref d1, .ref d2])), (bb, .inl (G.2.1, 8, .inl fb)), (d1, .inr (2, [.ref dx, .ref k1])), (k1, .inl (G.2.1, 128, .inl f1)), (d2, .inr (2, [.ref dx, .ref k2])), (dx, .inl (G.2.1, 512, .inl fx)), (k2, .inl (G.2.1, 128, .inl f2))] := hD
  refine lv_lstore_n (lv' := [(1, .long (rds f2 fx (fun i_ => i_) (rds f1 fx (fun i_ => 15 - i_) (pm (gaI fb 8) 64 1)))), (0, .ref h)]) hx hb dX4_codeBack_32 rfl hl (by decide) rfl (fun ls hl => ?_)
  refine lv_aload_n hx hb dX4_codeBack_33 rfl (lv_at hl 1 rfl) ?_
  refine va_get (D := G.1) (ci := 3) (v := .ref d1) (C := RX4) (T := TX4) (N := 4) hx hb hts hinX4 hown hK hP 0 rfl rfl 2 (by decide) (hts (.fieldLink RX4 16 "CipherBox$Des3" "first" "LCipherBox$Des;") (by decide +kernel)) (fun _ h9 => h9) rfl dX4_codeBack_34 ?_
  refine lv_lload_n hx hb dX4_codeBack_37 rfl (lv_at hl 0 rfl) ?_
  refine lv_iconst (v := nI 1) hx hb dX4_codeBack_38 (by decide) ?_
  refine w_finl (wr := [(h, .inr (3, [.ref bb, .int (nI 3), .ref d1, .ref d2])), (bb, .inl (G.2.1, 8, .inl fb)), (d2, .inr (2, [.ref dx, .ref k2])), (k2, .inl (G.2.1, 128, .inl f2))]) (va_runV (As := [.long (rds f2 fx (fun i_ => i_) (rds f1 fx (fun i_ => 15 - i_) (pm (gaI fb 8) 64 1))), .int (nI 1)]) (rest := []) ⟨hx, hb, hml, hown, hts⟩ (c_Des_rounds1 l G d1 dx k1 fx f1 (rds f2 fx (fun i_ => i_) (rds f1 fx (fun i_ => 15 - i_) (pm (gaI fb 8) 64 1))) H.size) (cwV 2 hts gX4_codeBack_X3_rounds rfl rfl rfl (by decide +kernel) ⟨Nat.le_of_ble_eq_true rfl, Nat.le_of_ble_eq_true rfl⟩) ⟨wPre.blind, (va_recv hK hP (ci := 2) (q0 := 2) rfl rfl), (fun U hU hW => ⟨rfl, w_pre hK hT hA hP hD hS (isC := [2, 5, 3]) (by decide) rfl U hU hW⟩)⟩ rfl rfl hl.1 rfl (lv_room (Nat.le_of_ble_eq_true rfl)) dX4_codeBack_39 ⟨Nat.le_of_ble_eq_true rfl, Nat.le_of_ble_eq_true rfl⟩) hA hP hD hS [2, 5, 3] [0, 1, 4, 6] rfl rfl (by decide) (by decide) (fun r u H locs hpost hP hD hS => ?_)
  obtain rfl := hpost
  have hP : va_P G.1 vwCl [(h, .inr (3, [.ref bb, .int (nI 3), .ref d1, .ref d2])), (bb, .inl (G.2.1, 8, .inl fb)), (d2, .inr (2, [.ref dx, .ref k2])), (k2, .inl (G.2.1, 128, .inl f2)), (d1, .inr (2, [.ref dx, .ref k1])), (dx, .inl (G.2.1, 512, .inl fx)), (k1, .inl (G.2.1, 128, .inl f1))] H := hP
  have hD : va_D A [(h, .inr (3, [.ref bb, .int (nI 3), .ref d1, .ref d2])), (bb, .inl (G.2.1, 8, .inl fb)), (d2, .inr (2, [.ref dx, .ref k2])), (k2, .inl (G.2.1, 128, .inl f2)), (d1, .inr (2, [.ref dx, .ref k1])), (dx, .inl (G.2.1, 512, .inl fx)), (k1, .inl (G.2.1, 128, .inl f1))] := hD
  refine lv_lstore_n (lv' := [(1, .long (rds f1 fx (fun i_ => 15 - i_) (rds f2 fx (fun i_ => i_) (rds f1 fx (fun i_ => 15 - i_) (pm (gaI fb 8) 64 1))))), (0, .ref h)]) hx hb dX4_codeBack_42 rfl hl (by decide) rfl (fun ls hl => ?_)
  refine lv_aload_n hx hb dX4_codeBack_43 rfl (lv_at hl 1 rfl) ?_
  refine lv_lload_n hx hb dX4_codeBack_44 rfl (lv_at hl 0 rfl) ?_
  refine lv_bipush (v := nI 64) hx hb dX4_codeBack_45 (by decide) ?_
  refine w_gets hx hb hT hS 2 (by decide) hown (hts (.fieldLink RX4 51 "CipherBox$Des" "FINAL" "[I") (by decide +kernel)) dX4_codeBack_47 ?_
  refine w_finl (wr := [(h, .inr (3, [.ref bb, .int (nI 3), .ref d1, .ref d2])), (bb, .inl (G.2.1, 8, .inl fb)), (d2, .inr (2, [.ref dx, .ref k2])), (k2, .inl (G.2.1, 128, .inl f2)), (d1, .inr (2, [.ref dx, .ref k1])), (dx, .inl (G.2.1, 512, .inl fx)), (k1, .inl (G.2.1, 128, .inl f1))]) (va_runS (As := [.long (rds f1 fx (fun i_ => 15 - i_) (rds f2 fx (fun i_ => i_) (rds f1 fx (fun i_ => 15 - i_) (pm (gaI fb 8) 64 1)))), .int (nI 64), .ref (G.2.2.2 2)]) (rest := [.ref h]) ⟨hx, hb, hml, hown, hts⟩ (c_Des_permute l G (rds f1 fx (fun i_ => 15 - i_) (rds f2 fx (fun i_ => i_) (rds f1 fx (fun i_ => 15 - i_) (pm (gaI fb 8) 64 1)))) 64 2 (by decide) H.size) (va_cwS 3 hts gX4_codeBack_X3_permute rfl rfl rfl (by decide +kernel) ⟨Nat.le_of_ble_eq_true rfl, Nat.le_of_ble_eq_true rfl⟩) ⟨wPre.blind, (fun U hU hW => ⟨rfl, w_pre hK hT hA hP hD hS (isC := []) (by decide) rfl U hU hW⟩)⟩ rfl rfl hl.1 rfl (lv_room (Nat.le_of_ble_eq_true rfl)) dX4_codeBack_50 ⟨Nat.le_of_ble_eq_true rfl, Nat.le_of_ble_eq_true rfl⟩) hA hP hD hS [] [0, 1, 2, 3, 4, 5, 6] rfl rfl (by decide) (by decide) (fun r u H locs hpost hP hD hS => ?_)
  obtain rfl := hpost
  have hP : va_P G.1 vwCl [(h, .inr (3, [.ref bb, .int (nI 3), .ref d1, .ref d2])), (bb, .inl (G.2.1, 8, .inl fb)), (d2, .inr (2, [.ref dx, .ref k2])), (k2, .inl (G.2.1, 128, .inl f2)), (d1, .inr (2, [.ref dx, .ref k1])), (dx, .inl (G.2.1, 512, .inl fx)), (k1, .inl (G.2.1, 128, .inl f1))] H := hP
  have hD : va_D A [(h, .inr (3, [.ref bb, .int (nI 3), .ref d1, .ref d2])), (bb, .inl (G.2.1, 8, .inl fb)), (d2, .inr (2, [.ref dx, .ref k2])), (k2, .inl (G.2.1, 128, .inl f2)), (d1, .inr (2, [.ref dx, .ref k1])), (dx, .inl (G.2.1, 512, .inl fx)), (k1, .inl (G.2.1, 128, .inl f1))] := hD
  refine w_finv (wr := [(d2, .inr (2, [.ref dx, .ref k2])), (k2, .inl (G.2.1, 128, .inl f2)), (d1, .inr (2, [.ref dx, .ref k1])), (dx, .inl (G.2.1, 512, .inl fx)), (k1, .inl (G.2.1, 128, .inl f1))]) (va_runV (As := [.long (pm (rds f1 fx (fun i_ => 15 - i_) (rds f2 fx (fun i_ => i_) (rds f1 fx (fun i_ => 15 - i_) (pm (gaI fb 8) 64 1)))) 64 2)]) (rest := []) ⟨hx, hb, hml, hown, hts⟩ (c_Des3_spread l G h bb d1 d2 fb (pm (rds f1 fx (fun i_ => 15 - i_) (rds f2 fx (fun i_ => i_) (rds f1 fx (fun i_ => 15 - i_) (pm (gaI fb 8) 64 1)))) 64 2) H.size) (cwV 1 hts gX4_codeBack_X4_spread rfl rfl rfl (by decide +kernel) ⟨Nat.le_of_ble_eq_true rfl, Nat.le_of_ble_eq_true rfl⟩) ⟨wPre.blind, (va_recv hK hP (ci := 3) (q0 := 0) rfl rfl), (fun U hU hW => ⟨rfl, w_pre hK hT hA hP hD hS (isC := [0, 1]) (by decide) rfl U hU hW⟩)⟩ rfl rfl hl.1 rfl (lv_room (Nat.le_of_ble_eq_true rfl)) dX4_codeBack_53 ⟨Nat.le_of_ble_eq_true rfl, Nat.le_of_ble_eq_true rfl⟩) hA hP hD hS [0, 1] [2, 3, 4, 5, 6] rfl rfl (by decide) (by decide) (fun u H locs hpost hP hD hS => ?_)
  have hP : va_P G.1 vwCl [(d2, .inr (2, [.ref dx, .ref k2])), (k2, .inl (G.2.1, 128, .inl f2)), (d1, .inr (2, [.ref dx, .ref k1])), (dx, .inl (G.2.1, 512, .inl fx)), (k1, .inl (G.2.1, 128, .inl f1)), (h, .inr (3, [.ref bb, .int (nI 3), .ref d1, .ref d2])), (bb, .inl (G.2.1, 8, .inl (spB (pm (rds f1 fx (fun i_ => 15 - i_) (rds f2 fx (fun i_ => i_) (rds f1 fx (fun i_ => 15 - i_) (pm (gaI fb 8) 64 1)))) 64 2))))] H := hP
  have hD : va_D A [(d2, .inr (2, [.ref dx, .ref k2])), (k2, .inl (G.2.1, 128, .inl f2)), (d1, .inr (2, [.ref dx, .ref k1])), (dx, .inl (G.2.1, 512, .inl fx)), (k1, .inl (G.2.1, 128, .inl f1)), (h, .inr (3, [.ref bb, .int (nI 3), .ref d1, .ref d2])), (bb, .inl (G.2.1, 8, .inl (spB (pm (rds f1 fx (fun i_ => 15 - i_) (rds f2 fx (fun i_ => i_) (rds f1 fx (fun i_ => 15 - i_) (pm (gaI fb 8) 64 1)))) 64 2))))] := hD
  exact hret () H _ 56 ls dX4_codeBack_56 (trivial) (hP.sub [5, 6, 2, 0, 3, 4, 1] rfl) (hD.sub [5, 6, 2, 0, 3, 4, 1] (by decide) rfl) hS

set_option maxHeartbeats 4000000 in
set_option maxRecDepth 100000 in
theorem c_Des3_schedule (l : Launch) (G : wG) (h bb d1 d2 dx k1 k2 : Nat) (f1 f2 : Nat → Int32) (o ob on oz : Nat) (g : Nat → Int32) (hoz : oz ≤ on) (hon : on < 2 ^ 20) : CMv l G yX4_schedule wsX4_schedule 3 63 0 0 [.ref h, .ref o] [(h, .inr (3, [.ref bb, .int (nI 3), .ref d1, .ref d2])), (d1, .inr (2, [.ref dx, .ref k1])), (d2, .inr (2, [.ref dx, .ref k2])), (k1, .inl (G.2.1, 128, .inl f1)), (k2, .inl (G.2.1, 128, .inl f2)), (o, .inr (4, [.ref ob, .int (nI oz)])), (ob, .inl (G.2.1, on, .inl g))] (fun (_ : Unit) => True) (fun _ => [(h, .inr (3, [.ref bb, .int (nI 3), .ref d1, .ref d2])), (d1, .inr (2, [.ref dx, .ref k1])), (d2, .inr (2, [.ref dx, .ref k2])), (k1, .inl (G.2.1, 128, .inl (dkI (lAt g oz 0)))), (k2, .inl (G.2.1, 128, .inl (dkI (lAt g oz 8)))), (o, .inr (4, [.ref ob, .int (nI oz)])), (ob, .inl (G.2.1, on, .inl g))]) := by
  refine CMv.start cX4_schedule 2 (by decide) rfl (Nat.le_of_ble_eq_true rfl) ?_
  intro p e s m below meth c A Q ls H locs hx hb hml hown hnm hts hK hT hA hP hD hS hl hret
  have hinX4 : ∀ w ∈ u_ws RX4 TX4 4, w ∈ wsX4_schedule := by decide +kernel
  have hl : lv_has ls 2 [(0, .ref h), (1, .ref o)] := hl
  refine lv_aload_n hx hb dX4_schedule_0 rfl (lv_at hl 0 rfl) ?_
  refine va_get (D := G.1) (ci := 3) (v := .ref d1) (C := RX4) (T := TX4) (N := 4) hx hb hts hinX4 hown hK hP 0 rfl rfl 2 (by decide) (hts (.fieldLink RX4 16 "CipherBox$Des3" "first" "LCipherBox$Des;") (by decide +kernel)) (fun _ h9 => h9) rfl dX4_schedule_1 ?_
  refine lv_aload_n hx hb dX4_schedule_4 rfl (lv_at hl 1 rfl) ?_
  refine lv_iconst (v := nI 0) hx hb dX4_schedule_5 (by decide) ?_
  refine w_finl (wr := [(h, .inr (3, [.ref bb, .int (nI 3), .ref d1, .ref d2])), (d1, .inr (2, [.ref dx, .ref k1])), (d2, .inr (2, [.ref dx, .ref k2])), (k1, .inl (G.2.1, 128, .inl f1)), (k2, .inl (G.2.1, 128, .inl f2))]) (va_runV (As := [.int (nI 0)]) (rest := [.ref d1]) ⟨hx, hb, hml, hown, hts⟩ (c_Row_longAt l G o ob on oz g 0 (by omega) (by omega) (by omega) H.size) (cwV 1 hts gX4_schedule_X5_longAt rfl rfl rfl (by decide +kernel) ⟨Nat.le_of_ble_eq_true rfl, Nat.le_of_ble_eq_true rfl⟩) ⟨wPre.blind, (va_recv hK hP (ci := 4) (q0 := 5) rfl rfl), (fun U hU hW => ⟨rfl, w_pre hK hT hA hP hD hS (isC := [5, 6]) (by decide) rfl U hU hW⟩)⟩ rfl rfl hl.1 rfl (lv_room (Nat.le_of_ble_eq_true rfl)) dX4_schedule_6 ⟨Nat.le_of_ble_eq_true rfl, Nat.le_of_ble_eq_true rfl⟩) hA hP hD hS [5, 6] [0, 1, 2, 3, 4] rfl rfl (by decide) (by decide) (fun r u H locs hpost hP hD hS => ?_)
  obtain rfl := hpost
  have hP : va_P G.1 vwCl [(h, .inr (3, [.ref bb, .int (nI 3), .ref d1, .ref d2])), (d1, .inr (2, [.ref dx, .ref k1])), (d2, .inr (2, [.ref dx, .ref k2])), (k1, .inl (G.2.1, 128, .inl f1)), (k2, .inl (G.2.1, 128, .inl f2)), (o, .inr (4, [.ref ob, .int (nI oz)])), (ob, .inl (G.2.1, on, .inl g))] H := hP
  have hD : va_D A [(h, .inr (3, [.ref bb, .int (nI 3), .ref d1, .ref d2])), (d1, .inr (2, [.ref dx, .ref k1])), (d2, .inr (2, [.ref dx, .ref k2])), (k1, .inl (G.2.1, 128, .inl f1)), (k2, .inl (G.2.1, 128, .inl f2)), (o, .inr (4, [.ref ob, .int (nI oz)])), (ob, .inl (G.2.1, on, .inl g))] := hD
  refine w_finv (wr := [(h, .inr (3, [.ref bb, .int (nI 3), .ref d1, .ref d2])), (d2, .inr (2, [.ref dx, .ref k2])), (k2, .inl (G.2.1, 128, .inl f2)), (o, .inr (4, [.ref ob, .int (nI oz)])), (ob, .inl (G.2.1, on, .inl g))]) (va_runV (As := [.long (lAt g oz 0)]) (rest := []) ⟨hx, hb, hml, hown, hts⟩ (c_Des_schedule l G d1 dx k1 f1 (lAt g oz 0) H.size) (cwV 1 hts gX4_schedule_X3_schedule rfl rfl rfl (by decide +kernel) ⟨Nat.le_of_ble_eq_true rfl, Nat.le_of_ble_eq_true rfl⟩) ⟨wPre.blind, (va_recv hK hP (ci := 2) (q0 := 1) rfl rfl), (fun U hU hW => ⟨rfl, w_pre hK hT hA hP hD hS (isC := [1, 3]) (by decide) rfl U hU hW⟩)⟩ rfl rfl hl.1 rfl (lv_room (Nat.le_of_ble_eq_true rfl)) dX4_schedule_9 ⟨Nat.le_of_ble_eq_true rfl, Nat.le_of_ble_eq_true rfl⟩) hA hP hD hS [1, 3] [0, 2, 4, 5, 6] rfl rfl (by decide) (by decide) (fun u H locs hpost hP hD hS => ?_)
  have hP : va_P G.1 vwCl [(h, .inr (3, [.ref bb, .int (nI 3), .ref d1, .ref d2])), (d2, .inr (2, [.ref dx, .ref k2])), (k2, .inl (G.2.1, 128, .inl f2)), (o, .inr (4, [.ref ob, .int (nI oz)])), (ob, .inl (G.2.1, on, .inl g)), (d1, .inr (2, [.ref dx, .ref k1])), (k1, .inl (G.2.1, 128, .inl (dkI (lAt g oz 0))))] H := hP
  have hD : va_D A [(h, .inr (3, [.ref bb, .int (nI 3), .ref d1, .ref d2])), (d2, .inr (2, [.ref dx, .ref k2])), (k2, .inl (G.2.1, 128, .inl f2)), (o, .inr (4, [.ref ob, .int (nI oz)])), (ob, .inl (G.2.1, on, .inl g)), (d1, .inr (2, [.ref dx, .ref k1])), (k1, .inl (G.2.1, 128, .inl (dkI (lAt g oz 0))))] := hD
  refine lv_aload_n hx hb dX4_schedule_12 rfl (lv_at hl 0 rfl) ?_
  refine va_get (D := G.1) (ci := 3) (v := .ref d2) (C := RX4) (T := TX4) (N := 4) hx hb hts hinX4 hown hK hP 0 rfl rfl 3 (by decide) (hts (.fieldLink RX4 22 "CipherBox$Des3" "last" "LCipherBox$Des;") (by decide +kernel)) (fun _ h9 => h9) rfl dX4_schedule_13 ?_
  refine lv_aload_n hx hb dX4_schedule_16 rfl (lv_at hl 1 rfl) ?_
  refine lv_bipush (v := nI 8) hx hb dX4_schedule_17 (by decide) ?_
  refine w_finl (wr := [(h, .inr (3, [.ref bb, .int (nI 3), .ref d1, .ref d2])), (d2, .inr (2, [.ref dx, .ref k2])), (k2, .inl (G.2.1, 128, .inl f2)), (d1, .inr (2, [.ref dx, .ref k1])), (k1, .inl (G.2.1, 128, .inl (dkI (lAt g oz 0))))]) (va_runV (As := [.int (nI 8)]) (rest := [.ref d2]) ⟨hx, hb, hml, hown, hts⟩ (c_Row_longAt l G o ob on oz g 8 (by omega) (by omega) (by omega) H.size) (cwV 1 hts gX4_schedule_X5_longAt rfl rfl rfl (by decide +kernel) ⟨Nat.le_of_ble_eq_true rfl, Nat.le_of_ble_eq_true rfl⟩) ⟨wPre.blind, (va_recv hK hP (ci := 4) (q0 := 3) rfl rfl), (fun U hU hW => ⟨rfl, w_pre hK hT hA hP hD hS (isC := [3, 4]) (by decide) rfl U hU hW⟩)⟩ rfl rfl hl.1 rfl (lv_room (Nat.le_of_ble_eq_true rfl)) dX4_schedule_19 ⟨Nat.le_of_ble_eq_true rfl, Nat.le_of_ble_eq_true rfl⟩) hA hP hD hS [3, 4] [0, 1, 2, 5, 6] rfl rfl (by decide) (by decide) (fun r u H locs hpost hP hD hS => ?_)
  obtain rfl := hpost
  have hP : va_P G.1 vwCl [(h, .inr (3, [.ref bb, .int (nI 3), .ref d1, .ref d2])), (d2, .inr (2, [.ref dx, .ref k2])), (k2, .inl (G.2.1, 128, .inl f2)), (d1, .inr (2, [.ref dx, .ref k1])), (k1, .inl (G.2.1, 128, .inl (dkI (lAt g oz 0)))), (o, .inr (4, [.ref ob, .int (nI oz)])), (ob, .inl (G.2.1, on, .inl g))] H := hP
  have hD : va_D A [(h, .inr (3, [.ref bb, .int (nI 3), .ref d1, .ref d2])), (d2, .inr (2, [.ref dx, .ref k2])), (k2, .inl (G.2.1, 128, .inl f2)), (d1, .inr (2, [.ref dx, .ref k1])), (k1, .inl (G.2.1, 128, .inl (dkI (lAt g oz 0)))), (o, .inr (4, [.ref ob, .int (nI oz)])), (ob, .inl (G.2.1, on, .inl g))] := hD
  refine w_finv (wr := [(h, .inr (3, [.ref bb, .int (nI 3), .ref d1, .ref d2])), (d1, .inr (2, [.ref dx, .ref k1])), (k1, .inl (G.2.1, 128, .inl (dkI (lAt g oz 0)))), (o, .inr (4, [.ref ob, .int (nI oz)])), (ob, .inl (G.2.1, on, .inl g))]) (va_runV (As := [.long (lAt g oz 8)]) (rest := []) ⟨hx, hb, hml, hown, hts⟩ (c_Des_schedule l G d2 dx k2 f2 (lAt g oz 8) H.size) (cwV 1 hts gX4_schedule_X3_schedule rfl rfl rfl (by decide +kernel) ⟨Nat.le_of_ble_eq_true rfl, Nat.le_of_ble_eq_true rfl⟩) ⟨wPre.blind, (va_recv hK hP (ci := 2) (q0 := 1) rfl rfl), (fun U hU hW => ⟨rfl, w_pre hK hT hA hP hD hS (isC := [1, 2]) (by decide) rfl U hU hW⟩)⟩ rfl rfl hl.1 rfl (lv_room (Nat.le_of_ble_eq_true rfl)) dX4_schedule_22 ⟨Nat.le_of_ble_eq_true rfl, Nat.le_of_ble_eq_true rfl⟩) hA hP hD hS [1, 2] [0, 3, 4, 5, 6] rfl rfl (by decide) (by decide) (fun u H locs hpost hP hD hS => ?_)
  have hP : va_P G.1 vwCl [(h, .inr (3, [.ref bb, .int (nI 3), .ref d1, .ref d2])), (d1, .inr (2, [.ref dx, .ref k1])), (k1, .inl (G.2.1, 128, .inl (dkI (lAt g oz 0)))), (o, .inr (4, [.ref ob, .int (nI oz)])), (ob, .inl (G.2.1, on, .inl g)), (d2, .inr (2, [.ref dx, .ref k2])), (k2, .inl (G.2.1, 128, .inl (dkI (lAt g oz 8))))] H := hP
  have hD : va_D A [(h, .inr (3, [.ref bb, .int (nI 3), .ref d1, .ref d2])), (d1, .inr (2, [.ref dx, .ref k1])), (k1, .inl (G.2.1, 128, .inl (dkI (lAt g oz 0)))), (o, .inr (4, [.ref ob, .int (nI oz)])), (ob, .inl (G.2.1, on, .inl g)), (d2, .inr (2, [.ref dx, .ref k2])), (k2, .inl (G.2.1, 128, .inl (dkI (lAt g oz 8))))] := hD
  exact hret () H _ 25 ls dX4_schedule_25 (trivial) (hP.sub [0, 1, 5, 2, 6, 3, 4] rfl) (hD.sub [0, 1, 5, 2, 6, 3, 4] (by decide) rfl) hS
