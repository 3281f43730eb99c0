/-! the class's AES, over ints as they stand -/
def un (x : Int32) : Nat := x.toBitVec.toNat
theorem tb_0 : tbL 0 = 256 := by decide +kernel
theorem tb0_lt0 : ∀ j, j < 256 → tbV 0 j < 256 := by decide +kernel
theorem un_255 (x : Int32) : x &&& nI 255 = nI (un x % 2 ^ 8) := pk_and x 8 (by decide)
theorem sub_15 {k q : Nat} (hk : k < 16) (hq : q ≤ 16) : (nI k - nI q) &&& nI 15 = nI ((k + 16 - q) % 2 ^ 4) := by
  have hn : (nI k - nI q).toBitVec.toNat = (2 ^ 32 - q + k) % 2 ^ 32 := by
    show (BitVec.ofNat 32 k - BitVec.ofNat 32 q).toNat = _
    rw [BitVec.toNat_sub, BitVec.toNat_ofNat, BitVec.toNat_ofNat, Nat.mod_eq_of_lt (show q < 2 ^ 32 by omega), Nat.mod_eq_of_lt (show k < 2 ^ 32 by omega)]
  rw [pk_and (nI k - nI q) 4 (by decide), hn]
  congr 1
  omega
def dblI (x : Int32) : Int32 := if (x <<< (nI 1 &&& 31)) &&& nI 256 = 0 then x <<< (nI 1 &&& 31) else (x <<< (nI 1 &&& 31)) ^^^ nI 283
def rkB (w : Int32) : Nat → Int32 := q4 (ush w (nI 24)) (ush w (nI 16) &&& nI 255) (ush w (nI 8) &&& nI 255) (w &&& nI 255)
def ark (fk : Nat → Int32) (q : Nat) (f : Nat → Int32) : Nat → Int32 := fun j => f j ^^^ rkB (fk (4 * q + j / 4)) (j % 4)
theorem ark_i {fk f : Nat → Int32} {q k i : Nat} (hi : i < 4) : ark fk q f (4 * k + i) = f (4 * k + i) ^^^ rkB (fk (4 * q + k)) i := by
  simp only [ark]
  rw [show (4 * k + i) / 4 = k by omega, show (4 * k + i) % 4 = i by omega]
def sbI (x : Int32) : Int32 := nI (tbV 0 (un x % 2 ^ 8))
def ssI (f : Nat → Int32) : Nat → Int32 := fun j => sbI (f ((j + 4 * (j % 2 ^ 2)) % 2 ^ 4))
def srI (fo f : Nat → Int32) : Nat → Int32 := fun j => fo (un (f ((j + 16 - 4 * (j % 2 ^ 2)) % 2 ^ 4)) % 2 ^ 8)
def mxI (f : Nat → Int32) : Nat → Int32 := fun j => f j ^^^ ((((f (4 * (j / 4)) ^^^ f (4 * (j / 4) + 1)) ^^^ f (4 * (j / 4) + 2)) ^^^ f (4 * (j / 4) + 3)) ^^^ dblI (f j ^^^ f (4 * (j / 4) + (j % 4 + 1) % 4)))
theorem mx_i {f : Nat → Int32} {k : Nat} (i : Nat) (hi : i < 4) : mxI f (4 * k + i) = f (4 * k + i) ^^^ ((((f (4 * k) ^^^ f (4 * k + 1)) ^^^ f (4 * k + 2)) ^^^ f (4 * k + 3)) ^^^ dblI (f (4 * k + i) ^^^ f (4 * k + (i + 1) % 4))) := by
  simp only [mxI]
  rw [show (4 * k + i) / 4 = k by omega, show (4 * k + i) % 4 = i by omega]
def uxI (f : Nat → Int32) : Nat → Int32 := fun j => f j ^^^ dblI (dblI (f (4 * (j / 4) + j % 2) ^^^ f (4 * (j / 4) + j % 2 + 2)))
theorem ux_i {f : Nat → Int32} {k : Nat} (i : Nat) (hi : i < 4) : uxI f (4 * k + i) = f (4 * k + i) ^^^ dblI (dblI (f (4 * k + i % 2) ^^^ f (4 * k + i % 2 + 2))) := by
  simp only [uxI]
  rw [show (4 * k + i) / 4 = k by omega, show (4 * k + i) % 2 = i % 2 by omega]
def agI (fk f : Nat → Int32) : Nat → Nat → Int32
  | 0 => ark fk 0 f
  | n + 1 => ark fk (n + 1) (mxI (ssI (agI fk f n)))
/-- a block there -/
def aeT (fk : Nat → Int32) (rd : Nat) (f : Nat → Int32) : Nat → Int32 := ark fk rd (ssI (agI fk f (rd - 1)))
def abI (fk fo : Nat → Int32) (rd : Nat) (f : Nat → Int32) : Nat → Nat → Int32
  | 0 => ark fk rd f
  | n + 1 => mxI (uxI (ark fk (rd - 1 - n) (srI fo (abI fk fo rd f n))))
/-- a block back -/
def aeB (fk fo : Nat → Int32) (rd : Nat) (f : Nat → Int32) : Nat → Int32 := ark fk 0 (srI fo (abI fk fo rd f (rd - 1)))
set_option maxHeartbeats 4000000 in
set_option maxRecDepth 100000 in
theorem c_Aes_doubled (l : Launch) (G : wG) (x : Int32)  : CMi l G yX0_doubled wsX0_doubled 0 0 [.int x] [] (fun r (_ : Unit) => r = dblI x) (fun _ => []) := by
  refine CMi.start cX0_doubled 2 .int (by decide) rfl (Nat.le_of_ble_eq_true rfl) (fun r u h => vp_nar_int r) ?_
  intro p e s m below meth c A Q ls H locs hx hb hml hown hts hK hT hA hP hD hS hl hret
  have hl : lv_has ls 2 [(0, .int x)] := hl
  refine lv_iload_n hx hb dX0_doubled_0 rfl (lv_at hl 0 rfl) ?_
  refine lv_iconst (v := nI 1) hx hb dX0_doubled_1 (by decide) ?_
  refine lv_ishl hx hb dX0_doubled_2 ?_
  refine lv_istore_n (lv' := [(1, .int (x <<< ((nI 1) &&& 31))), (0, .int x)]) hx hb dX0_doubled_3 rfl hl (by decide) rfl (fun ls hl => ?_)
  refine lv_iload_n hx hb dX0_doubled_4 rfl (lv_at hl 0 rfl) ?_
  refine lv_sipush (v := nI 256) hx hb dX0_doubled_5 (by decide) ?_
  refine lv_iand hx hb dX0_doubled_8 ?_
  refine lv_if_ne (tgt := 16) hx hb dX0_doubled_9 (by decide) (fun h1 => ?_) (fun h1 => ?_)
  · refine lv_iload_n hx hb dX0_doubled_16 rfl (lv_at hl 0 rfl) ?_
    refine lv_sipush (v := nI 283) hx hb dX0_doubled_17 (by decide) ?_
    refine lv_ixor hx hb dX0_doubled_20 ?_
    exact hret ((x <<< ((nI 1) &&& 31)) ^^^ (nI 283)) () H _ 21 ls dX0_doubled_21 (by unfold dblI; first | rw [if_pos (by assumption)] | rw [if_neg (by assumption)]) (hP.sub [] rfl) (hD.sub [] (by decide) rfl) hS
  · refine lv_iload_n hx hb dX0_doubled_12 rfl (lv_at hl 0 rfl) ?_
    refine lv_goto (tgt := 21) hx hb dX0_doubled_13 (by decide) ?_
    exact hret (x <<< ((nI 1) &&& 31)) () H _ 21 ls dX0_doubled_21 (by unfold dblI; first | rw [if_pos (by assumption)] | rw [if_neg (by assumption)]) (hP.sub [] rfl) (hD.sub [] (by decide) rfl) hS

set_option maxHeartbeats 4000000 in
set_option maxRecDepth 100000 in
theorem c_Aes_addRoundKey (l : Launch) (G : wG) (h ab ao ak am rd : Nat) (fb fk : Nat → Int32) (q : Nat) (hq : q ≤ 14) : CMv l G yX0_addRoundKey wsX0_addRoundKey 0 0 0 0 [.ref h, .int (nI q)] [(h, .inr (0, [.ref ab, .int (nI 4), .ref ao, .ref ak, .ref am, .int (nI rd)])), (ab, .inl (G.2.1, 16, .inl fb)), (ak, .inl (G.2.1, 60, .inl fk))] (fun (_ : Unit) => True) (fun _ => [(h, .inr (0, [.ref ab, .int (nI 4), .ref ao, .ref ak, .ref am, .int (nI rd)])), (ab, .inl (G.2.1, 16, .inl (ark fk q fb))), (ak, .inl (G.2.1, 60, .inl fk))]) := by
  refine CMv.start cX0_addRoundKey 5 (by decide) rfl (Nat.le_of_ble_eq_true rfl) ?_
  intro p e s m below meth c A Q ls H locs hx hb hml hown hnm hts hK hT hA hP hD hS hl hret
  have hinX0 : ∀ w ∈ u_ws RX0 TX0 6, w ∈ wsX0_addRoundKey := by decide +kernel
  have hl : lv_has ls 5 [(0, .ref h), (1, .int (nI q))] := hl
  refine lv_iconst (v := nI 0) hx hb dX0_addRoundKey_0 (by decide) ?_
  refine lv_istore_n (lv' := [(2, .int (nI 0)), (0, .ref h), (1, .int (nI q))]) hx hb dX0_addRoundKey_1 rfl hl (by decide) rfl (fun ls hl => ?_)
  refine w_loop (ι := Nat) (fun k => 4 - k) (fun k => k ≤ 4) (fun k => [(h, .inr (0, [.ref ab, .int (nI 4), .ref ao, .ref ak, .ref am, .int (nI rd)])), (ab, .inl (G.2.1, 16, .inl (fl (4 * k) (ark fk q fb) fb))), (ak, .inl (G.2.1, 60, .inl fk))]) (fun k => [(2, .int (nI k)), (0, .ref h), (1, .int (nI q))]) 0 (by omega) (by simp only [Nat.mul_zero, fl_0]; exact hP) (by simp only [Nat.mul_zero, fl_0]; exact hD) hS hl ?_
  intro k H locs ls hk hP hD hS hl ih
  have hk : k ≤ 4 := hk
  have hP : va_P G.1 vwCl [(h, .inr (0, [.ref ab, .int (nI 4), .ref ao, .ref ak, .ref am, .int (nI rd)])), (ab, .inl (G.2.1, 16, .inl (fl (4 * k) (ark fk q fb) fb))), (ak, .inl (G.2.1, 60, .inl fk))] H := hP
  have hD : va_D A [(h, .inr (0, [.ref ab, .int (nI 4), .ref ao, .ref ak, .ref am, .int (nI rd)])), (ab, .inl (G.2.1, 16, .inl (fl (4 * k) (ark fk q fb) fb))), (ak, .inl (G.2.1, 60, .inl fk))] := hD
  have hl : lv_has ls 5 [(2, .int (nI k)), (0, .ref h), (1, .int (nI q))] := hl
  refine lv_iload_n hx hb dX0_addRoundKey_2 rfl (lv_at hl 0 rfl) ?_
  refine lv_iconst (v := nI 4) hx hb dX0_addRoundKey_3 (by decide) ?_
  refine w_icmpN_ge (tgt := 100) hx hb (by omega) (by omega) dX0_addRoundKey_4 (by decide) (fun h1 => ?_) (fun h1 => ?_)
  · obtain rfl : 4 = k := Eq.symm (show k = 4 from by omega)
    have hP := w_ext (fl (4 * 4) (ark fk q fb) fb) (ark fk q fb) 1 hP rfl (fun j hj => fl_in (by omega))
    have hD := hD.set (p := 1) (e := .inl (G.2.1, 16, .inl (ark fk q fb))) rfl
    have hP : va_P G.1 vwCl [(h, .inr (0, [.ref ab, .int (nI 4), .ref ao, .ref ak, .ref am, .int (nI rd)])), (ab, .inl (G.2.1, 16, .inl (ark fk q fb))), (ak, .inl (G.2.1, 60, .inl fk))] H := hP
    have hD : va_D A [(h, .inr (0, [.ref ab, .int (nI 4), .ref ao, .ref ak, .ref am, .int (nI rd)])), (ab, .inl (G.2.1, 16, .inl (ark fk q fb))), (ak, .inl (G.2.1, 60, .inl fk))] := hD
    exact hret () H _ 100 ls dX0_addRoundKey_100 (trivial) (hP.sub [0, 1, 2] rfl) (hD.sub [0, 1, 2] (by decide) rfl) hS
  · refine lv_aload_n hx hb dX0_addRoundKey_7 rfl (lv_at hl 1 rfl) ?_
    refine va_get (D := G.1) (ci := 0) (v := .ref ak) (C := RX0) (T := TX0) (N := 6) hx hb hts hinX0 hown hK hP 0 rfl rfl 3 (by decide) (hts (.fieldLink RX0 13 "CipherBox$Aes" "roundKeys" "[I") (by decide +kernel)) (fun _ h9 => h9) rfl dX0_addRoundKey_8 ?_
    refine lv_iconst (v := nI 4) hx hb dX0_addRoundKey_11 (by decide) ?_
    refine lv_iload_n hx hb dX0_addRoundKey_12 rfl (lv_at hl 2 rfl) ?_
    refine w_imulN hx hb dX0_addRoundKey_13 ?_
    refine lv_iload_n hx hb dX0_addRoundKey_14 rfl (lv_at hl 0 rfl) ?_
    refine w_iaddN hx hb dX0_addRoundKey_15 ?_
    refine w_iald hx hb hK hP 2 rfl (by omega) (by omega) dX0_addRoundKey_16 ?_
    refine lv_istore_n (lv' := [(3, .int (fk ((4 * q) + k))), (2, .int (nI k)), (0, .ref h), (1, .int (nI q))]) hx hb dX0_addRoundKey_17 rfl hl (by decide) rfl (fun ls hl => ?_)
    refine lv_iconst (v := nI 4) hx hb dX0_addRoundKey_18 (by decide) ?_
    refine lv_iload_n hx hb dX0_addRoundKey_19 rfl (lv_at hl 1 rfl) ?_
    refine w_imulN hx hb dX0_addRoundKey_20 ?_
    refine lv_istore (lv' := [(4, .int (nI (4 * k))), (3, .int (fk ((4 * q) + k))), (2, .int (nI k)), (0, .ref h), (1, .int (nI q))]) hx hb dX0_addRoundKey_21 hl (by decide) rfl (fun ls hl => ?_)
    refine lv_aload_n hx hb dX0_addRoundKey_23 rfl (lv_at hl 3 rfl) ?_
    refine va_get (D := G.1) (ci := 0) (v := .ref ab) (C := RX0) (T := TX0) (N := 6) hx hb hts hinX0 hown hK hP 0 rfl rfl 0 (by decide) (hts (.fieldLink RX0 64 "CipherBox$Aes" "block" "[I") (by decide +kernel)) (fun x9 h9 => u_same (hts (.sameField "CipherBox$Aes" "CipherBox$BlockCipher" "block" "[I") (by decide +kernel)) x9 h9) rfl dX0_addRoundKey_24 ?_
    refine lv_iload hx hb dX0_addRoundKey_27 (lv_at hl 0 rfl) ?_
    refine lv_dup2_11 hx hb dX0_addRoundKey_29 rfl rfl ?_
    refine w_iald hx hb hK hP 1 rfl (by omega) (by omega) dX0_addRoundKey_30 ?_
    refine lv_iload_n hx hb dX0_addRoundKey_31 rfl (lv_at hl 1 rfl) ?_
    refine lv_bipush (v := nI 24) hx hb dX0_addRoundKey_32 (by decide) ?_
    refine lv_iushr (v := ush (fk ((4 * q) + k)) (nI 24)) hx hb dX0_addRoundKey_34 rfl ?_
    refine lv_ixor hx hb dX0_addRoundKey_35 ?_
    refine w_iast hx hb hK hP hD hS 1 rfl (by omega) (by omega) (fl (4 * k + 1) (ark fk q fb) fb) (fl_s (k := 4 * k) (by rw [fl_out (by omega), show ark fk q fb (4 * k) = _ from ark_i (i := 0) (by decide)]; rfl)) dX0_addRoundKey_36 (fun H locs hP hD hS => ?_)
    have hP : va_P G.1 vwCl [(h, .inr (0, [.ref ab, .int (nI 4), .ref ao, .ref ak, .ref am, .int (nI rd)])), (ab, .inl (G.2.1, 16, .inl (fl (4 * k + 1) (ark fk q fb) fb))), (ak, .inl (G.2.1, 60, .inl fk))] H := hP
    have hD : va_D A [(h, .inr (0, [.ref ab, .int (nI 4), .ref ao, .ref ak, .ref am, .int (nI rd)])), (ab, .inl (G.2.1, 16, .inl (fl (4 * k + 1) (ark fk q fb) fb))), (ak, .inl (G.2.1, 60, .inl fk))] := hD
    refine lv_aload_n hx hb dX0_addRoundKey_37 rfl (lv_at hl 3 rfl) ?_
    refine va_get (D := G.1) (ci := 0) (v := .ref ab) (C := RX0) (T := TX0) (N := 6) hx hb hts hinX0 hown hK hP 0 rfl rfl 0 (by decide) (hts (.fieldLink RX0 64 "CipherBox$Aes" "block" "[I") (by decide +kernel)) (fun x9 h9 => u_same (hts (.sameField "CipherBox$Aes" "CipherBox$BlockCipher" "block" "[I") (by decide +kernel)) x9 h9) rfl dX0_addRoundKey_38 ?_
    refine lv_iload hx hb dX0_addRoundKey_41 (lv_at hl 0 rfl) ?_
    refine lv_iconst (v := nI 1) hx hb dX0_addRoundKey_43 (by decide) ?_
    refine w_iaddN hx hb dX0_addRoundKey_44 ?_
    refine lv_dup2_11 hx hb dX0_addRoundKey_45 rfl rfl ?_
    refine w_iald hx hb hK hP 1 rfl (by omega) (by omega) dX0_addRoundKey_46 ?_
    refine lv_iload_n hx hb dX0_addRoundKey_47 rfl (lv_at hl 1 rfl) ?_
    refine lv_bipush (v := nI 16) hx hb dX0_addRoundKey_48 (by decide) ?_
    refine lv_iushr (v := ush (fk ((4 * q) + k)) (nI 16)) hx hb dX0_addRoundKey_50 rfl ?_
    refine lv_sipush (v := nI 255) hx hb dX0_addRoundKey_51 (by decide) ?_
    refine lv_iand hx hb dX0_addRoundKey_54 ?_
    refine lv_ixor hx hb dX0_addRoundKey_55 ?_
    refine w_iast hx hb hK hP hD hS 1 rfl (by omega) (by omega) (fl (4 * k + 2) (ark fk q fb) fb) (fl_s (k := 4 * k + 1) (by rw [fl_out (by omega), ark_i (i := 1) (by decide)]; rfl)) dX0_addRoundKey_56 (fun H locs hP hD hS => ?_)
    have hP : va_P G.1 vwCl [(h, .inr (0, [.ref ab, .int (nI 4), .ref ao, .ref ak, .ref am, .int (nI rd)])), (ab, .inl (G.2.1, 16, .inl (fl (4 * k + 2) (ark fk q fb) fb))), (ak, .inl (G.2.1, 60, .inl fk))] H := hP
    have hD : va_D A [(h, .inr (0, [.ref ab, .int (nI 4), .ref ao, .ref ak, .ref am, .int (nI rd)])), (ab, .inl (G.2.1, 16, .inl (fl (4 * k + 2) (ark fk q fb) fb))), (ak, .inl (G.2.1, 60, .inl fk))] := hD
    refine lv_aload_n hx hb dX0_addRoundKey_57 rfl (lv_at hl 3 rfl) ?_
    refine va_get (D := G.1) (ci := 0) (v := .ref ab) (C := RX0) (T := TX0) (N := 6) hx hb hts hinX0 hown hK hP 0 rfl rfl 0 (by decide) (hts (.fieldLink RX0 64 "CipherBox$Aes" "block" "[I") (by decide +kernel)) (fun x9 h9 => u_same (hts (.sameField "CipherBox$Aes" "CipherBox$BlockCipher" "block" "[I") (by decide +kernel)) x9 h9) rfl dX0_addRoundKey_58 ?_
    refine lv_iload hx hb dX0_addRoundKey_61 (lv_at hl 0 rfl) ?_
    refine lv_iconst (v := nI 2) hx hb dX0_addRoundKey_63 (by decide) ?_
    refine w_iaddN hx hb dX0_addRoundKey_64 ?_
    refine lv_dup2_11 hx hb dX0_addRoundKey_65 rfl rfl ?_
    refine w_iald hx hb hK hP 1 rfl (by omega) (by omega) dX0_addRoundKey_66 ?_
    refine lv_iload_n hx hb dX0_addRoundKey_67 rfl (lv_at hl 1 rfl) ?_
    refine lv_bipush (v := nI 8) hx hb dX0_addRoundKey_68 (by decide) ?_
    refine lv_iushr (v := ush (fk ((4 * q) + k)) (nI 8)) hx hb dX0_addRoundKey_70 rfl ?_
    refine lv_sipush (v := nI 255) hx hb dX0_addRoundKey_71 (by decide) ?_
    refine lv_iand hx hb dX0_addRoundKey_74 ?_
    refine lv_ixor hx hb dX0_addRoundKey_75 ?_
    refine w_iast hx hb hK hP hD hS 1 rfl (by omega) (by omega) (fl (4 * k + 3) (ark fk q fb) fb) (fl_s (k := 4 * k + 2) (by rw [fl_out (by omega), ark_i (i := 2) (by decide)]; rfl)) dX0_addRoundKey_76 (fun H locs hP hD hS => ?_)
    have hP : va_P G.1 vwCl [(h, .inr (0, [.ref ab, .int (nI 4), .ref ao, .ref ak, .ref am, .int (nI rd)])), (ab, .inl (G.2.1, 16, .inl (fl (4 * k + 3) (ark fk q fb) fb))), (ak, .inl (G.2.1, 60, .inl fk))] H := hP
    have hD : va_D A [(h, .inr (0, [.ref ab, .int (nI 4), .ref ao, .ref ak, .ref am, .int (nI rd)])), (ab, .inl (G.2.1, 16, .inl (fl (4 * k + 3) (ark fk q fb) fb))), (ak, .inl (G.2.1, 60, .inl fk))] := hD
    refine lv_aload_n hx hb dX0_addRoundKey_77 rfl (lv_at hl 3 rfl) ?_
    refine va_get (D := G.1) (ci := 0) (v := .ref ab) (C := RX0) (T := TX0) (N := 6) hx hb hts hinX0 hown hK hP 0 rfl rfl 0 (by decide) (hts (.fieldLink RX0 64 "CipherBox$Aes" "block" "[I") (by decide +kernel)) (fun x9 h9 => u_same (hts (.sameField "CipherBox$Aes" "CipherBox$BlockCipher" "block" "[I") (by decide +kernel)) x9 h9) rfl dX0_addRoundKey_78 ?_
    refine lv_iload hx hb dX0_addRoundKey_81 (lv_at hl 0 rfl) ?_
    refine lv_iconst (v := nI 3) hx hb dX0_addRoundKey_83 (by decide) ?_
    refine w_iaddN hx hb dX0_addRoundKey_84 ?_
    refine lv_dup2_11 hx hb dX0_addRoundKey_85 rfl rfl ?_
    refine w_iald hx hb hK hP 1 rfl (by omega) (by omega) dX0_addRoundKey_86 ?_
    refine lv_iload_n hx hb dX0_addRoundKey_87 rfl (lv_at hl 1 rfl) ?_
    refine lv_sipush (v := nI 255) hx hb dX0_addRoundKey_88 (by decide) ?_
    refine lv_iand hx hb dX0_addRoundKey_91 ?_
    refine lv_ixor hx hb dX0_addRoundKey_92 ?_
    refine w_iast hx hb hK hP hD hS 1 rfl (by omega) (by omega) (fl (4 * k + 4) (ark fk q fb) fb) (fl_s (k := 4 * k + 3) (by rw [fl_out (by omega), ark_i (i := 3) (by decide)]; rfl)) dX0_addRoundKey_93 (fun H locs hP hD hS => ?_)
    have hP : va_P G.1 vwCl [(h, .inr (0, [.ref ab, .int (nI 4), .ref ao, .ref ak, .ref am, .int (nI rd)])), (ab, .inl (G.2.1, 16, .inl (fl (4 * k + 4) (ark fk q fb) fb))), (ak, .inl (G.2.1, 60, .inl fk))] H := hP
    have hD : va_D A [(h, .inr (0, [.ref ab, .int (nI 4), .ref ao, .ref ak, .ref am, .int (nI rd)])), (ab, .inl (G.2.1, 16, .inl (fl (4 * k + 4) (ark fk q fb) fb))), (ak, .inl (G.2.1, 60, .inl fk))] := hD
    refine lv_iinc (v := nI (k + 1)) (lv' := [(2, .int (nI (k + 1))), (4, .int (nI (4 * k))), (3, .int (fk ((4 * q) + k))), (0, .ref h), (1, .int (nI q))]) hx hb dX0_addRoundKey_94 hl (k := 2) rfl (nI_add k 1) (by decide) rfl (fun ls hl => ?_)
    refine lv_goto (tgt := 2) hx hb dX0_addRoundKey_97 (by decide) ?_
    exact ih (k + 1) H _ _ (by omega) (by omega) hP hD hS (lv_sub hl [0, 3, 4] rfl)

set_option maxHeartbeats 4000000 in
set_option maxRecDepth 100000 in
theorem c_Aes_subShift (l : Launch) (G : wG) (h ab ao ak am rd : Nat) (fb fv : Nat → Int32)  : CMv l G yX0_substituteAndShift wsX0_substituteAndShift 1 19 0 0 [.ref h] [(h, .inr (0, [.ref ab, .int (nI 4), .ref ao, .ref ak, .ref am, .int (nI rd)])), (ab, .inl (G.2.1, 16, .inl fb)), (am, .inl (G.2.1, 16, .inl fv))] (fun (_ : Unit) => True) (fun _ => [(h, .inr (0, [.ref ab, .int (nI 4), .ref ao, .ref ak, .ref am, .int (nI rd)])), (ab, .inl (G.2.1, 16, .inl (ssI fb))), (am, .inl (G.2.1, 16, .inl (ssI fb)))]) := by
  refine CMv.start cX0_substituteAndShift 2 (by decide) rfl (Nat.le_of_ble_eq_true rfl) ?_
  intro p e s m below meth c A Q ls H locs hx hb hml hown hnm hts hK hT hA hP hD hS hl hret
  have hinX0 : ∀ w ∈ u_ws RX0 TX0 6, w ∈ wsX0_substituteAndShift := by decide +kernel
  have hl : lv_has ls 2 [(0, .ref h)] := hl
  refine lv_iconst (v := nI 0) hx hb dX0_substituteAndShift_0 (by decide) ?_
  refine lv_istore_n (lv' := [(1, .int (nI 0)), (0, .ref h)]) hx hb dX0_substituteAndShift_1 rfl hl (by decide) rfl (fun ls hl => ?_)
  refine w_loop (ι := Nat) (fun k => 16 - k) (fun k => k ≤ 16) (fun k => [(h, .inr (0, [.ref ab, .int (nI 4), .ref ao, .ref ak, .ref am, .int (nI rd)])), (ab, .inl (G.2.1, 16, .inl fb)), (am, .inl (G.2.1, 16, .inl (fl k (ssI fb) fv)))]) (fun k => [(1, .int (nI k)), (0, .ref h)]) 0 (by omega) (by simp only [fl_0]; exact hP) (by simp only [fl_0]; exact hD) hS hl ?_
  intro k H locs ls hk hP hD hS hl ih
  have hk : k ≤ 16 := hk
  have hP : va_P G.1 vwCl [(h, .inr (0, [.ref ab, .int (nI 4), .ref ao, .ref ak, .ref am, .int (nI rd)])), (ab, .inl (G.2.1, 16, .inl fb)), (am, .inl (G.2.1, 16, .inl (fl k (ssI fb) fv)))] H := hP
  have hD : va_D A [(h, .inr (0, [.ref ab, .int (nI 4), .ref ao, .ref ak, .ref am, .int (nI rd)])), (ab, .inl (G.2.1, 16, .inl fb)), (am, .inl (G.2.1, 16, .inl (fl k (ssI fb) fv)))] := hD
  have hl : lv_has ls 2 [(1, .int (nI k)), (0, .ref h)] := hl
  refine lv_iload_n hx hb dX0_substituteAndShift_2 rfl (lv_at hl 0 rfl) ?_
  refine lv_bipush (v := nI 16) hx hb dX0_substituteAndShift_3 (by decide) ?_
  refine w_icmpN_ge (tgt := 43) hx hb (by omega) (by omega) dX0_substituteAndShift_5 (by decide) (fun h1 => ?_) (fun h1 => ?_)
  · obtain rfl : 16 = k := Eq.symm (show k = 16 from by omega)
    refine lv_aload_n hx hb dX0_substituteAndShift_43 rfl (lv_at hl 1 rfl) ?_
    refine va_get (D := G.1) (ci := 0) (v := .ref am) (C := RX0) (T := TX0) (N := 6) hx hb hts hinX0 hown hK hP 0 rfl rfl 4 (by decide) (hts (.fieldLink RX0 16 "CipherBox$Aes" "moved" "[I") (by decide +kernel)) (fun _ h9 => h9) rfl dX0_substituteAndShift_44 ?_
    refine lv_iconst (v := nI 0) hx hb dX0_substituteAndShift_47 (by decide) ?_
    refine lv_aload_n hx hb dX0_substituteAndShift_48 rfl (lv_at hl 1 rfl) ?_
    refine va_get (D := G.1) (ci := 0) (v := .ref ab) (C := RX0) (T := TX0) (N := 6) hx hb hts hinX0 hown hK hP 0 rfl rfl 0 (by decide) (hts (.fieldLink RX0 64 "CipherBox$Aes" "block" "[I") (by decide +kernel)) (fun x9 h9 => u_same (hts (.sameField "CipherBox$Aes" "CipherBox$BlockCipher" "block" "[I") (by decide +kernel)) x9 h9) rfl dX0_substituteAndShift_49 ?_
    refine lv_iconst (v := nI 0) hx hb dX0_substituteAndShift_52 (by decide) ?_
    refine lv_bipush (v := nI 16) hx hb dX0_substituteAndShift_53 (by decide) ?_
    refine w_copyI hx hb (by rw [hml]; exact hl.1.symm) hown (hts (.methodLink RX0 67 arraycopyName) (by decide +kernel)) (hts (.native arraycopyName) (by decide +kernel)) (hts (.static arraycopyName) (by decide +kernel)) (hts (.initialized "java/lang/System") (by decide +kernel)) hK hP hD hS 2 1 rfl rfl (by omega) (by omega) (by omega) (Nat.le_of_ble_eq_true rfl) (Nat.le_of_ble_eq_true rfl) dX0_substituteAndShift_55 (fun H locs hP hD hS => ?_)
    have hP : va_P G.1 vwCl [(h, .inr (0, [.ref ab, .int (nI 4), .ref ao, .ref ak, .ref am, .int (nI rd)])), (ab, .inl (G.2.1, 16, .inl (fl 16 (fl 16 (ssI fb) fv) fb))), (am, .inl (G.2.1, 16, .inl (fl 16 (ssI fb) fv)))] H := hP
    have hD : va_D A [(h, .inr (0, [.ref ab, .int (nI 4), .ref ao, .ref ak, .ref am, .int (nI rd)])), (ab, .inl (G.2.1, 16, .inl (fl 16 (fl 16 (ssI fb) fv) fb))), (am, .inl (G.2.1, 16, .inl (fl 16 (ssI fb) fv)))] := hD
    have hP := w_ext (fl 16 (ssI fb) fv) (ssI fb) 2 hP rfl (fun j hj => fl_in hj)
    have hD := hD.set (p := 2) (e := .inl (G.2.1, 16, .inl (ssI fb))) rfl
    have hP : va_P G.1 vwCl [(h, .inr (0, [.ref ab, .int (nI 4), .ref ao, .ref ak, .ref am, .int (nI rd)])), (ab, .inl (G.2.1, 16, .inl (fl 16 (fl 16 (ssI fb) fv) fb))), (am, .inl (G.2.1, 16, .inl (ssI fb)))] H := hP
    have hD : va_D A [(h, .inr (0, [.ref ab, .int (nI 4), .ref ao, .ref ak, .ref am, .int (nI rd)])), (ab, .inl (G.2.1, 16, .inl (fl 16 (fl 16 (ssI fb) fv) fb))), (am, .inl (G.2.1, 16, .inl (ssI fb)))] := hD
    have hP := w_ext (fl 16 (fl 16 (ssI fb) fv) fb) (ssI fb) 1 hP rfl (fun j hj => by rw [fl_in hj, fl_in hj])
    have hD := hD.set (p := 1) (e := .inl (G.2.1, 16, .inl (ssI fb))) rfl
    have hP : va_P G.1 vwCl [(h, .inr (0, [.ref ab, .int (nI 4), .ref ao, .ref ak, .ref am, .int (nI rd)])), (ab, .inl (G.2.1, 16, .inl (ssI fb))), (am, .inl (G.2.1, 16, .inl (ssI fb)))] H := hP
    have hD : va_D A [(h, .inr (0, [.ref ab, .int (nI 4), .ref ao, .ref ak, .ref am, .int (nI rd)])), (ab, .inl (G.2.1, 16, .inl (ssI fb))), (am, .inl (G.2.1, 16, .inl (ssI fb)))] := hD
    exact hret () H _ 58 ls dX0_substituteAndShift_58 (trivial) (hP.sub [0, 1, 2] rfl) (hD.sub [0, 1, 2] (by decide) rfl) hS
  · refine lv_aload_n hx hb dX0_substituteAndShift_8 rfl (lv_at hl 1 rfl) ?_
    refine va_get (D := G.1) (ci := 0) (v := .ref am) (C := RX0) (T := TX0) (N := 6) hx hb hts hinX0 hown hK hP 0 rfl rfl 4 (by decide) (hts (.fieldLink RX0 16 "CipherBox$Aes" "moved" "[I") (by decide +kernel)) (fun _ h9 => h9) rfl dX0_substituteAndShift_9 ?_
    refine lv_iload_n hx hb dX0_substituteAndShift_12 rfl (lv_at hl 0 rfl) ?_
    refine w_gets hx hb hT hS 0 (by decide) hown (hts (.fieldLink RX0 19 "CipherBox$Aes" "SUBSTITUTES" "[I") (by decide +kernel)) dX0_substituteAndShift_13 ?_
    refine lv_aload_n hx hb dX0_substituteAndShift_16 rfl (lv_at hl 1 rfl) ?_
    refine va_get (D := G.1) (ci := 0) (v := .ref ab) (C := RX0) (T := TX0) (N := 6) hx hb hts hinX0 hown hK hP 0 rfl rfl 0 (by decide) (hts (.fieldLink RX0 64 "CipherBox$Aes" "block" "[I") (by decide +kernel)) (fun x9 h9 => u_same (hts (.sameField "CipherBox$Aes" "CipherBox$BlockCipher" "block" "[I") (by decide +kernel)) x9 h9) rfl dX0_substituteAndShift_17 ?_
    refine lv_iload_n hx hb dX0_substituteAndShift_20 rfl (lv_at hl 0 rfl) ?_
    refine lv_iconst (v := nI 4) hx hb dX0_substituteAndShift_21 (by decide) ?_
    refine lv_iload_n hx hb dX0_substituteAndShift_22 rfl (lv_at hl 0 rfl) ?_
    refine lv_iconst (v := nI 3) hx hb dX0_substituteAndShift_23 (by decide) ?_
    refine w_iandN 2 hx hb (by omega) (by decide) rfl dX0_substituteAndShift_24 ?_
    refine w_imulN hx hb dX0_substituteAndShift_25 ?_
    refine w_iaddN hx hb dX0_substituteAndShift_26 ?_
    refine lv_bipush (v := nI 15) hx hb dX0_substituteAndShift_27 (by decide) ?_
    refine w_iandN 4 hx hb (by omega) (by decide) rfl dX0_substituteAndShift_29 ?_
    refine w_iald hx hb hK hP 1 rfl (by omega) (by omega) dX0_substituteAndShift_30 ?_
    refine lv_sipush (v := nI 255) hx hb dX0_substituteAndShift_31 (by decide) ?_
    refine lv_iand hx hb dX0_substituteAndShift_34 ?_
    refine w_top (nI (un (fb ((k + 4 * (k % 2 ^ 2)) % 2 ^ 4)) % 2 ^ 8)) (un_255 _) ?_
    refine w_ti hx hb hT hS (by decide) (by rw [tb_0]; exact Nat.mod_lt _ (by decide)) dX0_substituteAndShift_35 ?_
    refine w_iast hx hb hK hP hD hS 2 rfl (by omega) (by omega) (fl (k + 1) (ssI fb) fv) (fl_s rfl) dX0_substituteAndShift_36 (fun H locs hP hD hS => ?_)
    have hP : va_P G.1 vwCl [(h, .inr (0, [.ref ab, .int (nI 4), .ref ao, .ref ak, .ref am, .int (nI rd)])), (ab, .inl (G.2.1, 16, .inl fb)), (am, .inl (G.2.1, 16, .inl (fl (k + 1) (ssI fb) fv)))] H := hP
    have hD : va_D A [(h, .inr (0, [.ref ab, .int (nI 4), .ref ao, .ref ak, .ref am, .int (nI rd)])), (ab, .inl (G.2.1, 16, .inl fb)), (am, .inl (G.2.1, 16, .inl (fl (k + 1) (ssI fb) fv)))] := hD
    refine lv_iinc (v := nI (k + 1)) (lv' := [(1, .int (nI (k + 1))), (0, .ref h)]) hx hb dX0_substituteAndShift_37 hl (k := 0) rfl (nI_add k 1) (by decide) rfl (fun ls hl => ?_)
    refine lv_goto (tgt := 2) hx hb dX0_substituteAndShift_40 (by decide) ?_
    exact ih (k + 1) H _ _ (by omega) (by omega) hP hD hS (lv_sub hl [0, 1] rfl)

set_option maxHeartbeats 4000000 in
set_option maxRecDepth 100000 in
theorem c_Aes_shiftRestore (l : Launch) (G : wG) (h ab ao ak am rd : Nat) (fb fv fo : Nat → Int32)  : CMv l G yX0_shiftAndRestore wsX0_shiftAndRestore 1 19 0 0 [.ref h] [(h, .inr (0, [.ref ab, .int (nI 4), .ref ao, .ref ak, .ref am, .int (nI rd)])), (ab, .inl (G.2.1, 16, .inl fb)), (am, .inl (G.2.1, 16, .inl fv)), (ao, .inl (G.2.1, 256, .inl fo))] (fun (_ : Unit) => True) (fun _ => [(h, .inr (0, [.ref ab, .int (nI 4), .ref ao, .ref ak, .ref am, .int (nI rd)])), (ab, .inl (G.2.1, 16, .inl (srI fo fb))), (am, .inl (G.2.1, 16, .inl (srI fo fb))), (ao, .inl (G.2.1, 256, .inl fo))]) := by
  refine CMv.start cX0_shiftAndRestore 2 (by decide) rfl (Nat.le_of_ble_eq_true rfl) ?_
  intro p e s m below meth c A Q ls H locs hx hb hml hown hnm hts hK hT hA hP hD hS hl hret
  have hinX0 : ∀ w ∈ u_ws RX0 TX0 6, w ∈ wsX0_shiftAndRestore := by decide +kernel
  have hl : lv_has ls 2 [(0, .ref h)] := hl
  refine lv_iconst (v := nI 0) hx hb dX0_shiftAndRestore_0 (by decide) ?_
  refine lv_istore_n (lv' := [(1, .int (nI 0)), (0, .ref h)]) hx hb dX0_shiftAndRestore_1 rfl hl (by decide) rfl (fun ls hl => ?_)
  refine w_loop (ι := Nat) (fun k => 16 - k) (fun k => k ≤ 16) (fun k => [(h, .inr (0, [.ref ab, .int (nI 4), .ref ao, .ref ak, .ref am, .int (nI rd)])), (ab, .inl (G.2.1, 16, .inl fb)), (am, .inl (G.2.1, 16, .inl (fl k (srI fo fb) fv))), (ao, .inl (G.2.1, 256, .inl fo))]) (fun k => [(1, .int (nI k)), (0, .ref h)]) 0 (by omega) (by simp only [fl_0]; exact hP) (by simp only [fl_0]; exact hD) hS hl ?_
  intro k H locs ls hk hP hD hS hl ih
  have hk : k ≤ 16 := hk
  have hP : va_P G.1 vwCl [(h, .inr (0, [.ref ab, .int (nI 4), .ref ao, .ref ak, .ref am, .int (nI rd)])), (ab, .inl (G.2.1, 16, .inl fb)), (am, .inl (G.2.1, 16, .inl (fl k (srI fo fb) fv))), (ao, .inl (G.2.1, 256, .inl fo))] H := hP
  have hD : va_D A [(h, .inr (0, [.ref ab, .int (nI 4), .ref ao, .ref ak, .ref am, .int (nI rd)])), (ab, .inl (G.2.1, 16, .inl fb)), (am, .inl (G.2.1, 16, .inl (fl k (srI fo fb) fv))), (ao, .inl (G.2.1, 256, .inl fo))] := hD
  have hl : lv_has ls 2 [(1, .int (nI k)), (0, .ref h)] := hl
  refine lv_iload_n hx hb dX0_shiftAndRestore_2 rfl (lv_at hl 0 rfl) ?_
  refine lv_bipush (v := nI 16) hx hb dX0_shiftAndRestore_3 (by decide) ?_
  refine w_icmpN_ge (tgt := 44) hx hb (by omega) (by omega) dX0_shiftAndRestore_5 (by decide) (fun h1 => ?_) (fun h1 => ?_)
  · obtain rfl : 16 = k := Eq.symm (show k = 16 from by omega)
    refine lv_aload_n hx hb dX0_shiftAndRestore_44 rfl (lv_at hl 1 rfl) ?_
    refine va_get (D := G.1) (ci := 0) (v := .ref am) (C := RX0) (T := TX0) (N := 6) hx hb hts hinX0 hown hK hP 0 rfl rfl 4 (by decide) (hts (.fieldLink RX0 16 "CipherBox$Aes" "moved" "[I") (by decide +kernel)) (fun _ h9 => h9) rfl dX0_shiftAndRestore_45 ?_
    refine lv_iconst (v := nI 0) hx hb dX0_shiftAndRestore_48 (by decide) ?_
    refine lv_aload_n hx hb dX0_shiftAndRestore_49 rfl (lv_at hl 1 rfl) ?_
    refine va_get (D := G.1) (ci := 0) (v := .ref ab) (C := RX0) (T := TX0) (N := 6) hx hb hts hinX0 hown hK hP 0 rfl rfl 0 (by decide) (hts (.fieldLink RX0 64 "CipherBox$Aes" "block" "[I") (by decide +kernel)) (fun x9 h9 => u_same (hts (.sameField "CipherBox$Aes" "CipherBox$BlockCipher" "block" "[I") (by decide +kernel)) x9 h9) rfl dX0_shiftAndRestore_50 ?_
    refine lv_iconst (v := nI 0) hx hb dX0_shiftAndRestore_53 (by decide) ?_
    refine lv_bipush (v := nI 16) hx hb dX0_shiftAndRestore_54 (by decide) ?_
    refine w_copyI hx hb (by rw [hml]; exact hl.1.symm) hown (hts (.methodLink RX0 67 arraycopyName) (by decide +kernel)) (hts (.native arraycopyName) (by decide +kernel)) (hts (.static arraycopyName) (by decide +kernel)) (hts (.initialized "java/lang/System") (by decide +kernel)) hK hP hD hS 2 1 rfl rfl (by omega) (by omega) (by omega) (Nat.le_of_ble_eq_true rfl) (Nat.le_of_ble_eq_true rfl) dX0_shiftAndRestore_56 (fun H locs hP hD hS => ?_)
    have hP : va_P G.1 vwCl [(h, .inr (0, [.ref ab, .int (nI 4), .ref ao, .ref ak, .ref am, .int (nI rd)])), (ab, .inl (G.2.1, 16, .inl (fl 16 (fl 16 (srI fo fb) fv) fb))), (am, .inl (G.2.1, 16, .inl (fl 16 (srI fo fb) fv))), (ao, .inl (G.2.1, 256, .inl fo))] H := hP
    have hD : va_D A [(h, .inr (0, [.ref ab, .int (nI 4), .ref ao, .ref ak, .ref am, .int (nI rd)])), (ab, .inl (G.2.1, 16, .inl (fl 16 (fl 16 (srI fo fb) fv) fb))), (am, .inl (G.2.1, 16, .inl (fl 16 (srI fo fb) fv))), (ao, .inl (G.2.1, 256, .inl fo))] := hD
    have hP := w_ext (fl 16 (srI fo fb) fv) (srI fo fb) 2 hP rfl (fun j hj => fl_in hj)
    have hD := hD.set (p := 2) (e := .inl (G.2.1, 16, .inl (srI fo fb))) rfl
    have hP : va_P G.1 vwCl [(h, .inr (0, [.ref ab, .int (nI 4), .ref ao, .ref ak, .ref am, .int (nI rd)])), (ab, .inl (G.2.1, 16, .inl (fl 16 (fl 16 (srI fo fb) fv) fb))), (am, .inl (G.2.1, 16, .inl (srI fo fb))), (ao, .inl (G.2.1, 256, .inl fo))] H := hP
    have hD : va_D A [(h, .inr (0, [.ref ab, .int (nI 4), .ref ao, .ref ak, .ref am, .int (nI rd)])), (ab, .inl (G.2.1, 16, .inl (fl 16 (fl 16 (srI fo fb) fv) fb))), (am, .inl (G.2.1, 16, .inl (srI fo fb))), (ao, .inl (G.2.1, 256, .inl fo))] := hD
    have hP := w_ext (fl 16 (fl 16 (srI fo fb) fv) fb) (srI fo fb) 1 hP rfl (fun j hj => by rw [fl_in hj, fl_in hj])
    have hD := hD.set (p := 1) (e := .inl (G.2.1, 16, .inl (srI fo fb))) rfl
    have hP : va_P G.1 vwCl [(h, .inr (0, [.ref ab, .int (nI 4), .ref ao, .ref ak, .ref am, .int (nI rd)])), (ab, .inl (G.2.1, 16, .inl (srI fo fb))), (am, .inl (G.2.1, 16, .inl (srI fo fb))), (ao, .inl (G.2.1, 256, .inl fo))] H := hP
    have hD : va_D A [(h, .inr (0, [.ref ab, .int (nI 4), .ref ao, .ref ak, .ref am, .int (nI rd)])), (ab, .inl (G.2.1, 16, .inl (srI fo fb))), (am, .inl (G.2.1, 16, .inl (srI fo fb))), (ao, .inl (G.2.1, 256, .inl fo))] := hD
    exact hret () H _ 59 ls dX0_shiftAndRestore_59 (trivial) (hP.sub [0, 1, 2, 3] rfl) (hD.sub [0, 1, 2, 3] (by decide) rfl) hS
  · refine lv_aload_n hx hb dX0_shiftAndRestore_8 rfl (lv_at hl 1 rfl) ?_
    refine va_get (D := G.1) (ci := 0) (v := .ref am) (C := RX0) (T := TX0) (N := 6) hx hb hts hinX0 hown hK hP 0 rfl rfl 4 (by decide) (hts (.fieldLink RX0 16 "CipherBox$Aes" "moved" "[I") (by decide +kernel)) (fun _ h9 => h9) rfl dX0_shiftAndRestore_9 ?_
    refine lv_iload_n hx hb dX0_shiftAndRestore_12 rfl (lv_at hl 0 rfl) ?_
    refine lv_aload_n hx hb dX0_shiftAndRestore_13 rfl (lv_at hl 1 rfl) ?_
    refine va_get (D := G.1) (ci := 0) (v := .ref ao) (C := RX0) (T := TX0) (N := 6) hx hb hts hinX0 hown hK hP 0 rfl rfl 2 (by decide) (hts (.fieldLink RX0 7 "CipherBox$Aes" "originals" "[I") (by decide +kernel)) (fun _ h9 => h9) rfl dX0_shiftAndRestore_14 ?_
    refine lv_aload_n hx hb dX0_shiftAndRestore_17 rfl (lv_at hl 1 rfl) ?_
    refine va_get (D := G.1) (ci := 0) (v := .ref ab) (C := RX0) (T := TX0) (N := 6) hx hb hts hinX0 hown hK hP 0 rfl rfl 0 (by decide) (hts (.fieldLink RX0 64 "CipherBox$Aes" "block" "[I") (by decide +kernel)) (fun x9 h9 => u_same (hts (.sameField "CipherBox$Aes" "CipherBox$BlockCipher" "block" "[I") (by decide +kernel)) x9 h9) rfl dX0_shiftAndRestore_18 ?_
    refine lv_iload_n hx hb dX0_shiftAndRestore_21 rfl (lv_at hl 0 rfl) ?_
    refine lv_iconst (v := nI 4) hx hb dX0_shiftAndRestore_22 (by decide) ?_
    refine lv_iload_n hx hb dX0_shiftAndRestore_23 rfl (lv_at hl 0 rfl) ?_
    refine lv_iconst (v := nI 3) hx hb dX0_shiftAndRestore_24 (by decide) ?_
    refine w_iandN 2 hx hb (by omega) (by decide) rfl dX0_shiftAndRestore_25 ?_
    refine w_imulN hx hb dX0_shiftAndRestore_26 ?_
    refine lv_isub hx hb dX0_shiftAndRestore_27 ?_
    refine lv_bipush (v := nI 15) hx hb dX0_shiftAndRestore_28 (by decide) ?_
    refine lv_iand hx hb dX0_shiftAndRestore_30 ?_
    refine w_top (nI ((k + 16 - 4 * (k % 2 ^ 2)) % 2 ^ 4)) (sub_15 (by omega) (by omega)) ?_
    refine w_iald hx hb hK hP 1 rfl (by omega) (by omega) dX0_shiftAndRestore_31 ?_
    refine lv_sipush (v := nI 255) hx hb dX0_shiftAndRestore_32 (by decide) ?_
    refine lv_iand hx hb dX0_shiftAndRestore_35 ?_
    refine w_top (nI (un (fb ((k + 16 - 4 * (k % 2 ^ 2)) % 2 ^ 4)) % 2 ^ 8)) (un_255 _) ?_
    refine w_iald hx hb hK hP 3 rfl (Nat.mod_lt _ (by decide)) (by omega) dX0_shiftAndRestore_36 ?_
    refine w_iast hx hb hK hP hD hS 2 rfl (by omega) (by omega) (fl (k + 1) (srI fo fb) fv) (fl_s rfl) dX0_shiftAndRestore_37 (fun H locs hP hD hS => ?_)
    have hP : va_P G.1 vwCl [(h, .inr (0, [.ref ab, .int (nI 4), .ref ao, .ref ak, .ref am, .int (nI rd)])), (ab, .inl (G.2.1, 16, .inl fb)), (am, .inl (G.2.1, 16, .inl (fl (k + 1) (srI fo fb) fv))), (ao, .inl (G.2.1, 256, .inl fo))] H := hP
    have hD : va_D A [(h, .inr (0, [.ref ab, .int (nI 4), .ref ao, .ref ak, .ref am, .int (nI rd)])), (ab, .inl (G.2.1, 16, .inl fb)), (am, .inl (G.2.1, 16, .inl (fl (k + 1) (srI fo fb) fv))), (ao, .inl (G.2.1, 256, .inl fo))] := hD
    refine lv_iinc (v := nI (k + 1)) (lv' := [(1, .int (nI (k + 1))), (0, .ref h)]) hx hb dX0_shiftAndRestore_38 hl (k := 0) rfl (nI_add k 1) (by decide) rfl (fun ls hl => ?_)
    refine lv_goto (tgt := 2) hx hb dX0_shiftAndRestore_41 (by decide) ?_
    exact ih (k + 1) H _ _ (by omega) (by omega) hP hD hS (lv_sub hl [0, 1] rfl)

set_option maxHeartbeats 4000000 in
set_option maxRecDepth 100000 in
theorem c_Aes_mixColumns (l : Launch) (G : wG) (h ab ao ak am rd : Nat) (fb : Nat → Int32)  : CMv l G yX0_mixColumns wsX0_mixColumns 1 21 0 0 [.ref h] [(h, .inr (0, [.ref ab, .int (nI 4), .ref ao, .ref ak, .ref am, .int (nI rd)])), (ab, .inl (G.2.1, 16, .inl fb))] (fun (_ : Unit) => True) (fun _ => [(h, .inr (0, [.ref ab, .int (nI 4), .ref ao, .ref ak, .ref am, .int (nI rd)])), (ab, .inl (G.2.1, 16, .inl (mxI fb)))]) := by
  refine CMv.start cX0_mixColumns 4 (by decide) rfl (Nat.le_of_ble_eq_true rfl) ?_
  intro p e s m below meth c A Q ls H locs hx hb hml hown hnm hts hK hT hA hP hD hS hl hret
  have hinX0 : ∀ w ∈ u_ws RX0 TX0 6, w ∈ wsX0_mixColumns := by decide +kernel
  have hl : lv_has ls 4 [(0, .ref h)] := hl
  refine lv_iconst (v := nI 0) hx hb dX0_mixColumns_0 (by decide) ?_
  refine lv_istore_n (lv' := [(1, .int (nI 0)), (0, .ref h)]) hx hb dX0_mixColumns_1 rfl hl (by decide) rfl (fun ls hl => ?_)
  refine w_loop (ι := Nat) (fun k => 4 - k) (fun k => k ≤ 4) (fun k => [(h, .inr (0, [.ref ab, .int (nI 4), .ref ao, .ref ak, .ref am, .int (nI rd)])), (ab, .inl (G.2.1, 16, .inl (fl (4 * k) (mxI fb) fb)))]) (fun k => [(1, .int (nI (4 * k))), (0, .ref h)]) 0 (by omega) (by simp only [Nat.mul_zero, fl_0]; exact hP) (by simp only [Nat.mul_zero, fl_0]; exact hD) hS hl ?_
  intro k H locs ls hk hP hD hS hl ih
  have hk : k ≤ 4 := hk
  have hP : va_P G.1 vwCl [(h, .inr (0, [.ref ab, .int (nI 4), .ref ao, .ref ak, .ref am, .int (nI rd)])), (ab, .inl (G.2.1, 16, .inl (fl (4 * k) (mxI fb) fb)))] H := hP
  have hD : va_D A [(h, .inr (0, [.ref ab, .int (nI 4), .ref ao, .ref ak, .ref am, .int (nI rd)])), (ab, .inl (G.2.1, 16, .inl (fl (4 * k) (mxI fb) fb)))] := hD
  have hl : lv_has ls 4 [(1, .int (nI (4 * k))), (0, .ref h)] := hl
  refine lv_iload_n hx hb dX0_mixColumns_2 rfl (lv_at hl 0 rfl) ?_
  refine lv_bipush (v := nI 16) hx hb dX0_mixColumns_3 (by decide) ?_
  refine w_icmpN_ge (tgt := 171) hx hb (by omega) (by omega) dX0_mixColumns_5 (by decide) (fun h1 => ?_) (fun h1 => ?_)
  · obtain rfl : 4 = k := Eq.symm (show k = 4 from by omega)
    have hP := w_ext (fl (4 * 4) (mxI fb) fb) (mxI fb) 1 hP rfl (fun j hj => fl_in (by omega))
    have hD := hD.set (p := 1) (e := .inl (G.2.1, 16, .inl (mxI fb))) rfl
    have hP : va_P G.1 vwCl [(h, .inr (0, [.ref ab, .int (nI 4), .ref ao, .ref ak, .ref am, .int (nI rd)])), (ab, .inl (G.2.1, 16, .inl (mxI fb)))] H := hP
    have hD : va_D A [(h, .inr (0, [.ref ab, .int (nI 4), .ref ao, .ref ak, .ref am, .int (nI rd)])), (ab, .inl (G.2.1, 16, .inl (mxI fb)))] := hD
    exact hret () H _ 171 ls dX0_mixColumns_171 (trivial) (hP.sub [0, 1] rfl) (hD.sub [0, 1] (by decide) rfl) hS
  · refine lv_aload_n hx hb dX0_mixColumns_8 rfl (lv_at hl 1 rfl) ?_
    refine va_get (D := G.1) (ci := 0) (v := .ref ab) (C := RX0) (T := TX0) (N := 6) hx hb hts hinX0 hown hK hP 0 rfl rfl 0 (by decide) (hts (.fieldLink RX0 64 "CipherBox$Aes" "block" "[I") (by decide +kernel)) (fun x9 h9 => u_same (hts (.sameField "CipherBox$Aes" "CipherBox$BlockCipher" "block" "[I") (by decide +kernel)) x9 h9) rfl dX0_mixColumns_9 ?_
    refine lv_iload_n hx hb dX0_mixColumns_12 rfl (lv_at hl 0 rfl) ?_
    refine w_iald hx hb hK hP 1 rfl (by omega) (by omega) dX0_mixColumns_13 ?_
    refine lv_istore_n (lv' := [(2, .int ((fl (4 * k) (mxI fb) fb) (4 * k))), (1, .int (nI (4 * k))), (0, .ref h)]) hx hb dX0_mixColumns_14 rfl hl (by decide) rfl (fun ls hl => ?_)
    refine lv_iload_n hx hb dX0_mixColumns_15 rfl (lv_at hl 0 rfl) ?_
    refine lv_aload_n hx hb dX0_mixColumns_16 rfl (lv_at hl 2 rfl) ?_
    refine va_get (D := G.1) (ci := 0) (v := .ref ab) (C := RX0) (T := TX0) (N := 6) hx hb hts hinX0 hown hK hP 0 rfl rfl 0 (by decide) (hts (.fieldLink RX0 64 "CipherBox$Aes" "block" "[I") (by decide +kernel)) (fun x9 h9 => u_same (hts (.sameField "CipherBox$Aes" "CipherBox$BlockCipher" "block" "[I") (by decide +kernel)) x9 h9) rfl dX0_mixColumns_17 ?_
    refine lv_iload_n hx hb dX0_mixColumns_20 rfl (lv_at hl 1 rfl) ?_
    refine lv_iconst (v := nI 1) hx hb dX0_mixColumns_21 (by decide) ?_
    refine w_iaddN hx hb dX0_mixColumns_22 ?_
    refine w_iald hx hb hK hP 1 rfl (by omega) (by omega) dX0_mixColumns_23 ?_
    refine lv_ixor hx hb dX0_mixColumns_24 ?_
    refine lv_aload_n hx hb dX0_mixColumns_25 rfl (lv_at hl 2 rfl) ?_
    refine va_get (D := G.1) (ci := 0) (v := .ref ab) (C := RX0) (T := TX0) (N := 6) hx hb hts hinX0 hown hK hP 0 rfl rfl 0 (by decide) (hts (.fieldLink RX0 64 "CipherBox$Aes" "block" "[I") (by decide +kernel)) (fun x9 h9 => u_same (hts (.sameField "CipherBox$Aes" "CipherBox$BlockCipher" "block" "[I") (by decide +kernel)) x9 h9) rfl dX0_mixColumns_26 ?_
    refine lv_iload_n hx hb dX0_mixColumns_29 rfl (lv_at hl 1 rfl) ?_
    refine lv_iconst (v := nI 2) hx hb dX0_mixColumns_30 (by decide) ?_
    refine w_iaddN hx hb dX0_mixColumns_31 ?_
    refine w_iald hx hb hK hP 1 rfl (by omega) (by omega) dX0_mixColumns_32 ?_
    refine lv_ixor hx hb dX0_mixColumns_33 ?_
    refine lv_aload_n hx hb dX0_mixColumns_34 rfl (lv_at hl 2 rfl) ?_
    refine va_get (D := G.1) (ci := 0) (v := .ref ab) (C := RX0) (T := TX0) (N := 6) hx hb hts hinX0 hown hK hP 0 rfl rfl 0 (by decide) (hts (.fieldLink RX0 64 "CipherBox$Aes" "block" "[I") (by decide +kernel)) (fun x9 h9 => u_same (hts (.sameField "CipherBox$Aes" "CipherBox$BlockCipher" "block" "[I") (by decide +kernel)) x9 h9) rfl dX0_mixColumns_35 ?_
    refine lv_iload_n hx hb dX0_mixColumns_38 rfl (lv_at hl 1 rfl) ?_
    refine lv_iconst (v := nI 3) hx hb dX0_mixColumns_39 (by decide) ?_
    refine w_iaddN hx hb dX0_mixColumns_40 ?_
    refine w_iald hx hb hK hP 1 rfl (by omega) (by omega) dX0_mixColumns_41 ?_
    refine lv_ixor hx hb dX0_mixColumns_42 ?_
    refine lv_istore_n (lv' := [(3, .int (((((fl (4 * k) (mxI fb) fb) (4 * k)) ^^^ ((fl (4 * k) (mxI fb) fb) ((4 * k) + 1))) ^^^ ((fl (4 * k) (mxI fb) fb) ((4 * k) + 2))) ^^^ ((fl (4 * k) (mxI fb) fb) ((4 * k) + 3)))), (2, .int ((fl (4 * k) (mxI fb) fb) (4 * k))), (1, .int (nI (4 * k))), (0, .ref h)]) hx hb dX0_mixColumns_43 rfl hl (by decide) rfl (fun ls hl => ?_)
    refine lv_aload_n hx hb dX0_mixColumns_44 rfl (lv_at hl 3 rfl) ?_
    refine va_get (D := G.1) (ci := 0) (v := .ref ab) (C := RX0) (T := TX0) (N := 6) hx hb hts hinX0 hown hK hP 0 rfl rfl 0 (by decide) (hts (.fieldLink RX0 64 "CipherBox$Aes" "block" "[I") (by decide +kernel)) (fun x9 h9 => u_same (hts (.sameField "CipherBox$Aes" "CipherBox$BlockCipher" "block" "[I") (by decide +kernel)) x9 h9) rfl dX0_mixColumns_45 ?_
    refine lv_iload_n hx hb dX0_mixColumns_48 rfl (lv_at hl 2 rfl) ?_
    refine lv_dup2_11 hx hb dX0_mixColumns_49 rfl rfl ?_
    refine w_iald hx hb hK hP 1 rfl (by omega) (by omega) dX0_mixColumns_50 ?_
    refine lv_iload_n hx hb dX0_mixColumns_51 rfl (lv_at hl 0 rfl) ?_
    refine lv_aload_n hx hb dX0_mixColumns_52 rfl (lv_at hl 3 rfl) ?_
    refine va_get (D := G.1) (ci := 0) (v := .ref ab) (C := RX0) (T := TX0) (N := 6) hx hb hts hinX0 hown hK hP 0 rfl rfl 0 (by decide) (hts (.fieldLink RX0 64 "CipherBox$Aes" "block" "[I") (by decide +kernel)) (fun x9 h9 => u_same (hts (.sameField "CipherBox$Aes" "CipherBox$BlockCipher" "block" "[I") (by decide +kernel)) x9 h9) rfl dX0_mixColumns_53 ?_
    refine lv_iload_n hx hb dX0_mixColumns_56 rfl (lv_at hl 2 rfl) ?_
    refine w_iald hx hb hK hP 1 rfl (by omega) (by omega) dX0_mixColumns_57 ?_
    refine lv_aload_n hx hb dX0_mixColumns_58 rfl (lv_at hl 3 rfl) ?_
    refine va_get (D := G.1) (ci := 0) (v := .ref ab) (C := RX0) (T := TX0) (N := 6) hx hb hts hinX0 hown hK hP 0 rfl rfl 0 (by decide) (hts (.fieldLink RX0 64 "CipherBox$Aes" "block" "[I") (by decide +kernel)) (fun x9 h9 => u_same (hts (.sameField "CipherBox$Aes" "CipherBox$BlockCipher" "block" "[I") (by decide +kernel)) x9 h9) rfl dX0_mixColumns_59 ?_
    refine lv_iload_n hx hb dX0_mixColumns_62 rfl (lv_at hl 2 rfl) ?_
    refine lv_iconst (v := nI 1) hx hb dX0_mixColumns_63 (by decide) ?_
    refine w_iaddN hx hb dX0_mixColumns_64 ?_
    refine w_iald hx hb hK hP 1 rfl (by omega) (by omega) dX0_mixColumns_65 ?_
    refine lv_ixor hx hb dX0_mixColumns_66 ?_
    refine w_fini (wr := [(h, .inr (0, [.ref ab, .int (nI 4), .ref ao, .ref ak, .ref am, .int (nI rd)])), (ab, .inl (G.2.1, 16, .inl (fl (4 * k) (mxI fb) fb)))]) (va_runS (As := [.int (((fl (4 * k) (mxI fb) fb) (4 * k)) ^^^ ((fl (4 * k) (mxI fb) fb) ((4 * k) + 1)))]) (rest := [.int (((((fl (4 * k) (mxI fb) fb) (4 * k)) ^^^ ((fl (4 * k) (mxI fb) fb) ((4 * k) + 1))) ^^^ ((fl (4 * k) (mxI fb) fb) ((4 * k) + 2))) ^^^ ((fl (4 * k) (mxI fb) fb) ((4 * k) + 3))), .int ((fl (4 * k) (mxI fb) fb) (4 * k)), .int (nI (4 * k)), .ref ab]) ⟨hx, hb, hml, hown, hts⟩ (c_Aes_doubled l G (((fl (4 * k) (mxI fb) fb) (4 * k)) ^^^ ((fl (4 * k) (mxI fb) fb) ((4 * k) + 1))) H.size) (va_cwS 1 hts gX0_mixColumns_X0_doubled rfl rfl rfl (by decide +kernel) ⟨Nat.le_of_ble_eq_true rfl, Nat.le_of_ble_eq_true rfl⟩) ⟨wPre.blind, (fun U hU hW => ⟨rfl, w_pre hK hT hA hP hD hS (isC := []) (by decide) rfl U hU hW⟩)⟩ rfl rfl hl.1 rfl (lv_room (Nat.le_of_ble_eq_true rfl)) dX0_mixColumns_67 ⟨Nat.le_of_ble_eq_true rfl, Nat.le_of_ble_eq_true rfl⟩) hA hP hD hS [] [0, 1] rfl rfl (by decide) (by decide) (fun r u H locs hpost hP hD hS => ?_)
    obtain rfl := hpost
    have hP : va_P G.1 vwCl [(h, .inr (0, [.ref ab, .int (nI 4), .ref ao, .ref ak, .ref am, .int (nI rd)])), (ab, .inl (G.2.1, 16, .inl (fl (4 * k) (mxI fb) fb)))] H := hP
    have hD : va_D A [(h, .inr (0, [.ref ab, .int (nI 4), .ref ao, .ref ak, .ref am, .int (nI rd)])), (ab, .inl (G.2.1, 16, .inl (fl (4 * k) (mxI fb) fb)))] := hD
    refine lv_ixor hx hb dX0_mixColumns_70 ?_
    refine lv_ixor hx hb dX0_mixColumns_71 ?_
    refine w_iast hx hb hK hP hD hS 1 rfl (by omega) (by omega) (fl (4 * k + 1) (mxI fb) fb) (fl_s (k := 4 * k + 0) (by simp (disch := omega) only [fl_out]; exact (mx_i (k := k) 0 (by decide)).symm)) dX0_mixColumns_72 (fun H locs hP hD hS => ?_)
    have hP : va_P G.1 vwCl [(h, .inr (0, [.ref ab, .int (nI 4), .ref ao, .ref ak, .ref am, .int (nI rd)])), (ab, .inl (G.2.1, 16, .inl (fl (4 * k + 1) (mxI fb) fb)))] H := hP
    have hD : va_D A [(h, .inr (0, [.ref ab, .int (nI 4), .ref ao, .ref ak, .ref am, .int (nI rd)])), (ab, .inl (G.2.1, 16, .inl (fl (4 * k + 1) (mxI fb) fb)))] := hD
    refine lv_aload_n hx hb dX0_mixColumns_73 rfl (lv_at hl 3 rfl) ?_
    refine va_get (D := G.1) (ci := 0) (v := .ref ab) (C := RX0) (T := TX0) (N := 6) hx hb hts hinX0 hown hK hP 0 rfl rfl 0 (by decide) (hts (.fieldLink RX0 64 "CipherBox$Aes" "block" "[I") (by decide +kernel)) (fun x9 h9 => u_same (hts (.sameField "CipherBox$Aes" "CipherBox$BlockCipher" "block" "[I") (by decide +kernel)) x9 h9) rfl dX0_mixColumns_74 ?_
    refine lv_iload_n hx hb dX0_mixColumns_77 rfl (lv_at hl 2 rfl) ?_
    refine lv_iconst (v := nI 1) hx hb dX0_mixColumns_78 (by decide) ?_
    refine w_iaddN hx hb dX0_mixColumns_79 ?_
    refine lv_dup2_11 hx hb dX0_mixColumns_80 rfl rfl ?_
    refine w_iald hx hb hK hP 1 rfl (by omega) (by omega) dX0_mixColumns_81 ?_
    refine lv_iload_n hx hb dX0_mixColumns_82 rfl (lv_at hl 0 rfl) ?_
    refine lv_aload_n hx hb dX0_mixColumns_83 rfl (lv_at hl 3 rfl) ?_
    refine va_get (D := G.1) (ci := 0) (v := .ref ab) (C := RX0) (T := TX0) (N := 6) hx hb hts hinX0 hown hK hP 0 rfl rfl 0 (by decide) (hts (.fieldLink RX0 64 "CipherBox$Aes" "block" "[I") (by decide +kernel)) (fun x9 h9 => u_same (hts (.sameField "CipherBox$Aes" "CipherBox$BlockCipher" "block" "[I") (by decide +kernel)) x9 h9) rfl dX0_mixColumns_84 ?_
    refine lv_iload_n hx hb dX0_mixColumns_87 rfl (lv_at hl 2 rfl) ?_
    refine lv_iconst (v := nI 1) hx hb dX0_mixColumns_88 (by decide) ?_
    refine w_iaddN hx hb dX0_mixColumns_89 ?_
    refine w_iald hx hb hK hP 1 rfl (by omega) (by omega) dX0_mixColumns_90 ?_
    refine lv_aload_n hx hb dX0_mixColumns_91 rfl (lv_at hl 3 rfl) ?_
    refine va_get (D := G.1) (ci := 0) (v := .ref ab) (C := RX0) (T := TX0) (N := 6) hx hb hts hinX0 hown hK hP 0 rfl rfl 0 (by decide) (hts (.fieldLink RX0 64 "CipherBox$Aes" "block" "[I") (by decide +kernel)) (fun x9 h9 => u_same (hts (.sameField "CipherBox$Aes" "CipherBox$BlockCipher" "block" "[I") (by decide +kernel)) x9 h9) rfl dX0_mixColumns_92 ?_
    refine lv_iload_n hx hb dX0_mixColumns_95 rfl (lv_at hl 2 rfl) ?_
    refine lv_iconst (v := nI 2) hx hb dX0_mixColumns_96 (by decide) ?_
    refine w_iaddN hx hb dX0_mixColumns_97 ?_
    refine w_iald hx hb hK hP 1 rfl (by omega) (by omega) dX0_mixColumns_98 ?_
    refine lv_ixor hx hb dX0_mixColumns_99 ?_
    refine w_fini (wr := [(h, .inr (0, [.ref ab, .int (nI 4), .ref ao, .ref ak, .ref am, .int (nI rd)])), (ab, .inl (G.2.1, 16, .inl (fl (4 * k + 1) (mxI fb) fb)))]) (va_runS (As := [.int (((fl (4 * k + 1) (mxI fb) fb) ((4 * k) + 1)) ^^^ ((fl (4 * k + 1) (mxI fb) fb) ((4 * k) + 2)))]) (rest := [.int (((((fl (4 * k) (mxI fb) fb) (4 * k)) ^^^ ((fl (4 * k) (mxI fb) fb) ((4 * k) + 1))) ^^^ ((fl (4 * k) (mxI fb) fb) ((4 * k) + 2))) ^^^ ((fl (4 * k) (mxI fb) fb) ((4 * k) + 3))), .int ((fl (4 * k + 1) (mxI fb) fb) ((4 * k) + 1)), .int (nI ((4 * k) + 1)), .ref ab]) ⟨hx, hb, hml, hown, hts⟩ (c_Aes_doubled l G (((fl (4 * k + 1) (mxI fb) fb) ((4 * k) + 1)) ^^^ ((fl (4 * k + 1) (mxI fb) fb) ((4 * k) + 2))) H.size) (va_cwS 1 hts gX0_mixColumns_X0_doubled rfl rfl rfl (by decide +kernel) ⟨Nat.le_of_ble_eq_true rfl, Nat.le_of_ble_eq_true rfl⟩) ⟨wPre.blind, (fun U hU hW => ⟨rfl, w_pre hK hT hA hP hD hS (isC := []) (by decide) rfl U hU hW⟩)⟩ rfl rfl hl.1 rfl (lv_room (Nat.le_of_ble_eq_true rfl)) dX0_mixColumns_100 ⟨Nat.le_of_ble_eq_true rfl, Nat.le_of_ble_eq_true rfl⟩) hA hP hD hS [] [0, 1] rfl rfl (by decide) (by decide) (fun r u H locs hpost hP hD hS => ?_)
    obtain rfl := hpost
    have hP : va_P G.1 vwCl [(h, .inr (0, [.ref ab, .int (nI 4), .ref ao, .ref ak, .ref am, .int (nI rd)])), (ab, .inl (G.2.1, 16, .inl (fl (4 * k + 1) (mxI fb) fb)))] H := hP
    have hD : va_D A [(h, .inr (0, [.ref ab, .int (nI 4), .ref ao, .ref ak, .ref am, .int (nI rd)])), (ab, .inl (G.2.1, 16, .inl (fl (4 * k + 1) (mxI fb) fb)))] := hD
    refine lv_ixor hx hb dX0_mixColumns_103 ?_
    refine lv_ixor hx hb dX0_mixColumns_104 ?_
    refine w_iast hx hb hK hP hD hS 1 rfl (by omega) (by omega) (fl (4 * k + 2) (mxI fb) fb) (fl_s (k := 4 * k + 1) (by simp (disch := omega) only [fl_out]; exact (mx_i (k := k) 1 (by decide)).symm)) dX0_mixColumns_105 (fun H locs hP hD hS => ?_)
    have hP : va_P G.1 vwCl [(h, .inr (0, [.ref ab, .int (nI 4), .ref ao, .ref ak, .ref am, .int (nI rd)])), (ab, .inl (G.2.1, 16, .inl (fl (4 * k + 2) (mxI fb) fb)))] H := hP
    have hD : va_D A [(h, .inr (0, [.ref ab, .int (nI 4), .ref ao, .ref ak, .ref am, .int (nI rd)])), (ab, .inl (G.2.1, 16, .inl (fl (4 * k + 2) (mxI fb) fb)))] := hD
    refine lv_aload_n hx hb dX0_mixColumns_106 rfl (lv_at hl 3 rfl) ?_
    refine va_get (D := G.1) (ci := 0) (v := .ref ab) (C := RX0) (T := TX0) (N := 6) hx hb hts hinX0 hown hK hP 0 rfl rfl 0 (by decide) (hts (.fieldLink RX0 64 "CipherBox$Aes" "block" "[I") (by decide +kernel)) (fun x9 h9 => u_same (hts (.sameField "CipherBox$Aes" "CipherBox$BlockCipher" "block" "[I") (by decide +kernel)) x9 h9) rfl dX0_mixColumns_107 ?_
    refine lv_iload_n hx hb dX0_mixColumns_110 rfl (lv_at hl 2 rfl) ?_
    refine lv_iconst (v := nI 2) hx hb dX0_mixColumns_111 (by decide) ?_
    refine w_iaddN hx hb dX0_mixColumns_112 ?_
    refine lv_dup2_11 hx hb dX0_mixColumns_113 rfl rfl ?_
    refine w_iald hx hb hK hP 1 rfl (by omega) (by omega) dX0_mixColumns_114 ?_
    refine lv_iload_n hx hb dX0_mixColumns_115 rfl (lv_at hl 0 rfl) ?_
    refine lv_aload_n hx hb dX0_mixColumns_116 rfl (lv_at hl 3 rfl) ?_
    refine va_get (D := G.1) (ci := 0) (v := .ref ab) (C := RX0) (T := TX0) (N := 6) hx hb hts hinX0 hown hK hP 0 rfl rfl 0 (by decide) (hts (.fieldLink RX0 64 "CipherBox$Aes" "block" "[I") (by decide +kernel)) (fun x9 h9 => u_same (hts (.sameField "CipherBox$Aes" "CipherBox$BlockCipher" "block" "[I") (by decide +kernel)) x9 h9) rfl dX0_mixColumns_117 ?_
    refine lv_iload_n hx hb dX0_mixColumns_120 rfl (lv_at hl 2 rfl) ?_
    refine lv_iconst (v := nI 2) hx hb dX0_mixColumns_121 (by decide) ?_
    refine w_iaddN hx hb dX0_mixColumns_122 ?_
    refine w_iald hx hb hK hP 1 rfl (by omega) (by omega) dX0_mixColumns_123 ?_
    refine lv_aload_n hx hb dX0_mixColumns_124 rfl (lv_at hl 3 rfl) ?_
    refine va_get (D := G.1) (ci := 0) (v := .ref ab) (C := RX0) (T := TX0) (N := 6) hx hb hts hinX0 hown hK hP 0 rfl rfl 0 (by decide) (hts (.fieldLink RX0 64 "CipherBox$Aes" "block" "[I") (by decide +kernel)) (fun x9 h9 => u_same (hts (.sameField "CipherBox$Aes" "CipherBox$BlockCipher" "block" "[I") (by decide +kernel)) x9 h9) rfl dX0_mixColumns_125 ?_
    refine lv_iload_n hx hb dX0_mixColumns_128 rfl (lv_at hl 2 rfl) ?_
    refine lv_iconst (v := nI 3) hx hb dX0_mixColumns_129 (by decide) ?_
    refine w_iaddN hx hb dX0_mixColumns_130 ?_
    refine w_iald hx hb hK hP 1 rfl (by omega) (by omega) dX0_mixColumns_131 ?_
    refine lv_ixor hx hb dX0_mixColumns_132 ?_
    refine w_fini (wr := [(h, .inr (0, [.ref ab, .int (nI 4), .ref ao, .ref ak, .ref am, .int (nI rd)])), (ab, .inl (G.2.1, 16, .inl (fl (4 * k + 2) (mxI fb) fb)))]) (va_runS (As := [.int (((fl (4 * k + 2) (mxI fb) fb) ((4 * k) + 2)) ^^^ ((fl (4 * k + 2) (mxI fb) fb) ((4 * k) + 3)))]) (rest := [.int (((((fl (4 * k) (mxI fb) fb) (4 * k)) ^^^ ((fl (4 * k) (mxI fb) fb) ((4 * k) + 1))) ^^^ ((fl (4 * k) (mxI fb) fb) ((4 * k) + 2))) ^^^ ((fl (4 * k) (mxI fb) fb) ((4 * k) + 3))), .int ((fl (4 * k + 2) (mxI fb) fb) ((4 * k) + 2)), .int (nI ((4 * k) + 2)), .ref ab]) ⟨hx, hb, hml, hown, hts⟩ (c_Aes_doubled l G (((fl (4 * k + 2) (mxI fb) fb) ((4 * k) + 2)) ^^^ ((fl (4 * k + 2) (mxI fb) fb) ((4 * k) + 3))) H.size) (va_cwS 1 hts gX0_mixColumns_X0_doubled rfl rfl rfl (by decide +kernel) ⟨Nat.le_of_ble_eq_true rfl, Nat.le_of_ble_eq_true rfl⟩) ⟨wPre.blind, (fun U hU hW => ⟨rfl, w_pre hK hT hA hP hD hS (isC := []) (by decide) rfl U hU hW⟩)⟩ rfl rfl hl.1 rfl (lv_room (Nat.le_of_ble_eq_true rfl)) dX0_mixColumns_133 ⟨Nat.le_of_ble_eq_true rfl, Nat.le_of_ble_eq_true rfl⟩) hA hP hD hS [] [0, 1] rfl rfl (by decide) (by decide) (fun r u H locs hpost hP hD hS => ?_)
    obtain rfl := hpost
    have hP : va_P G.1 vwCl [(h, .inr (0, [.ref ab, .int (nI 4), .ref ao, .ref ak, .ref am, .int (nI rd)])), (ab, .inl (G.2.1, 16, .inl (fl (4 * k + 2) (mxI fb) fb)))] H := hP
    have hD : va_D A [(h, .inr (0, [.ref ab, .int (nI 4), .ref ao, .ref ak, .ref am, .int (nI rd)])), (ab, .inl (G.2.1, 16, .inl (fl (4 * k + 2) (mxI fb) fb)))] := hD
    refine lv_ixor hx hb dX0_mixColumns_136 ?_
    refine lv_ixor hx hb dX0_mixColumns_137 ?_
    refine w_iast hx hb hK hP hD hS 1 rfl (by omega) (by omega) (fl (4 * k + 3) (mxI fb) fb) (fl_s (k := 4 * k + 2) (by simp (disch := omega) only [fl_out]; exact (mx_i (k := k) 2 (by decide)).symm)) dX0_mixColumns_138 (fun H locs hP hD hS => ?_)
    have hP : va_P G.1 vwCl [(h, .inr (0, [.ref ab, .int (nI 4), .ref ao, .ref ak, .ref am, .int (nI rd)])), (ab, .inl (G.2.1, 16, .inl (fl (4 * k + 3) (mxI fb) fb)))] H := hP
    have hD : va_D A [(h, .inr (0, [.ref ab, .int (nI 4), .ref ao, .ref ak, .ref am, .int (nI rd)])), (ab, .inl (G.2.1, 16, .inl (fl (4 * k + 3) (mxI fb) fb)))] := hD
    refine lv_aload_n hx hb dX0_mixColumns_139 rfl (lv_at hl 3 rfl) ?_
    refine va_get (D := G.1) (ci := 0) (v := .ref ab) (C := RX0) (T := TX0) (N := 6) hx hb hts hinX0 hown hK hP 0 rfl rfl 0 (by decide) (hts (.fieldLink RX0 64 "CipherBox$Aes" "block" "[I") (by decide +kernel)) (fun x9 h9 => u_same (hts (.sameField "CipherBox$Aes" "CipherBox$BlockCipher" "block" "[I") (by decide +kernel)) x9 h9) rfl dX0_mixColumns_140 ?_
    refine lv_iload_n hx hb dX0_mixColumns_143 rfl (lv_at hl 2 rfl) ?_
    refine lv_iconst (v := nI 3) hx hb dX0_mixColumns_144 (by decide) ?_
    refine w_iaddN hx hb dX0_mixColumns_145 ?_
    refine lv_dup2_11 hx hb dX0_mixColumns_146 rfl rfl ?_
    refine w_iald hx hb hK hP 1 rfl (by omega) (by omega) dX0_mixColumns_147 ?_
    refine lv_iload_n hx hb dX0_mixColumns_148 rfl (lv_at hl 0 rfl) ?_
    refine lv_aload_n hx hb dX0_mixColumns_149 rfl (lv_at hl 3 rfl) ?_
    refine va_get (D := G.1) (ci := 0) (v := .ref ab) (C := RX0) (T := TX0) (N := 6) hx hb hts hinX0 hown hK hP 0 rfl rfl 0 (by decide) (hts (.fieldLink RX0 64 "CipherBox$Aes" "block" "[I") (by decide +kernel)) (fun x9 h9 => u_same (hts (.sameField "CipherBox$Aes" "CipherBox$BlockCipher" "block" "[I") (by decide +kernel)) x9 h9) rfl dX0_mixColumns_150 ?_
    refine lv_iload_n hx hb dX0_mixColumns_153 rfl (lv_at hl 2 rfl) ?_
    refine lv_iconst (v := nI 3) hx hb dX0_mixColumns_154 (by decide) ?_
    refine w_iaddN hx hb dX0_mixColumns_155 ?_
    refine w_iald hx hb hK hP 1 rfl (by omega) (by omega) dX0_mixColumns_156 ?_
    refine lv_iload_n hx hb dX0_mixColumns_157 rfl (lv_at hl 1 rfl) ?_
    refine lv_ixor hx hb dX0_mixColumns_158 ?_
    refine w_fini (wr := [(h, .inr (0, [.ref ab, .int (nI 4), .ref ao, .ref ak, .ref am, .int (nI rd)])), (ab, .inl (G.2.1, 16, .inl (fl (4 * k + 3) (mxI fb) fb)))]) (va_runS (As := [.int (((fl (4 * k + 3) (mxI fb) fb) ((4 * k) + 3)) ^^^ ((fl (4 * k) (mxI fb) fb) (4 * k)))]) (rest := [.int (((((fl (4 * k) (mxI fb) fb) (4 * k)) ^^^ ((fl (4 * k) (mxI fb) fb) ((4 * k) + 1))) ^^^ ((fl (4 * k) (mxI fb) fb) ((4 * k) + 2))) ^^^ ((fl (4 * k) (mxI fb) fb) ((4 * k) + 3))), .int ((fl (4 * k + 3) (mxI fb) fb) ((4 * k) + 3)), .int (nI ((4 * k) + 3)), .ref ab]) ⟨hx, hb, hml, hown, hts⟩ (c_Aes_doubled l G (((fl (4 * k + 3) (mxI fb) fb) ((4 * k) + 3)) ^^^ ((fl (4 * k) (mxI fb) fb) (4 * k))) H.size) (va_cwS 1 hts gX0_mixColumns_X0_doubled rfl rfl rfl (by decide +kernel) ⟨Nat.le_of_ble_eq_true rfl, Nat.le_of_ble_eq_true rfl⟩) ⟨wPre.blind, (fun U hU hW => ⟨rfl, w_pre hK hT hA hP hD hS (isC := []) (by decide) rfl U hU hW⟩)⟩ rfl rfl hl.1 rfl (lv_room (Nat.le_of_ble_eq_true rfl)) dX0_mixColumns_159 ⟨Nat.le_of_ble_eq_true rfl, Nat.le_of_ble_eq_true rfl⟩) hA hP hD hS [] [0, 1] rfl rfl (by decide) (by decide) (fun r u H locs hpost hP hD hS => ?_)
    obtain rfl := hpost
    have hP : va_P G.1 vwCl [(h, .inr (0, [.ref ab, .int (nI 4), .ref ao, .ref ak, .ref am, .int (nI rd)])), (ab, .inl (G.2.1, 16, .inl (fl (4 * k + 3) (mxI fb) fb)))] H := hP
    have hD : va_D A [(h, .inr (0, [.ref ab, .int (nI 4), .ref ao, .ref ak, .ref am, .int (nI rd)])), (ab, .inl (G.2.1, 16, .inl (fl (4 * k + 3) (mxI fb) fb)))] := hD
    refine lv_ixor hx hb dX0_mixColumns_162 ?_
    refine lv_ixor hx hb dX0_mixColumns_163 ?_
    refine w_iast hx hb hK hP hD hS 1 rfl (by omega) (by omega) (fl (4 * k + 4) (mxI fb) fb) (fl_s (k := 4 * k + 3) (by simp (disch := omega) only [fl_out]; exact (mx_i (k := k) 3 (by decide)).symm)) dX0_mixColumns_164 (fun H locs hP hD hS => ?_)
    have hP : va_P G.1 vwCl [(h, .inr (0, [.ref ab, .int (nI 4), .ref ao, .ref ak, .ref am, .int (nI rd)])), (ab, .inl (G.2.1, 16, .inl (fl (4 * k + 4) (mxI fb) fb)))] H := hP
    have hD : va_D A [(h, .inr (0, [.ref ab, .int (nI 4), .ref ao, .ref ak, .ref am, .int (nI rd)])), (ab, .inl (G.2.1, 16, .inl (fl (4 * k + 4) (mxI fb) fb)))] := hD
    refine lv_iinc (v := nI (4 * k + 4)) (lv' := [(1, .int (nI (4 * k + 4))), (3, .int (((((fl (4 * k) (mxI fb) fb) (4 * k)) ^^^ ((fl (4 * k) (mxI fb) fb) ((4 * k) + 1))) ^^^ ((fl (4 * k) (mxI fb) fb) ((4 * k) + 2))) ^^^ ((fl (4 * k) (mxI fb) fb) ((4 * k) + 3)))), (2, .int ((fl (4 * k) (mxI fb) fb) (4 * k))), (0, .ref h)]) hx hb dX0_mixColumns_165 hl (k := 2) rfl (nI_add (4 * k) 4) (by decide) rfl (fun ls hl => ?_)
    refine lv_goto (tgt := 2) hx hb dX0_mixColumns_168 (by decide) ?_
    exact ih (k + 1) H _ _ (by omega) (by omega) hP hD hS (lv_sub hl [0, 3] rfl)

set_option maxHeartbeats 4000000 in
set_option maxRecDepth 100000 in
theorem c_Aes_unmixColumns (l : Launch) (G : wG) (h ab ao ak am rd : Nat) (fb : Nat → Int32)  : CMv l G yX0_unmixColumns wsX0_unmixColumns 2 44 0 0 [.ref h] [(h, .inr (0, [.ref ab, .int (nI 4), .ref ao, .ref ak, .ref am, .int (nI rd)])), (ab, .inl (G.2.1, 16, .inl fb))] (fun (_ : Unit) => True) (fun _ => [(h, .inr (0, [.ref ab, .int (nI 4), .ref ao, .ref ak, .ref am, .int (nI rd)])), (ab, .inl (G.2.1, 16, .inl (mxI (uxI fb))))]) := by
  refine CMv.start cX0_unmixColumns 4 (by decide) rfl (Nat.le_of_ble_eq_true rfl) ?_
  intro p e s m below meth c A Q ls H locs hx hb hml hown hnm hts hK hT hA hP hD hS hl hret
  have hinX0 : ∀ w ∈ u_ws RX0 TX0 6, w ∈ wsX0_unmixColumns := by decide +kernel
  have hl : lv_has ls 4 [(0, .ref h)] := hl
  refine lv_iconst (v := nI 0) hx hb dX0_unmixColumns_0 (by decide) ?_
  refine lv_istore_n (lv' := [(1, .int (nI 0)), (0, .ref h)]) hx hb dX0_unmixColumns_1 rfl hl (by decide) rfl (fun ls hl => ?_)
  refine w_loop (ι := Nat) (fun k => 4 - k) (fun k => k ≤ 4) (fun k => [(h, .inr (0, [.ref ab, .int (nI 4), .ref ao, .ref ak, .ref am, .int (nI rd)])), (ab, .inl (G.2.1, 16, .inl (fl (4 * k) (uxI fb) fb)))]) (fun k => [(1, .int (nI (4 * k))), (0, .ref h)]) 0 (by omega) (by simp only [Nat.mul_zero, fl_0]; exact hP) (by simp only [Nat.mul_zero, fl_0]; exact hD) hS hl ?_
  intro k H locs ls hk hP hD hS hl ih
  have hk : k ≤ 4 := hk
  have hP : va_P G.1 vwCl [(h, .inr (0, [.ref ab, .int (nI 4), .ref ao, .ref ak, .ref am, .int (nI rd)])), (ab, .inl (G.2.1, 16, .inl (fl (4 * k) (uxI fb) fb)))] H := hP
  have hD : va_D A [(h, .inr (0, [.ref ab, .int (nI 4), .ref ao, .ref ak, .ref am, .int (nI rd)])), (ab, .inl (G.2.1, 16, .inl (fl (4 * k) (uxI fb) fb)))] := hD
  have hl : lv_has ls 4 [(1, .int (nI (4 * k))), (0, .ref h)] := hl
  refine lv_iload_n hx hb dX0_unmixColumns_2 rfl (lv_at hl 0 rfl) ?_
  refine lv_bipush (v := nI 16) hx hb dX0_unmixColumns_3 (by decide) ?_
  refine w_icmpN_ge (tgt := 106) hx hb (by omega) (by omega) dX0_unmixColumns_5 (by decide) (fun h1 => ?_) (fun h1 => ?_)
  · obtain rfl : 4 = k := Eq.symm (show k = 4 from by omega)
    have hP := w_ext (fl (4 * 4) (uxI fb) fb) (uxI fb) 1 hP rfl (fun j hj => fl_in (by omega))
    have hD := hD.set (p := 1) (e := .inl (G.2.1, 16, .inl (uxI fb))) rfl
    have hP : va_P G.1 vwCl [(h, .inr (0, [.ref ab, .int (nI 4), .ref ao, .ref ak, .ref am, .int (nI rd)])), (ab, .inl (G.2.1, 16, .inl (uxI fb)))] H := hP
    have hD : va_D A [(h, .inr (0, [.ref ab, .int (nI 4), .ref ao, .ref ak, .ref am, .int (nI rd)])), (ab, .inl (G.2.1, 16, .inl (uxI fb)))] := hD
    refine lv_aload_n hx hb dX0_unmixColumns_106 rfl (lv_at hl 1 rfl) ?_
    refine w_finv (wr := []) (va_runV (As := []) (rest := []) ⟨hx, hb, hml, hown, hts⟩ (c_Aes_mixColumns l G h ab ao ak am rd (uxI fb) H.size) (cwV 0 hts gX0_unmixColumns_X0_mixColumns rfl rfl rfl (by decide +kernel) ⟨Nat.le_of_ble_eq_true rfl, Nat.le_of_ble_eq_true rfl⟩) ⟨wPre.blind, (va_recv hK hP (ci := 0) (q0 := 0) rfl rfl), (fun U hU hW => ⟨rfl, w_pre hK hT hA hP hD hS (isC := [0, 1]) (by decide) rfl U hU hW⟩)⟩ rfl rfl hl.1 rfl (lv_room (Nat.le_of_ble_eq_true rfl)) dX0_unmixColumns_107 ⟨Nat.le_of_ble_eq_true rfl, Nat.le_of_ble_eq_true rfl⟩) hA hP hD hS [0, 1] [] rfl rfl (by decide) (by decide) (fun u H locs hpost hP hD hS => ?_)
    have hP : va_P G.1 vwCl [(h, .inr (0, [.ref ab, .int (nI 4), .ref ao, .ref ak, .ref am, .int (nI rd)])), (ab, .inl (G.2.1, 16, .inl (mxI (uxI fb))))] H := hP
    have hD : va_D A [(h, .inr (0, [.ref ab, .int (nI 4), .ref ao, .ref ak, .ref am, .int (nI rd)])), (ab, .inl (G.2.1, 16, .inl (mxI (uxI fb))))] := hD
    exact hret () H _ 110 ls dX0_unmixColumns_110 (trivial) (hP.sub [0, 1] rfl) (hD.sub [0, 1] (by decide) rfl) hS
  · refine lv_aload_n hx hb dX0_unmixColumns_8 rfl (lv_at hl 1 rfl) ?_
    refine va_get (D := G.1) (ci := 0) (v := .ref ab) (C := RX0) (T := TX0) (N := 6) hx hb hts hinX0 hown hK hP 0 rfl rfl 0 (by decide) (hts (.fieldLink RX0 64 "CipherBox$Aes" "block" "[I") (by decide +kernel)) (fun x9 h9 => u_same (hts (.sameField "CipherBox$Aes" "CipherBox$BlockCipher" "block" "[I") (by decide +kernel)) x9 h9) rfl dX0_unmixColumns_9 ?_
    refine lv_iload_n hx hb dX0_unmixColumns_12 rfl (lv_at hl 0 rfl) ?_
    refine w_iald hx hb hK hP 1 rfl (by omega) (by omega) dX0_unmixColumns_13 ?_
    refine lv_aload_n hx hb dX0_unmixColumns_14 rfl (lv_at hl 1 rfl) ?_
    refine va_get (D := G.1) (ci := 0) (v := .ref ab) (C := RX0) (T := TX0) (N := 6) hx hb hts hinX0 hown hK hP 0 rfl rfl 0 (by decide) (hts (.fieldLink RX0 64 "CipherBox$Aes" "block" "[I") (by decide +kernel)) (fun x9 h9 => u_same (hts (.sameField "CipherBox$Aes" "CipherBox$BlockCipher" "block" "[I") (by decide +kernel)) x9 h9) rfl dX0_unmixColumns_15 ?_
    refine lv_iload_n hx hb dX0_unmixColumns_18 rfl (lv_at hl 0 rfl) ?_
    refine lv_iconst (v := nI 2) hx hb dX0_unmixColumns_19 (by decide) ?_
    refine w_iaddN hx hb dX0_unmixColumns_20 ?_
    refine w_iald hx hb hK hP 1 rfl (by omega) (by omega) dX0_unmixColumns_21 ?_
    refine lv_ixor hx hb dX0_unmixColumns_22 ?_
    refine w_fini (wr := [(h, .inr (0, [.ref ab, .int (nI 4), .ref ao, .ref ak, .ref am, .int (nI rd)])), (ab, .inl (G.2.1, 16, .inl (fl (4 * k) (uxI fb) fb)))]) (va_runS (As := [.int (((fl (4 * k) (uxI fb) fb) (4 * k)) ^^^ ((fl (4 * k) (uxI fb) fb) ((4 * k) + 2)))]) (rest := []) ⟨hx, hb, hml, hown, hts⟩ (c_Aes_doubled l G (((fl (4 * k) (uxI fb) fb) (4 * k)) ^^^ ((fl (4 * k) (uxI fb) fb) ((4 * k) + 2))) H.size) (va_cwS 1 hts gX0_unmixColumns_X0_doubled rfl rfl rfl (by decide +kernel) ⟨Nat.le_of_ble_eq_true rfl, Nat.le_of_ble_eq_true rfl⟩) ⟨wPre.blind, (fun U hU hW => ⟨rfl, w_pre hK hT hA hP hD hS (isC := []) (by decide) rfl U hU hW⟩)⟩ rfl rfl hl.1 rfl (lv_room (Nat.le_of_ble_eq_true rfl)) dX0_unmixColumns_23 ⟨Nat.le_of_ble_eq_true rfl, Nat.le_of_ble_eq_true rfl⟩) hA hP hD hS [] [0, 1] rfl rfl (by decide) (by decide) (fun r u H locs hpost hP hD hS => ?_)
    obtain rfl := hpost
    have hP : va_P G.1 vwCl [(h, .inr (0, [.ref ab, .int (nI 4), .ref ao, .ref ak, .ref am, .int (nI rd)])), (ab, .inl (G.2.1, 16, .inl (fl (4 * k) (uxI fb) fb)))] H := hP
    have hD : va_D A [(h, .inr (0, [.ref ab, .int (nI 4), .ref ao, .ref ak, .ref am, .int (nI rd)])), (ab, .inl (G.2.1, 16, .inl (fl (4 * k) (uxI fb) fb)))] := hD
    refine w_fini (wr := [(h, .inr (0, [.ref ab, .int (nI 4), .ref ao, .ref ak, .ref am, .int (nI rd)])), (ab, .inl (G.2.1, 16, .inl (fl (4 * k) (uxI fb) fb)))]) (va_runS (As := [.int (dblI (((fl (4 * k) (uxI fb) fb) (4 * k)) ^^^ ((fl (4 * k) (uxI fb) fb) ((4 * k) + 2))))]) (rest := []) ⟨hx, hb, hml, hown, hts⟩ (c_Aes_doubled l G (dblI (((fl (4 * k) (uxI fb) fb) (4 * k)) ^^^ ((fl (4 * k) (uxI fb) fb) ((4 * k) + 2)))) H.size) (va_cwS 1 hts gX0_unmixColumns_X0_doubled rfl rfl rfl (by decide +kernel) ⟨Nat.le_of_ble_eq_true rfl, Nat.le_of_ble_eq_true rfl⟩) ⟨wPre.blind, (fun U hU hW => ⟨rfl, w_pre hK hT hA hP hD hS (isC := []) (by decide) rfl U hU hW⟩)⟩ rfl rfl hl.1 rfl (lv_room (Nat.le_of_ble_eq_true rfl)) dX0_unmixColumns_26 ⟨Nat.le_of_ble_eq_true rfl, Nat.le_of_ble_eq_true rfl⟩) hA hP hD hS [] [0, 1] rfl rfl (by decide) (by decide) (fun r u H locs hpost hP hD hS => ?_)
    obtain rfl := hpost
    have hP : va_P G.1 vwCl [(h, .inr (0, [.ref ab, .int (nI 4), .ref ao, .ref ak, .ref am, .int (nI rd)])), (ab, .inl (G.2.1, 16, .inl (fl (4 * k) (uxI fb) fb)))] H := hP
    have hD : va_D A [(h, .inr (0, [.ref ab, .int (nI 4), .ref ao, .ref ak, .ref am, .int (nI rd)])), (ab, .inl (G.2.1, 16, .inl (fl (4 * k) (uxI fb) fb)))] := hD
    refine lv_istore_n (lv' := [(2, .int (dblI (dblI (((fl (4 * k) (uxI fb) fb) (4 * k)) ^^^ ((fl (4 * k) (uxI fb) fb) ((4 * k) + 2)))))), (1, .int (nI (4 * k))), (0, .ref h)]) hx hb dX0_unmixColumns_29 rfl hl (by decide) rfl (fun ls hl => ?_)
    refine lv_aload_n hx hb dX0_unmixColumns_30 rfl (lv_at hl 2 rfl) ?_
    refine va_get (D := G.1) (ci := 0) (v := .ref ab) (C := RX0) (T := TX0) (N := 6) hx hb hts hinX0 hown hK hP 0 rfl rfl 0 (by decide) (hts (.fieldLink RX0 64 "CipherBox$Aes" "block" "[I") (by decide +kernel)) (fun x9 h9 => u_same (hts (.sameField "CipherBox$Aes" "CipherBox$BlockCipher" "block" "[I") (by decide +kernel)) x9 h9) rfl dX0_unmixColumns_31 ?_
    refine lv_iload_n hx hb dX0_unmixColumns_34 rfl (lv_at hl 1 rfl) ?_
    refine lv_iconst (v := nI 1) hx hb dX0_unmixColumns_35 (by decide) ?_
    refine w_iaddN hx hb dX0_unmixColumns_36 ?_
    refine w_iald hx hb hK hP 1 rfl (by omega) (by omega) dX0_unmixColumns_37 ?_
    refine lv_aload_n hx hb dX0_unmixColumns_38 rfl (lv_at hl 2 rfl) ?_
    refine va_get (D := G.1) (ci := 0) (v := .ref ab) (C := RX0) (T := TX0) (N := 6) hx hb hts hinX0 hown hK hP 0 rfl rfl 0 (by decide) (hts (.fieldLink RX0 64 "CipherBox$Aes" "block" "[I") (by decide +kernel)) (fun x9 h9 => u_same (hts (.sameField "CipherBox$Aes" "CipherBox$BlockCipher" "block" "[I") (by decide +kernel)) x9 h9) rfl dX0_unmixColumns_39 ?_
    refine lv_iload_n hx hb dX0_unmixColumns_42 rfl (lv_at hl 1 rfl) ?_
    refine lv_iconst (v := nI 3) hx hb dX0_unmixColumns_43 (by decide) ?_
    refine w_iaddN hx hb dX0_unmixColumns_44 ?_
    refine w_iald hx hb hK hP 1 rfl (by omega) (by omega) dX0_unmixColumns_45 ?_
    refine lv_ixor hx hb dX0_unmixColumns_46 ?_
    refine w_fini (wr := [(h, .inr (0, [.ref ab, .int (nI 4), .ref ao, .ref ak, .ref am, .int (nI rd)])), (ab, .inl (G.2.1, 16, .inl (fl (4 * k) (uxI fb) fb)))]) (va_runS (As := [.int (((fl (4 * k) (uxI fb) fb) ((4 * k) + 1)) ^^^ ((fl (4 * k) (uxI fb) fb) ((4 * k) + 3)))]) (rest := []) ⟨hx, hb, hml, hown, hts⟩ (c_Aes_doubled l G (((fl (4 * k) (uxI fb) fb) ((4 * k) + 1)) ^^^ ((fl (4 * k) (uxI fb) fb) ((4 * k) + 3))) H.size) (va_cwS 1 hts gX0_unmixColumns_X0_doubled rfl rfl rfl (by decide +kernel) ⟨Nat.le_of_ble_eq_true rfl, Nat.le_of_ble_eq_true rfl⟩) ⟨wPre.blind, (fun U hU hW => ⟨rfl, w_pre hK hT hA hP hD hS (isC := []) (by decide) rfl U hU hW⟩)⟩ rfl rfl hl.1 rfl (lv_room (Nat.le_of_ble_eq_true rfl)) dX0_unmixColumns_47 ⟨Nat.le_of_ble_eq_true rfl, Nat.le_of_ble_eq_true rfl⟩) hA hP hD hS [] [0, 1] rfl rfl (by decide) (by decide) (fun r u H locs hpost hP hD hS => ?_)
    obtain rfl := hpost
    have hP : va_P G.1 vwCl [(h, .inr (0, [.ref ab, .int (nI 4), .ref ao, .ref ak, .ref am, .int (nI rd)])), (ab, .inl (G.2.1, 16, .inl (fl (4 * k) (uxI fb) fb)))] H := hP
    have hD : va_D A [(h, .inr (0, [.ref ab, .int (nI 4), .ref ao, .ref ak, .ref am, .int (nI rd)])), (ab, .inl (G.2.1, 16, .inl (fl (4 * k) (uxI fb) fb)))] := hD
    refine w_fini (wr := [(h, .inr (0, [.ref ab, .int (nI 4), .ref ao, .ref ak, .ref am, .int (nI rd)])), (ab, .inl (G.2.1, 16, .inl (fl (4 * k) (uxI fb) fb)))]) (va_runS (As := [.int (dblI (((fl (4 * k) (uxI fb) fb) ((4 * k) + 1)) ^^^ ((fl (4 * k) (uxI fb) fb) ((4 * k) + 3))))]) (rest := []) ⟨hx, hb, hml, hown, hts⟩ (c_Aes_doubled l G (dblI (((fl (4 * k) (uxI fb) fb) ((4 * k) + 1)) ^^^ ((fl (4 * k) (uxI fb) fb) ((4 * k) + 3)))) H.size) (va_cwS 1 hts gX0_unmixColumns_X0_doubled rfl rfl rfl (by decide +kernel) ⟨Nat.le_of_ble_eq_true rfl, Nat.le_of_ble_eq_true rfl⟩) ⟨wPre.blind, (fun U hU hW => ⟨rfl, w_pre hK hT hA hP hD hS (isC := []) (by decide) rfl U hU hW⟩)⟩ rfl rfl hl.1 rfl (lv_room (Nat.le_of_ble_eq_true rfl)) dX0_unmixColumns_50 ⟨Nat.le_of_ble_eq_true rfl, Nat.le_of_ble_eq_true rfl⟩) hA hP hD hS [] [0, 1] rfl rfl (by decide) (by decide) (fun r u H locs hpost hP hD hS => ?_)
    obtain rfl := hpost
    have hP : va_P G.1 vwCl [(h, .inr (0, [.ref ab, .int (nI 4), .ref ao, .ref ak, .ref am, .int (nI rd)])), (ab, .inl (G.2.1, 16, .inl (fl (4 * k) (uxI fb) fb)))] H := hP
    have hD : va_D A [(h, .inr (0, [.ref ab, .int (nI 4), .ref ao, .ref ak, .ref am, .int (nI rd)])), (ab, .inl (G.2.1, 16, .inl (fl (4 * k) (uxI fb) fb)))] := hD
    refine lv_istore_n (lv' := [(3, .int (dblI (dblI (((fl (4 * k) (uxI fb) fb) ((4 * k) + 1)) ^^^ ((fl (4 * k) (uxI fb) fb) ((4 * k) + 3)))))), (2, .int (dblI (dblI (((fl (4 * k) (uxI fb) fb) (4 * k)) ^^^ ((fl (4 * k) (uxI fb) fb) ((4 * k) + 2)))))), (1, .int (nI (4 * k))), (0, .ref h)]) hx hb dX0_unmixColumns_53 rfl hl (by decide) rfl (fun ls hl => ?_)
    refine lv_aload_n hx hb dX0_unmixColumns_54 rfl (lv_at hl 3 rfl) ?_
    refine va_get (D := G.1) (ci := 0) (v := .ref ab) (C := RX0) (T := TX0) (N := 6) hx hb hts hinX0 hown hK hP 0 rfl rfl 0 (by decide) (hts (.fieldLink RX0 64 "CipherBox$Aes" "block" "[I") (by decide +kernel)) (fun x9 h9 => u_same (hts (.sameField "CipherBox$Aes" "CipherBox$BlockCipher" "block" "[I") (by decide +kernel)) x9 h9) rfl dX0_unmixColumns_55 ?_
    refine lv_iload_n hx hb dX0_unmixColumns_58 rfl (lv_at hl 2 rfl) ?_
    refine lv_dup2_11 hx hb dX0_unmixColumns_59 rfl rfl ?_
    refine w_iald hx hb hK hP 1 rfl (by omega) (by omega) dX0_unmixColumns_60 ?_
    refine lv_iload_n hx hb dX0_unmixColumns_61 rfl (lv_at hl 1 rfl) ?_
    refine lv_ixor hx hb dX0_unmixColumns_62 ?_
    refine w_iast hx hb hK hP hD hS 1 rfl (by omega) (by omega) (fl (4 * k + 1) (uxI fb) fb) (fl_s (k := 4 * k + 0) (by simp (disch := omega) only [fl_out]; exact (ux_i (k := k) 0 (by decide)).symm)) dX0_unmixColumns_63 (fun H locs hP hD hS => ?_)
    have hP : va_P G.1 vwCl [(h, .inr (0, [.ref ab, .int (nI 4), .ref ao, .ref ak, .ref am, .int (nI rd)])), (ab, .inl (G.2.1, 16, .inl (fl (4 * k + 1) (uxI fb) fb)))] H := hP
    have hD : va_D A [(h, .inr (0, [.ref ab, .int (nI 4), .ref ao, .ref ak, .ref am, .int (nI rd)])), (ab, .inl (G.2.1, 16, .inl (fl (4 * k + 1) (uxI fb) fb)))] := hD
    refine lv_aload_n hx hb dX0_unmixColumns_64 rfl (lv_at hl 3 rfl) ?_
    refine va_get (D := G.1) (ci := 0) (v := .ref ab) (C := RX0) (T := TX0) (N := 6) hx hb hts hinX0 hown hK hP 0 rfl rfl 0 (by decide) (hts (.fieldLink RX0 64 "CipherBox$Aes" "block" "[I") (by decide +kernel)) (fun x9 h9 => u_same (hts (.sameField "CipherBox$Aes" "CipherBox$BlockCipher" "block" "[I") (by decide +kernel)) x9 h9) rfl dX0_unmixColumns_65 ?_
    refine lv_iload_n hx hb dX0_unmixColumns_68 rfl (lv_at hl 2 rfl) ?_
    refine lv_iconst (v := nI 1) hx hb dX0_unmixColumns_69 (by decide) ?_
    refine w_iaddN hx hb dX0_unmixColumns_70 ?_
    refine lv_dup2_11 hx hb dX0_unmixColumns_71 rfl rfl ?_
    refine w_iald hx hb hK hP 1 rfl (by omega) (by omega) dX0_unmixColumns_72 ?_
    refine lv_iload_n hx hb dX0_unmixColumns_73 rfl (lv_at hl 0 rfl) ?_
    refine lv_ixor hx hb dX0_unmixColumns_74 ?_
    refine w_iast hx hb hK hP hD hS 1 rfl (by omega) (by omega) (fl (4 * k + 2) (uxI fb) fb) (fl_s (k := 4 * k + 1) (by simp (disch := omega) only [fl_out]; exact (ux_i (k := k) 1 (by decide)).symm)) dX0_unmixColumns_75 (fun H locs hP hD hS => ?_)
    have hP : va_P G.1 vwCl [(h, .inr (0, [.ref ab, .int (nI 4), .ref ao, .ref ak, .ref am, .int (nI rd)])), (ab, .inl (G.2.1, 16, .inl (fl (4 * k + 2) (uxI fb) fb)))] H := hP
    have hD : va_D A [(h, .inr (0, [.ref ab, .int (nI 4), .ref ao, .ref ak, .ref am, .int (nI rd)])), (ab, .inl (G.2.1, 16, .inl (fl (4 * k + 2) (uxI fb) fb)))] := hD
    refine lv_aload_n hx hb dX0_unmixColumns_76 rfl (lv_at hl 3 rfl) ?_
    refine va_get (D := G.1) (ci := 0) (v := .ref ab) (C := RX0) (T := TX0) (N := 6) hx hb hts hinX0 hown hK hP 0 rfl rfl 0 (by decide) (hts (.fieldLink RX0 64 "CipherBox$Aes" "block" "[I") (by decide +kernel)) (fun x9 h9 => u_same (hts (.sameField "CipherBox$Aes" "CipherBox$BlockCipher" "block" "[I") (by decide +kernel)) x9 h9) rfl dX0_unmixColumns_77 ?_
    refine lv_iload_n hx hb dX0_unmixColumns_80 rfl (lv_at hl 2 rfl) ?_
    refine lv_iconst (v := nI 2) hx hb dX0_unmixColumns_81 (by decide) ?_
    refine w_iaddN hx hb dX0_unmixColumns_82 ?_
    refine lv_dup2_11 hx hb dX0_unmixColumns_83 rfl rfl ?_
    refine w_iald hx hb hK hP 1 rfl (by omega) (by omega) dX0_unmixColumns_84 ?_
    refine lv_iload_n hx hb dX0_unmixColumns_85 rfl (lv_at hl 1 rfl) ?_
    refine lv_ixor hx hb dX0_unmixColumns_86 ?_
    refine w_iast hx hb hK hP hD hS 1 rfl (by omega) (by omega) (fl (4 * k + 3) (uxI fb) fb) (fl_s (k := 4 * k + 2) (by simp (disch := omega) only [fl_out]; exact (ux_i (k := k) 2 (by decide)).symm)) dX0_unmixColumns_87 (fun H locs hP hD hS => ?_)
    have hP : va_P G.1 vwCl [(h, .inr (0, [.ref ab, .int (nI 4), .ref ao, .ref ak, .ref am, .int (nI rd)])), (ab, .inl (G.2.1, 16, .inl (fl (4 * k + 3) (uxI fb) fb)))] H := hP
    have hD : va_D A [(h, .inr (0, [.ref ab, .int (nI 4), .ref ao, .ref ak, .ref am, .int (nI rd)])), (ab, .inl (G.2.1, 16, .inl (fl (4 * k + 3) (uxI fb) fb)))] := hD
    refine lv_aload_n hx hb dX0_unmixColumns_88 rfl (lv_at hl 3 rfl) ?_
    refine va_get (D := G.1) (ci := 0) (v := .ref ab) (C := RX0) (T := TX0) (N := 6) hx hb hts hinX0 hown hK hP 0 rfl rfl 0 (by decide) (hts (.fieldLink RX0 64 "CipherBox$Aes" "block" "[I") (by decide +kernel)) (fun x9 h9 => u_same (hts (.sameField "CipherBox$Aes" "CipherBox$BlockCipher" "block" "[I") (by decide +kernel)) x9 h9) rfl dX0_unmixColumns_89 ?_
    refine lv_iload_n hx hb dX0_unmixColumns_92 rfl (lv_at hl 2 rfl) ?_
    refine lv_iconst (v := nI 3) hx hb dX0_unmixColumns_93 (by decide) ?_
    refine w_iaddN hx hb dX0_unmixColumns_94 ?_
    refine lv_dup2_11 hx hb dX0_unmixColumns_95 rfl rfl ?_
    refine w_iald hx hb hK hP 1 rfl (by omega) (by omega) dX0_unmixColumns_96 ?_
    refine lv_iload_n hx hb dX0_unmixColumns_97 rfl (lv_at hl 0 rfl) ?_
    refine lv_ixor hx hb dX0_unmixColumns_98 ?_
    refine w_iast hx hb hK hP hD hS 1 rfl (by omega) (by omega) (fl (4 * k + 4) (uxI fb) fb) (fl_s (k := 4 * k + 3) (by simp (disch := omega) only [fl_out]; exact (ux_i (k := k) 3 (by decide)).symm)) dX0_unmixColumns_99 (fun H locs hP hD hS => ?_)
    have hP : va_P G.1 vwCl [(h, .inr (0, [.ref ab, .int (nI 4), .ref ao, .ref ak, .ref am, .int (nI rd)])), (ab, .inl (G.2.1, 16, .inl (fl (4 * k + 4) (uxI fb) fb)))] H := hP
    have hD : va_D A [(h, .inr (0, [.ref ab, .int (nI 4), .ref ao, .ref ak, .ref am, .int (nI rd)])), (ab, .inl (G.2.1, 16, .inl (fl (4 * k + 4) (uxI fb) fb)))] := hD
    refine lv_iinc (v := nI (4 * k + 4)) (lv' := [(1, .int (nI (4 * k + 4))), (3, .int (dblI (dblI (((fl (4 * k) (uxI fb) fb) ((4 * k) + 1)) ^^^ ((fl (4 * k) (uxI fb) fb) ((4 * k) + 3)))))), (2, .int (dblI (dblI (((fl (4 * k) (uxI fb) fb) (4 * k)) ^^^ ((fl (4 * k) (uxI fb) fb) ((4 * k) + 2)))))), (0, .ref h)]) hx hb dX0_unmixColumns_100 hl (k := 2) rfl (nI_add (4 * k) 4) (by decide) rfl (fun ls hl => ?_)
    refine lv_goto (tgt := 2) hx hb dX0_unmixColumns_103 (by decide) ?_
    exact ih (k + 1) H _ _ (by omega) (by omega) hP hD hS (lv_sub hl [0, 3] rfl)

set_option maxHeartbeats 4000000 in
set_option maxRecDepth 100000 in
theorem c_Aes_codeThere (l : Launch) (G : wG) (h ab ao ak am rd : Nat) (fb fk fv : Nat → Int32) (hr : 1 ≤ rd ∧ rd ≤ 14) : CMv l G yX0_codeThere wsX0_codeThere 2 44 0 0 [.ref h] [(h, .inr (0, [.ref ab, .int (nI 4), .ref ao, .ref ak, .ref am, .int (nI rd)])), (ab, .inl (G.2.1, 16, .inl fb)), (ak, .inl (G.2.1, 60, .inl fk)), (am, .inl (G.2.1, 16, .inl fv))] (fun (u : Nat → Int32) => True) (fun v2 => [(h, .inr (0, [.ref ab, .int (nI 4), .ref ao, .ref ak, .ref am, .int (nI rd)])), (ab, .inl (G.2.1, 16, .inl (aeT fk rd fb))), (ak, .inl (G.2.1, 60, .inl fk)), (am, .inl (G.2.1, 16, .inl v2))]) := by
  refine CMv.start cX0_codeThere 2 (by decide) rfl (Nat.le_of_ble_eq_true rfl) ?_
  intro p e s m below meth c A Q ls H locs hx hb hml hown hnm hts hK hT hA hP hD hS hl hret
  have hinX0 : ∀ w ∈ u_ws RX0 TX0 6, w ∈ wsX0_codeThere := by decide +kernel
  have hl : lv_has ls 2 [(0, .ref h)] := hl
  refine lv_aload_n hx hb dX0_codeThere_0 rfl (lv_at hl 0 rfl) ?_
  refine lv_iconst (v := nI 0) hx hb dX0_codeThere_1 (by decide) ?_
  refine w_finv (wr := [(am, .inl (G.2.1, 16, .inl fv))]) (va_runV (As := [.int (nI 0)]) (rest := []) ⟨hx, hb, hml, hown, hts⟩ (c_Aes_addRoundKey l G h ab ao ak am rd fb fk 0 (by omega) H.size) (cwV 1 hts gX0_codeThere_X0_addRoundKey rfl rfl rfl (by decide +kernel) ⟨Nat.le_of_ble_eq_true rfl, Nat.le_of_ble_eq_true rfl⟩) ⟨wPre.blind, (va_recv hK hP (ci := 0) (q0 := 0) rfl rfl), (fun U hU hW => ⟨rfl, w_pre hK hT hA hP hD hS (isC := [0, 1, 2]) (by decide) rfl U hU hW⟩)⟩ rfl rfl hl.1 rfl (lv_room (Nat.le_of_ble_eq_true rfl)) dX0_codeThere_2 ⟨Nat.le_of_ble_eq_true rfl, Nat.le_of_ble_eq_true rfl⟩) hA hP hD hS [0, 1, 2] [3] rfl rfl (by decide) (by decide) (fun u H locs hpost hP hD hS => ?_)
  have hP : va_P G.1 vwCl [(am, .inl (G.2.1, 16, .inl fv)), (h, .inr (0, [.ref ab, .int (nI 4), .ref ao, .ref ak, .ref am, .int (nI rd)])), (ab, .inl (G.2.1, 16, .inl (ark fk 0 fb))), (ak, .inl (G.2.1, 60, .inl fk))] H := hP
  have hD : va_D A [(am, .inl (G.2.1, 16, .inl fv)), (h, .inr (0, [.ref ab, .int (nI 4), .ref ao, .ref ak, .ref am, .int (nI rd)])), (ab, .inl (G.2.1, 16, .inl (ark fk 0 fb))), (ak, .inl (G.2.1, 60, .inl fk))] := hD
  refine lv_iconst (v := nI 1) hx hb dX0_codeThere_5 (by decide) ?_
  refine lv_istore_n (lv' := [(1, .int (nI 1)), (0, .ref h)]) hx hb dX0_codeThere_6 rfl hl (by decide) rfl (fun ls hl => ?_)
  refine w_loop (ι := Nat × (Nat → Int32)) (fun x9 => match x9 with | ⟨k, fv⟩ => rd - k) (fun x9 => match x9 with | ⟨k, fv⟩ => k + 1 ≤ rd) (fun x9 => match x9 with | ⟨k, fv⟩ => [(am, .inl (G.2.1, 16, .inl fv)), (h, .inr (0, [.ref ab, .int (nI 4), .ref ao, .ref ak, .ref am, .int (nI rd)])), (ab, .inl (G.2.1, 16, .inl (agI fk fb k))), (ak, .inl (G.2.1, 60, .inl fk))]) (fun x9 => match x9 with | ⟨k, fv⟩ => [(1, .int (nI (k + 1))), (0, .ref h)]) ⟨0, fv⟩ (hr.1) hP hD hS hl ?_
  rintro ⟨k, fv⟩ H locs ls hk hP hD hS hl ih
  have hk : k + 1 ≤ rd := hk
  have hP : va_P G.1 vwCl [(am, .inl (G.2.1, 16, .inl fv)), (h, .inr (0, [.ref ab, .int (nI 4), .ref ao, .ref ak, .ref am, .int (nI rd)])), (ab, .inl (G.2.1, 16, .inl (agI fk fb k))), (ak, .inl (G.2.1, 60, .inl fk))] H := hP
  have hD : va_D A [(am, .inl (G.2.1, 16, .inl fv)), (h, .inr (0, [.ref ab, .int (nI 4), .ref ao, .ref ak, .ref am, .int (nI rd)])), (ab, .inl (G.2.1, 16, .inl (agI fk fb k))), (ak, .inl (G.2.1, 60, .inl fk))] := hD
  have hl : lv_has ls 2 [(1, .int (nI (k + 1))), (0, .ref h)] := hl
  refine lv_iload_n hx hb dX0_codeThere_7 rfl (lv_at hl 0 rfl) ?_
  refine lv_aload_n hx hb dX0_codeThere_8 rfl (lv_at hl 1 rfl) ?_
  refine va_get (D := G.1) (ci := 0) (v := .int (nI rd)) (C := RX0) (T := TX0) (N := 6) hx hb hts hinX0 hown hK hP 1 rfl rfl 5 (by decide) (hts (.fieldLink RX0 28 "CipherBox$Aes" "rounds" "I") (by decide +kernel)) (fun _ h9 => h9) rfl dX0_codeThere_9 ?_
  refine w_icmpN_ge (tgt := 34) hx hb (by omega) (by omega) dX0_codeThere_12 (by decide) (fun h1 => ?_) (fun h1 => ?_)
  · obtain rfl : k = rd - 1 := by omega
    refine lv_aload_n hx hb dX0_codeThere_34 rfl (lv_at hl 1 rfl) ?_
    refine w_finv (wr := [(ak, .inl (G.2.1, 60, .inl fk))]) (va_runV (As := []) (rest := []) ⟨hx, hb, hml, hown, hts⟩ (c_Aes_subShift l G h ab ao ak am rd (agI fk fb (rd - 1)) fv H.size) (cwV 0 hts gX0_codeThere_X0_substituteAndShift rfl rfl rfl (by decide +kernel) ⟨Nat.le_of_ble_eq_true rfl, Nat.le_of_ble_eq_true rfl⟩) ⟨wPre.blind, (va_recv hK hP (ci := 0) (q0 := 1) rfl rfl), (fun U hU hW => ⟨rfl, w_pre hK hT hA hP hD hS (isC := [1, 2, 0]) (by decide) rfl U hU hW⟩)⟩ rfl rfl hl.1 rfl (lv_room (Nat.le_of_ble_eq_true rfl)) dX0_codeThere_35 ⟨Nat.le_of_ble_eq_true rfl, Nat.le_of_ble_eq_true rfl⟩) hA hP hD hS [1, 2, 0] [3] rfl rfl (by decide) (by decide) (fun u H locs hpost hP hD hS => ?_)
    have hP : va_P G.1 vwCl [(ak, .inl (G.2.1, 60, .inl fk)), (h, .inr (0, [.ref ab, .int (nI 4), .ref ao, .ref ak, .ref am, .int (nI rd)])), (ab, .inl (G.2.1, 16, .inl (ssI (agI fk fb (rd - 1))))), (am, .inl (G.2.1, 16, .inl (ssI (agI fk fb (rd - 1)))))] H := hP
    have hD : va_D A [(ak, .inl (G.2.1, 60, .inl fk)), (h, .inr (0, [.ref ab, .int (nI 4), .ref ao, .ref ak, .ref am, .int (nI rd)])), (ab, .inl (G.2.1, 16, .inl (ssI (agI fk fb (rd - 1))))), (am, .inl (G.2.1, 16, .inl (ssI (agI fk fb (rd - 1)))))] := hD
    refine lv_aload_n hx hb dX0_codeThere_38 rfl (lv_at hl 1 rfl) ?_
    refine lv_aload_n hx hb dX0_codeThere_39 rfl (lv_at hl 1 rfl) ?_
    refine va_get (D := G.1) (ci := 0) (v := .int (nI rd)) (C := RX0) (T := TX0) (N := 6) hx hb hts hinX0 hown hK hP 1 rfl rfl 5 (by decide) (hts (.fieldLink RX0 28 "CipherBox$Aes" "rounds" "I") (by decide +kernel)) (fun _ h9 => h9) rfl dX0_codeThere_40 ?_
    refine w_finv (wr := [(am, .inl (G.2.1, 16, .inl (ssI (agI fk fb (rd - 1)))))]) (va_runV (As := [.int (nI rd)]) (rest := []) ⟨hx, hb, hml, hown, hts⟩ (c_Aes_addRoundKey l G h ab ao ak am rd (ssI (agI fk fb (rd - 1))) fk rd (by omega) H.size) (cwV 1 hts gX0_codeThere_X0_addRoundKey rfl rfl rfl (by decide +kernel) ⟨Nat.le_of_ble_eq_true rfl, Nat.le_of_ble_eq_true rfl⟩) ⟨wPre.blind, (va_recv hK hP (ci := 0) (q0 := 1) rfl rfl), (fun U hU hW => ⟨rfl, w_pre hK hT hA hP hD hS (isC := [1, 2, 0]) (by decide) rfl U hU hW⟩)⟩ rfl rfl hl.1 rfl (lv_room (Nat.le_of_ble_eq_true rfl)) dX0_codeThere_43 ⟨Nat.le_of_ble_eq_true rfl, Nat.le_of_ble_eq_true rfl⟩) hA hP hD hS [1, 2, 0] [3] rfl rfl (by decide) (by decide) (fun u H locs hpost hP hD hS => ?_)
    have hP : va_P G.1 vwCl [(am, .inl (G.2.1, 16, .inl (ssI (agI fk fb (rd - 1))))), (h, .inr (0, [.ref ab, .int (nI 4), .ref ao, .ref ak, .ref am, .int (nI rd)])), (ab, .inl (G.2.1, 16, .inl (ark fk rd (ssI (agI fk fb (rd - 1)))))), (ak, .inl (G.2.1, 60, .inl fk))] H := hP
    have hD : va_D A [(am, .inl (G.2.1, 16, .inl (ssI (agI fk fb (rd - 1))))), (h, .inr (0, [.ref ab, .int (nI 4), .ref ao, .ref ak, .ref am, .int (nI rd)])), (ab, .inl (G.2.1, 16, .inl (ark fk rd (ssI (agI fk fb (rd - 1)))))), (ak, .inl (G.2.1, 60, .inl fk))] := hD
    exact hret _ H _ 46 ls dX0_codeThere_46 (trivial) (hP.sub [1, 2, 3, 0] rfl) (hD.sub [1, 2, 3, 0] (by decide) rfl) hS
  · refine lv_aload_n hx hb dX0_codeThere_15 rfl (lv_at hl 1 rfl) ?_
    refine w_finv (wr := [(ak, .inl (G.2.1, 60, .inl fk))]) (va_runV (As := []) (rest := []) ⟨hx, hb, hml, hown, hts⟩ (c_Aes_subShift l G h ab ao ak am rd (agI fk fb k) fv H.size) (cwV 0 hts gX0_codeThere_X0_substituteAndShift rfl rfl rfl (by decide +kernel) ⟨Nat.le_of_ble_eq_true rfl, Nat.le_of_ble_eq_true rfl⟩) ⟨wPre.blind, (va_recv hK hP (ci := 0) (q0 := 1) rfl rfl), (fun U hU hW => ⟨rfl, w_pre hK hT hA hP hD hS (isC := [1, 2, 0]) (by decide) rfl U hU hW⟩)⟩ rfl rfl hl.1 rfl (lv_room (Nat.le_of_ble_eq_true rfl)) dX0_codeThere_16 ⟨Nat.le_of_ble_eq_true rfl, Nat.le_of_ble_eq_true rfl⟩) hA hP hD hS [1, 2, 0] [3] rfl rfl (by decide) (by decide) (fun u H locs hpost hP hD hS => ?_)
    have hP : va_P G.1 vwCl [(ak, .inl (G.2.1, 60, .inl fk)), (h, .inr (0, [.ref ab, .int (nI 4), .ref ao, .ref ak, .ref am, .int (nI rd)])), (ab, .inl (G.2.1, 16, .inl (ssI (agI fk fb k)))), (am, .inl (G.2.1, 16, .inl (ssI (agI fk fb k))))] H := hP
    have hD : va_D A [(ak, .inl (G.2.1, 60, .inl fk)), (h, .inr (0, [.ref ab, .int (nI 4), .ref ao, .ref ak, .ref am, .int (nI rd)])), (ab, .inl (G.2.1, 16, .inl (ssI (agI fk fb k)))), (am, .inl (G.2.1, 16, .inl (ssI (agI fk fb k))))] := hD
    refine lv_aload_n hx hb dX0_codeThere_19 rfl (lv_at hl 1 rfl) ?_
    refine w_finv (wr := [(ak, .inl (G.2.1, 60, .inl fk)), (am, .inl (G.2.1, 16, .inl (ssI (agI fk fb k))))]) (va_runV (As := []) (rest := []) ⟨hx, hb, hml, hown, hts⟩ (c_Aes_mixColumns l G h ab ao ak am rd (ssI (agI fk fb k)) H.size) (cwV 0 hts gX0_codeThere_X0_mixColumns rfl rfl rfl (by decide +kernel) ⟨Nat.le_of_ble_eq_true rfl, Nat.le_of_ble_eq_true rfl⟩) ⟨wPre.blind, (va_recv hK hP (ci := 0) (q0 := 1) rfl rfl), (fun U hU hW => ⟨rfl, w_pre hK hT hA hP hD hS (isC := [1, 2]) (by decide) rfl U hU hW⟩)⟩ rfl rfl hl.1 rfl (lv_room (Nat.le_of_ble_eq_true rfl)) dX0_codeThere_20 ⟨Nat.le_of_ble_eq_true rfl, Nat.le_of_ble_eq_true rfl⟩) hA hP hD hS [1, 2] [0, 3] rfl rfl (by decide) (by decide) (fun u H locs hpost hP hD hS => ?_)
    have hP : va_P G.1 vwCl [(ak, .inl (G.2.1, 60, .inl fk)), (am, .inl (G.2.1, 16, .inl (ssI (agI fk fb k)))), (h, .inr (0, [.ref ab, .int (nI 4), .ref ao, .ref ak, .ref am, .int (nI rd)])), (ab, .inl (G.2.1, 16, .inl (mxI (ssI (agI fk fb k)))))] H := hP
    have hD : va_D A [(ak, .inl (G.2.1, 60, .inl fk)), (am, .inl (G.2.1, 16, .inl (ssI (agI fk fb k)))), (h, .inr (0, [.ref ab, .int (nI 4), .ref ao, .ref ak, .ref am, .int (nI rd)])), (ab, .inl (G.2.1, 16, .inl (mxI (ssI (agI fk fb k)))))] := hD
    refine lv_aload_n hx hb dX0_codeThere_23 rfl (lv_at hl 1 rfl) ?_
    refine lv_iload_n hx hb dX0_codeThere_24 rfl (lv_at hl 0 rfl) ?_
    refine w_finv (wr := [(am, .inl (G.2.1, 16, .inl (ssI (agI fk fb k))))]) (va_runV (As := [.int (nI (k + 1))]) (rest := []) ⟨hx, hb, hml, hown, hts⟩ (c_Aes_addRoundKey l G h ab ao ak am rd (mxI (ssI (agI fk fb k))) fk (k + 1) (by omega) H.size) (cwV 1 hts gX0_codeThere_X0_addRoundKey rfl rfl rfl (by decide +kernel) ⟨Nat.le_of_ble_eq_true rfl, Nat.le_of_ble_eq_true rfl⟩) ⟨wPre.blind, (va_recv hK hP (ci := 0) (q0 := 2) rfl rfl), (fun U hU hW => ⟨rfl, w_pre hK hT hA hP hD hS (isC := [2, 3, 0]) (by decide) rfl U hU hW⟩)⟩ rfl rfl hl.1 rfl (lv_room (Nat.le_of_ble_eq_true rfl)) dX0_codeThere_25 ⟨Nat.le_of_ble_eq_true rfl, Nat.le_of_ble_eq_true rfl⟩) hA hP hD hS [2, 3, 0] [1] rfl rfl (by decide) (by decide) (fun u H locs hpost hP hD hS => ?_)
    have hP : va_P G.1 vwCl [(am, .inl (G.2.1, 16, .inl (ssI (agI fk fb k)))), (h, .inr (0, [.ref ab, .int (nI 4), .ref ao, .ref ak, .ref am, .int (nI rd)])), (ab, .inl (G.2.1, 16, .inl (ark fk (k + 1) (mxI (ssI (agI fk fb k)))))), (ak, .inl (G.2.1, 60, .inl fk))] H := hP
    have hD : va_D A [(am, .inl (G.2.1, 16, .inl (ssI (agI fk fb k)))), (h, .inr (0, [.ref ab, .int (nI 4), .ref ao, .ref ak, .ref am, .int (nI rd)])), (ab, .inl (G.2.1, 16, .inl (ark fk (k + 1) (mxI (ssI (agI fk fb k)))))), (ak, .inl (G.2.1, 60, .inl fk))] := hD
    refine lv_iinc (v := nI (k + 1 + 1)) (lv' := [(1, .int (nI (k + 1 + 1))), (0, .ref h)]) hx hb dX0_codeThere_28 hl (k := 0) rfl (nI_add (k + 1) 1) (by decide) rfl (fun ls hl => ?_)
    refine lv_goto (tgt := 7) hx hb dX0_codeThere_31 (by decide) ?_
    exact ih ⟨k + 1, _⟩ H _ _ (by dsimp only; omega) (by dsimp only; omega) hP hD hS (lv_sub hl [0, 1] rfl)

set_option maxHeartbeats 4000000 in
set_option maxRecDepth 100000 in
theorem c_Aes_codeBack (l : Launch) (G : wG) (h ab ao ak am rd : Nat) (fb fk fv fo : Nat → Int32) (hr : 1 ≤ rd ∧ rd ≤ 14) : CMv l G yX0_codeBack wsX0_codeBack 3 67 0 0 [.ref h] [(h, .inr (0, [.ref ab, .int (nI 4), .ref ao, .ref ak, .ref am, .int (nI rd)])), (ab, .inl (G.2.1, 16, .inl fb)), (ak, .inl (G.2.1, 60, .inl fk)), (am, .inl (G.2.1, 16, .inl fv)), (ao, .inl (G.2.1, 256, .inl fo))] (fun (u : Nat → Int32) => True) (fun v2 => [(h, .inr (0, [.ref ab, .int (nI 4), .ref ao, .ref ak, .ref am, .int (nI rd)])), (ab, .inl (G.2.1, 16, .inl (aeB fk fo rd fb))), (ak, .inl (G.2.1, 60, .inl fk)), (am, .inl (G.2.1, 16, .inl v2)), (ao, .inl (G.2.1, 256, .inl fo))]) := by
  refine CMv.start cX0_codeBack 2 (by decide) rfl (Nat.le_of_ble_eq_true rfl) ?_
  intro p e s m below meth c A Q ls H locs hx hb hml hown hnm hts hK hT hA hP hD hS hl hret
  have hinX0 : ∀ w ∈ u_ws RX0 TX0 6, w ∈ wsX0_codeBack := by decide +kernel
  have hl : lv_has ls 2 [(0, .ref h)] := hl
  refine lv_aload_n hx hb dX0_codeBack_0 rfl (lv_at hl 0 rfl) ?_
  refine lv_aload_n hx hb dX0_codeBack_1 rfl (lv_at hl 0 rfl) ?_
  refine va_get (D := G.1) (ci := 0) (v := .int (nI rd)) (C := RX0) (T := TX0) (N := 6) hx hb hts hinX0 hown hK hP 0 rfl rfl 5 (by decide) (hts (.fieldLink RX0 28 "CipherBox$Aes" "rounds" "I") (by decide +kernel)) (fun _ h9 => h9) rfl dX0_codeBack_2 ?_
  refine w_finv (wr := [(am, .inl (G.2.1, 16, .inl fv)), (ao, .inl (G.2.1, 256, .inl fo))]) (va_runV (As := [.int (nI rd)]) (rest := []) ⟨hx, hb, hml, hown, hts⟩ (c_Aes_addRoundKey l G h ab ao ak am rd fb fk rd (by omega) H.size) (cwV 1 hts gX0_codeBack_X0_addRoundKey rfl rfl rfl (by decide +kernel) ⟨Nat.le_of_ble_eq_true rfl, Nat.le_of_ble_eq_true rfl⟩) ⟨wPre.blind, (va_recv hK hP (ci := 0) (q0 := 0) rfl rfl), (fun U hU hW => ⟨rfl, w_pre hK hT hA hP hD hS (isC := [0, 1, 2]) (by decide) rfl U hU hW⟩)⟩ rfl rfl hl.1 rfl (lv_room (Nat.le_of_ble_eq_true rfl)) dX0_codeBack_5 ⟨Nat.le_of_ble_eq_true rfl, Nat.le_of_ble_eq_true rfl⟩) hA hP hD hS [0, 1, 2] [3, 4] rfl rfl (by decide) (by decide) (fun u H locs hpost hP hD hS => ?_)
  have hP : va_P G.1 vwCl [(am, .inl (G.2.1, 16, .inl fv)), (ao, .inl (G.2.1, 256, .inl fo)), (h, .inr (0, [.ref ab, .int (nI 4), .ref ao, .ref ak, .ref am, .int (nI rd)])), (ab, .inl (G.2.1, 16, .inl (ark fk rd fb))), (ak, .inl (G.2.1, 60, .inl fk))] H := hP
  have hD : va_D A [(am, .inl (G.2.1, 16, .inl fv)), (ao, .inl (G.2.1, 256, .inl fo)), (h, .inr (0, [.ref ab, .int (nI 4), .ref ao, .ref ak, .ref am, .int (nI rd)])), (ab, .inl (G.2.1, 16, .inl (ark fk rd fb))), (ak, .inl (G.2.1, 60, .inl fk))] := hD
  refine lv_aload_n hx hb dX0_codeBack_8 rfl (lv_at hl 0 rfl) ?_
  refine va_get (D := G.1) (ci := 0) (v := .int (nI rd)) (C := RX0) (T := TX0) (N := 6) hx hb hts hinX0 hown hK hP 2 rfl rfl 5 (by decide) (hts (.fieldLink RX0 28 "CipherBox$Aes" "rounds" "I") (by decide +kernel)) (fun _ h9 => h9) rfl dX0_codeBack_9 ?_
  refine lv_iconst (v := nI 1) hx hb dX0_codeBack_12 (by decide) ?_
  refine w_isubN hx hb (by omega) dX0_codeBack_13 ?_
  refine lv_istore_n (lv' := [(1, .int (nI (rd - 1))), (0, .ref h)]) hx hb dX0_codeBack_14 rfl hl (by decide) rfl (fun ls hl => ?_)
  refine w_loop (ι := Nat × (Nat → Int32)) (fun x9 => match x9 with | ⟨k, fv⟩ => rd - 1 - k) (fun x9 => match x9 with | ⟨k, fv⟩ => k ≤ rd - 1) (fun x9 => match x9 with | ⟨k, fv⟩ => [(am, .inl (G.2.1, 16, .inl fv)), (ao, .inl (G.2.1, 256, .inl fo)), (h, .inr (0, [.ref ab, .int (nI 4), .ref ao, .ref ak, .ref am, .int (nI rd)])), (ab, .inl (G.2.1, 16, .inl (abI fk fo rd fb k))), (ak, .inl (G.2.1, 60, .inl fk))]) (fun x9 => match x9 with | ⟨k, fv⟩ => [(1, .int (nI (rd - 1 - k))), (0, .ref h)]) ⟨0, fv⟩ (Nat.zero_le _) hP hD hS hl ?_
  rintro ⟨k, fv⟩ H locs ls hk hP hD hS hl ih
  have hk : k ≤ rd - 1 := hk
  have hP : va_P G.1 vwCl [(am, .inl (G.2.1, 16, .inl fv)), (ao, .inl (G.2.1, 256, .inl fo)), (h, .inr (0, [.ref ab, .int (nI 4), .ref ao, .ref ak, .ref am, .int (nI rd)])), (ab, .inl (G.2.1, 16, .inl (abI fk fo rd fb k))), (ak, .inl (G.2.1, 60, .inl fk))] H := hP
  have hD : va_D A [(am, .inl (G.2.1, 16, .inl fv)), (ao, .inl (G.2.1, 256, .inl fo)), (h, .inr (0, [.ref ab, .int (nI 4), .ref ao, .ref ak, .ref am, .int (nI rd)])), (ab, .inl (G.2.1, 16, .inl (abI fk fo rd fb k))), (ak, .inl (G.2.1, 60, .inl fk))] := hD
  have hl : lv_has ls 2 [(1, .int (nI (rd - 1 - k))), (0, .ref h)] := hl
  refine lv_iload_n hx hb dX0_codeBack_15 rfl (lv_at hl 0 rfl) ?_
  refine lv_if_le (tgt := 38) hx hb dX0_codeBack_16 (by decide) (fun h1 => ?_) (fun h1 => ?_)
  · have h9 : ¬ 0 < rd - 1 - k := fun q9 => nI_nle q9 (by omega) h1
    obtain rfl : rd - 1 = k := Eq.symm (show k = rd - 1 from by omega)
    refine lv_aload_n hx hb dX0_codeBack_38 rfl (lv_at hl 1 rfl) ?_
    refine w_finv (wr := [(ak, .inl (G.2.1, 60, .inl fk))]) (va_runV (As := []) (rest := []) ⟨hx, hb, hml, hown, hts⟩ (c_Aes_shiftRestore l G h ab ao ak am rd (abI fk fo rd fb (rd - 1)) fv fo H.size) (cwV 0 hts gX0_codeBack_X0_shiftAndRestore rfl rfl rfl (by decide +kernel) ⟨Nat.le_of_ble_eq_true rfl, Nat.le_of_ble_eq_true rfl⟩) ⟨wPre.blind, (va_recv hK hP (ci := 0) (q0 := 2) rfl rfl), (fun U hU hW => ⟨rfl, w_pre hK hT hA hP hD hS (isC := [2, 3, 0, 1]) (by decide) rfl U hU hW⟩)⟩ rfl rfl hl.1 rfl (lv_room (Nat.le_of_ble_eq_true rfl)) dX0_codeBack_39 ⟨Nat.le_of_ble_eq_true rfl, Nat.le_of_ble_eq_true rfl⟩) hA hP hD hS [2, 3, 0, 1] [4] rfl rfl (by decide) (by decide) (fun u H locs hpost hP hD hS => ?_)
    have hP : va_P G.1 vwCl [(ak, .inl (G.2.1, 60, .inl fk)), (h, .inr (0, [.ref ab, .int (nI 4), .ref ao, .ref ak, .ref am, .int (nI rd)])), (ab, .inl (G.2.1, 16, .inl (srI fo (abI fk fo rd fb (rd - 1))))), (am, .inl (G.2.1, 16, .inl (srI fo (abI fk fo rd fb (rd - 1))))), (ao, .inl (G.2.1, 256, .inl fo))] H := hP
    have hD : va_D A [(ak, .inl (G.2.1, 60, .inl fk)), (h, .inr (0, [.ref ab, .int (nI 4), .ref ao, .ref ak, .ref am, .int (nI rd)])), (ab, .inl (G.2.1, 16, .inl (srI fo (abI fk fo rd fb (rd - 1))))), (am, .inl (G.2.1, 16, .inl (srI fo (abI fk fo rd fb (rd - 1))))), (ao, .inl (G.2.1, 256, .inl fo))] := hD
    refine lv_aload_n hx hb dX0_codeBack_42 rfl (lv_at hl 1 rfl) ?_
    refine lv_iconst (v := nI 0) hx hb dX0_codeBack_43 (by decide) ?_
    refine w_finv (wr := [(am, .inl (G.2.1, 16, .inl (srI fo (abI fk fo rd fb (rd - 1))))), (ao, .inl (G.2.1, 256, .inl fo))]) (va_runV (As := [.int (nI 0)]) (rest := []) ⟨hx, hb, hml, hown, hts⟩ (c_Aes_addRoundKey l G h ab ao ak am rd (srI fo (abI fk fo rd fb (rd - 1))) fk 0 (by omega) H.size) (cwV 1 hts gX0_codeBack_X0_addRoundKey rfl rfl rfl (by decide +kernel) ⟨Nat.le_of_ble_eq_true rfl, Nat.le_of_ble_eq_true rfl⟩) ⟨wPre.blind, (va_recv hK hP (ci := 0) (q0 := 1) rfl rfl), (fun U hU hW => ⟨rfl, w_pre hK hT hA hP hD hS (isC := [1, 2, 0]) (by decide) rfl U hU hW⟩)⟩ rfl rfl hl.1 rfl (lv_room (Nat.le_of_ble_eq_true rfl)) dX0_codeBack_44 ⟨Nat.le_of_ble_eq_true rfl, Nat.le_of_ble_eq_true rfl⟩) hA hP hD hS [1, 2, 0] [3, 4] rfl rfl (by decide) (by decide) (fun u H locs hpost hP hD hS => ?_)
    have hP : va_P G.1 vwCl [(am, .inl (G.2.1, 16, .inl (srI fo (abI fk fo rd fb (rd - 1))))), (ao, .inl (G.2.1, 256, .inl fo)), (h, .inr (0, [.ref ab, .int (nI 4), .ref ao, .ref ak, .ref am, .int (nI rd)])), (ab, .inl (G.2.1, 16, .inl (ark fk 0 (srI fo (abI fk fo rd fb (rd - 1)))))), (ak, .inl (G.2.1, 60, .inl fk))] H := hP
    have hD : va_D A [(am, .inl (G.2.1, 16, .inl (srI fo (abI fk fo rd fb (rd - 1))))), (ao, .inl (G.2.1, 256, .inl fo)), (h, .inr (0, [.ref ab, .int (nI 4), .ref ao, .ref ak, .ref am, .int (nI rd)])), (ab, .inl (G.2.1, 16, .inl (ark fk 0 (srI fo (abI fk fo rd fb (rd - 1)))))), (ak, .inl (G.2.1, 60, .inl fk))] := hD
    exact hret _ H _ 47 ls dX0_codeBack_47 (trivial) (hP.sub [2, 3, 4, 0, 1] rfl) (hD.sub [2, 3, 4, 0, 1] (by decide) rfl) hS
  · have h9 : 0 < rd - 1 - k := by
      rcases Nat.eq_zero_or_pos (rd - 1 - k) with q9 | q9
      · exact absurd (by rw [q9]; decide) h1
      · exact q9
    refine lv_aload_n hx hb dX0_codeBack_19 rfl (lv_at hl 1 rfl) ?_
    refine w_finv (wr := [(ak, .inl (G.2.1, 60, .inl fk))]) (va_runV (As := []) (rest := []) ⟨hx, hb, hml, hown, hts⟩ (c_Aes_shiftRestore l G h ab ao ak am rd (abI fk fo rd fb k) fv fo H.size) (cwV 0 hts gX0_codeBack_X0_shiftAndRestore rfl rfl rfl (by decide +kernel) ⟨Nat.le_of_ble_eq_true rfl, Nat.le_of_ble_eq_true rfl⟩) ⟨wPre.blind, (va_recv hK hP (ci := 0) (q0 := 2) rfl rfl), (fun U hU hW => ⟨rfl, w_pre hK hT hA hP hD hS (isC := [2, 3, 0, 1]) (by decide) rfl U hU hW⟩)⟩ rfl rfl hl.1 rfl (lv_room (Nat.le_of_ble_eq_true rfl)) dX0_codeBack_20 ⟨Nat.le_of_ble_eq_true rfl, Nat.le_of_ble_eq_true rfl⟩) hA hP hD hS [2, 3, 0, 1] [4] rfl rfl (by decide) (by decide) (fun u H locs hpost hP hD hS => ?_)
    have hP : va_P G.1 vwCl [(ak, .inl (G.2.1, 60, .inl fk)), (h, .inr (0, [.ref ab, .int (nI 4), .ref ao, .ref ak, .ref am, .int (nI rd)])), (ab, .inl (G.2.1, 16, .inl (srI fo (abI fk fo rd fb k)))), (am, .inl (G.2.1, 16, .inl (srI fo (abI fk fo rd fb k)))), (ao, .inl (G.2.1, 256, .inl fo))] H := hP
    have hD : va_D A [(ak, .inl (G.2.1, 60, .inl fk)), (h, .inr (0, [.ref ab, .int (nI 4), .ref ao, .ref ak, .ref am, .int (nI rd)])), (ab, .inl (G.2.1, 16, .inl (srI fo (abI fk fo rd fb k)))), (am, .inl (G.2.1, 16, .inl (srI fo (abI fk fo rd fb k)))), (ao, .inl (G.2.1, 256, .inl fo))] := hD
    refine lv_aload_n hx hb dX0_codeBack_23 rfl (lv_at hl 1 rfl) ?_
    refine lv_iload_n hx hb dX0_codeBack_24 rfl (lv_at hl 0 rfl) ?_
    refine w_finv (wr := [(am, .inl (G.2.1, 16, .inl (srI fo (abI fk fo rd fb k)))), (ao, .inl (G.2.1, 256, .inl fo))]) (va_runV (As := [.int (nI (rd - 1 - k))]) (rest := []) ⟨hx, hb, hml, hown, hts⟩ (c_Aes_addRoundKey l G h ab ao ak am rd (srI fo (abI fk fo rd fb k)) fk (rd - 1 - k) (by omega) H.size) (cwV 1 hts gX0_codeBack_X0_addRoundKey rfl rfl rfl (by decide +kernel) ⟨Nat.le_of_ble_eq_true rfl, Nat.le_of_ble_eq_true rfl⟩) ⟨wPre.blind, (va_recv hK hP (ci := 0) (q0 := 1) rfl rfl), (fun U hU hW => ⟨rfl, w_pre hK hT hA hP hD hS (isC := [1, 2, 0]) (by decide) rfl U hU hW⟩)⟩ rfl rfl hl.1 rfl (lv_room (Nat.le_of_ble_eq_true rfl)) dX0_codeBack_25 ⟨Nat.le_of_ble_eq_true rfl, Nat.le_of_ble_eq_true rfl⟩) hA hP hD hS [1, 2, 0] [3, 4] rfl rfl (by decide) (by decide) (fun u H locs hpost hP hD hS => ?_)
    have hP : va_P G.1 vwCl [(am, .inl (G.2.1, 16, .inl (srI fo (abI fk fo rd fb k)))), (ao, .inl (G.2.1, 256, .inl fo)), (h, .inr (0, [.ref ab, .int (nI 4), .ref ao, .ref ak, .ref am, .int (nI rd)])), (ab, .inl (G.2.1, 16, .inl (ark fk (rd - 1 - k) (srI fo (abI fk fo rd fb k))))), (ak, .inl (G.2.1, 60, .inl fk))] H := hP
    have hD : va_D A [(am, .inl (G.2.1, 16, .inl (srI fo (abI fk fo rd fb k)))), (ao, .inl (G.2.1, 256, .inl fo)), (h, .inr (0, [.ref ab, .int (nI 4), .ref ao, .ref ak, .ref am, .int (nI rd)])), (ab, .inl (G.2.1, 16, .inl (ark fk (rd - 1 - k) (srI fo (abI fk fo rd fb k))))), (ak, .inl (G.2.1, 60, .inl fk))] := hD
    refine lv_aload_n hx hb dX0_codeBack_28 rfl (lv_at hl 1 rfl) ?_
    refine w_finv (wr := [(am, .inl (G.2.1, 16, .inl (srI fo (abI fk fo rd fb k)))), (ao, .inl (G.2.1, 256, .inl fo)), (ak, .inl (G.2.1, 60, .inl fk))]) (va_runV (As := []) (rest := []) ⟨hx, hb, hml, hown, hts⟩ (c_Aes_unmixColumns l G h ab ao ak am rd (ark fk (rd - 1 - k) (srI fo (abI fk fo rd fb k))) H.size) (cwV 0 hts gX0_codeBack_X0_unmixColumns rfl rfl rfl (by decide +kernel) ⟨Nat.le_of_ble_eq_true rfl, Nat.le_of_ble_eq_true rfl⟩) ⟨wPre.blind, (va_recv hK hP (ci := 0) (q0 := 2) rfl rfl), (fun U hU hW => ⟨rfl, w_pre hK hT hA hP hD hS (isC := [2, 3]) (by decide) rfl U hU hW⟩)⟩ rfl rfl hl.1 rfl (lv_room (Nat.le_of_ble_eq_true rfl)) dX0_codeBack_29 ⟨Nat.le_of_ble_eq_true rfl, Nat.le_of_ble_eq_true rfl⟩) hA hP hD hS [2, 3] [0, 1, 4] rfl rfl (by decide) (by decide) (fun u H locs hpost hP hD hS => ?_)
    have hP : va_P G.1 vwCl [(am, .inl (G.2.1, 16, .inl (srI fo (abI fk fo rd fb k)))), (ao, .inl (G.2.1, 256, .inl fo)), (ak, .inl (G.2.1, 60, .inl fk)), (h, .inr (0, [.ref ab, .int (nI 4), .ref ao, .ref ak, .ref am, .int (nI rd)])), (ab, .inl (G.2.1, 16, .inl (mxI (uxI (ark fk (rd - 1 - k) (srI fo (abI fk fo rd fb k)))))))] H := hP
    have hD : va_D A [(am, .inl (G.2.1, 16, .inl (srI fo (abI fk fo rd fb k)))), (ao, .inl (G.2.1, 256, .inl fo)), (ak, .inl (G.2.1, 60, .inl fk)), (h, .inr (0, [.ref ab, .int (nI 4), .ref ao, .ref ak, .ref am, .int (nI rd)])), (ab, .inl (G.2.1, 16, .inl (mxI (uxI (ark fk (rd - 1 - k) (srI fo (abI fk fo rd fb k)))))))] := hD
    refine lv_iinc (v := nI (rd - 1 - k - 1)) (lv' := [(1, .int (nI (rd - 1 - k - 1))), (0, .ref h)]) hx hb dX0_codeBack_32 hl (k := 0) rfl (sb_m1 (p := rd - 1 - k) (by omega)) (by decide) rfl (fun ls hl => ?_)
    refine lv_goto (tgt := 15) hx hb dX0_codeBack_35 (by decide) ?_
    exact ih ⟨k + 1, _⟩ H _ _ (by dsimp only; omega) (by dsimp only; omega) (hP.sub [0, 1, 3, 4, 2] rfl) (hD.sub [0, 1, 3, 4, 2] (by decide) rfl) hS (lv_sub hl [0, 1] rfl)
