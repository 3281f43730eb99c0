/-! the class's constructors -/
theorem mmax_nI {a : Nat} (ha : a < 2 ^ 31) : (if nI a < nI 0 then nI 0 else nI a) = nI a := by
  rw [if_neg (show ¬ nI a < nI 0 from fun q => nI_pos ha q)]
theorem tb_6 : tbL 6 = 32 := by decide +kernel
theorem tb_7 : tbL 7 = 512 := by decide +kernel
theorem tb6_i9 : ∀ j, j < 32 → 1 ≤ tbV 6 j ∧ tbV 6 j ≤ 32 := by decide +kernel
theorem tb7_l9 : ∀ j, j < 512 → tbV 7 j < 16 := by decide +kernel
/-- where each bit of the boxes' answers goes, behind k rows of the table -/
def glR : Nat → Nat → Int32
  | 0 => fun _ => 0
  | k + 1 => upd (glR k) ((tbV 6 k - 1) % 2 ^ 5) (nI (31 - k))
def mbX (i : Nat) : Nat := i / 2 ^ 6 * 64 + (2 * (i / 2 ^ 5 % 2) + i % 2) * 16 + i / 2 ^ 1 % 2 ^ 4
def mbB (i : Nat) : Nat → Int32
  | 0 => 0
  | t + 1 => mbB i t ||| (nI (tbV 7 (mbX i) / 2 ^ (3 - t) % 2 ^ 1) <<< (glR 32 (i / 2 ^ 6 * 4 + t) &&& 31))
/-- the boxes with the permutation behind them done -/
def mbI (i : Nat) : Int32 := mbB i 4
theorem mb_row : ∀ i, i < 512 → (nI (i / 2 ^ 4) &&& nI 2) ||| nI (i % 2 ^ 1) = nI (2 * (i / 2 ^ 5 % 2) + i % 2) := by decide +kernel
theorem upd_upd {f : Nat → Int32} {i : Nat} {v w : Int32} : upd (upd f i v) i w = upd f i w := by
  funext j
  simp only [upd]
  by_cases h : j = i
  · rw [if_pos h, if_pos h]
  · rw [if_neg h, if_neg h, if_neg h]
theorem upd_at {f : Nat → Int32} {i : Nat} {v : Int32} : upd f i v i = v := by simp [upd]
theorem mb_0 {i : Nat} : upd (fl i mbI (fun _ => 0)) i (mbB i 0) = fl i mbI (fun _ => 0) := by
  funext j
  simp only [upd]
  by_cases h : j = i
  · rw [if_pos h, h, fl_out (Nat.le_refl _)]; rfl
  · rw [if_neg h]
theorem mbX_lt {i : Nat} (h : i < 512) : mbX i < 512 := by unfold mbX; omega
/-- where each answer came from, behind k rows of the table -/
def orR : Nat → Nat → Int32
  | 0 => fun _ => 0
  | k + 1 => upd (orR k) (tbV 0 k % 2 ^ 8) (nI k)
set_option maxHeartbeats 4000000 in
set_option maxRecDepth 100000 in
theorem c_Row_init400 (l : Launch) (G : wG) (h : Nat)  : CMv l G yX5_init wsX5_init 1 14 1 400 [.ref h, .int (nI 400)] [(h, .inr (4, [.null, .int (nI 0)]))] (fun (u : Nat) => True) (fun b => [(h, .inr (4, [.ref b, .int (nI 0)])), (b, .inl (G.2.1, 400, .inl (fun _ => 0)))]) := by
  refine CMv.start cX5_init 2 (by decide) rfl (Nat.le_of_ble_eq_true rfl) ?_
  intro p e s m below meth c A Q ls H locs hx hb hml hown hnm hts hK hT hA hP hD hS hl hret
  have hinX5 : ∀ w ∈ u_ws RX5 TX5 2, w ∈ wsX5_init := by decide +kernel
  have hl : lv_has ls 2 [(0, .ref h), (1, .int (nI 400))] := hl
  refine lv_aload_n hx hb dX5_init_0 rfl (lv_at hl 0 rfl) ?_
  refine W.objInit hx hb hown (hts (.methodLink RX5 3 objectInit) (by decide +kernel)) (hts (.instanceMethod objectInit) (by decide +kernel)) (hts (.code objectInit ⟨#[0xb1]⟩ 1 none) (by decide +kernel)) rfl (by rw [hml]; exact hl.1) rfl dX5_init_1 (Nat.le_of_ble_eq_true rfl) (Nat.le_of_ble_eq_true rfl) ?_
  refine W.eq (g2 := F0 m 4 ls []) rfl ?_
  refine lv_aload_n hx hb dX5_init_4 rfl (lv_at hl 0 rfl) ?_
  refine lv_iload_n hx hb dX5_init_5 rfl (lv_at hl 1 rfl) ?_
  refine lv_iconst (v := nI 0) hx hb dX5_init_6 (by decide) ?_
  refine va_mmax hx hb (by rw [hml]; exact hl.1.symm) hown (hts (.methodLink RX5 9 Lib.Math.max.name) (by decide +kernel)) (hts (.static Lib.Math.max.name) (by decide +kernel)) (hts (.initialized "java/lang/Math") (by decide +kernel)) (hts (.code Lib.Math.max.name Lib.Math.max.code 2 (some .int)) (by decide +kernel)) (Nat.le_of_ble_eq_true rfl) (Nat.le_of_ble_eq_true rfl) (Nat.le_of_ble_eq_true rfl) (Nat.le_of_ble_eq_true rfl) dX5_init_7 ?_
  refine w_top (nI 400) (mmax_nI (by decide)) ?_
  refine w_newI 400 hx hb (hts (.arrayClass .int) (by decide +kernel)) hK hP hD hS hA (by decide) (by decide) (by decide) dX5_init_10 (fun q1 H hP hD hS => ?_)
  have hP : va_P G.1 vwCl [(h, .inr (4, [.null, .int (nI 0)])), (q1, .inl (G.2.1, 400, .inl (fun _ => 0)))] H := hP
  have hD : va_D A [(h, .inr (4, [.null, .int (nI 0)])), (q1, .inl (G.2.1, 400, .inl (fun _ => 0)))] := hD
  refine W.widen (k := 1) (n := 400) (by decide) (by decide) ?_
  refine va_putF (D := G.1) (ci := 4) (v := .ref q1) (ty := .array .int) (C := RX5) (T := TX5) (N := 2) hx hb hts hinX5 tyX5 tyX5_ok nmX5 hown hK hP hD hS 0 rfl rfl 0 (by decide) (hts (.fieldLink RX5 15 "CipherBox$Row" "bytes" "[I") (by decide +kernel)) (fun _ h9 => h9) rfl hnm rfl (by decide +kernel) rfl rfl (Nat.le_of_ble_eq_true rfl) dX5_init_12 (fun H locs hP hD hS => ?_)
  have hP : va_P G.1 vwCl [(h, .inr (4, [.ref q1, .int (nI 0)])), (q1, .inl (G.2.1, 400, .inl (fun _ => 0)))] H := hP
  have hD : va_D A [(h, .inr (4, [.ref q1, .int (nI 0)])), (q1, .inl (G.2.1, 400, .inl (fun _ => 0)))] := hD
  refine W.widen (k := 1) (n := 400) (by decide) (by decide) ?_
  exact hret q1 H _ 15 ls dX5_init_15 (trivial) (hP.sub [0, 1] rfl) (hD.sub [0, 1] (by decide) rfl) hS

set_option maxHeartbeats 4000000 in
set_option maxRecDepth 100000 in
theorem c_Row_init448 (l : Launch) (G : wG) (h : Nat)  : CMv l G yX5_init wsX5_init 1 14 1 448 [.ref h, .int (nI 448)] [(h, .inr (4, [.null, .int (nI 0)]))] (fun (u : Nat) => True) (fun b => [(h, .inr (4, [.ref b, .int (nI 0)])), (b, .inl (G.2.1, 448, .inl (fun _ => 0)))]) := by
  refine CMv.start cX5_init 2 (by decide) rfl (Nat.le_of_ble_eq_true rfl) ?_
  intro p e s m below meth c A Q ls H locs hx hb hml hown hnm hts hK hT hA hP hD hS hl hret
  have hinX5 : ∀ w ∈ u_ws RX5 TX5 2, w ∈ wsX5_init := by decide +kernel
  have hl : lv_has ls 2 [(0, .ref h), (1, .int (nI 448))] := hl
  refine lv_aload_n hx hb dX5_init_0 rfl (lv_at hl 0 rfl) ?_
  refine W.objInit hx hb hown (hts (.methodLink RX5 3 objectInit) (by decide +kernel)) (hts (.instanceMethod objectInit) (by decide +kernel)) (hts (.code objectInit ⟨#[0xb1]⟩ 1 none) (by decide +kernel)) rfl (by rw [hml]; exact hl.1) rfl dX5_init_1 (Nat.le_of_ble_eq_true rfl) (Nat.le_of_ble_eq_true rfl) ?_
  refine W.eq (g2 := F0 m 4 ls []) rfl ?_
  refine lv_aload_n hx hb dX5_init_4 rfl (lv_at hl 0 rfl) ?_
  refine lv_iload_n hx hb dX5_init_5 rfl (lv_at hl 1 rfl) ?_
  refine lv_iconst (v := nI 0) hx hb dX5_init_6 (by decide) ?_
  refine va_mmax hx hb (by rw [hml]; exact hl.1.symm) hown (hts (.methodLink RX5 9 Lib.Math.max.name) (by decide +kernel)) (hts (.static Lib.Math.max.name) (by decide +kernel)) (hts (.initialized "java/lang/Math") (by decide +kernel)) (hts (.code Lib.Math.max.name Lib.Math.max.code 2 (some .int)) (by decide +kernel)) (Nat.le_of_ble_eq_true rfl) (Nat.le_of_ble_eq_true rfl) (Nat.le_of_ble_eq_true rfl) (Nat.le_of_ble_eq_true rfl) dX5_init_7 ?_
  refine w_top (nI 448) (mmax_nI (by decide)) ?_
  refine w_newI 448 hx hb (hts (.arrayClass .int) (by decide +kernel)) hK hP hD hS hA (by decide) (by decide) (by decide) dX5_init_10 (fun q1 H hP hD hS => ?_)
  have hP : va_P G.1 vwCl [(h, .inr (4, [.null, .int (nI 0)])), (q1, .inl (G.2.1, 448, .inl (fun _ => 0)))] H := hP
  have hD : va_D A [(h, .inr (4, [.null, .int (nI 0)])), (q1, .inl (G.2.1, 448, .inl (fun _ => 0)))] := hD
  refine W.widen (k := 1) (n := 448) (by decide) (by decide) ?_
  refine va_putF (D := G.1) (ci := 4) (v := .ref q1) (ty := .array .int) (C := RX5) (T := TX5) (N := 2) hx hb hts hinX5 tyX5 tyX5_ok nmX5 hown hK hP hD hS 0 rfl rfl 0 (by decide) (hts (.fieldLink RX5 15 "CipherBox$Row" "bytes" "[I") (by decide +kernel)) (fun _ h9 => h9) rfl hnm rfl (by decide +kernel) rfl rfl (Nat.le_of_ble_eq_true rfl) dX5_init_12 (fun H locs hP hD hS => ?_)
  have hP : va_P G.1 vwCl [(h, .inr (4, [.ref q1, .int (nI 0)])), (q1, .inl (G.2.1, 448, .inl (fun _ => 0)))] H := hP
  have hD : va_D A [(h, .inr (4, [.ref q1, .int (nI 0)])), (q1, .inl (G.2.1, 448, .inl (fun _ => 0)))] := hD
  refine W.widen (k := 1) (n := 448) (by decide) (by decide) ?_
  exact hret q1 H _ 15 ls dX5_init_15 (trivial) (hP.sub [0, 1] rfl) (hD.sub [0, 1] (by decide) rfl) hS

set_option maxHeartbeats 4000000 in
set_option maxRecDepth 100000 in
theorem c_Row_init32 (l : Launch) (G : wG) (h : Nat)  : CMv l G yX5_init wsX5_init 1 14 1 32 [.ref h, .int (nI 32)] [(h, .inr (4, [.null, .int (nI 0)]))] (fun (u : Nat) => True) (fun b => [(h, .inr (4, [.ref b, .int (nI 0)])), (b, .inl (G.2.1, 32, .inl (fun _ => 0)))]) := by
  refine CMv.start cX5_init 2 (by decide) rfl (Nat.le_of_ble_eq_true rfl) ?_
  intro p e s m below meth c A Q ls H locs hx hb hml hown hnm hts hK hT hA hP hD hS hl hret
  have hinX5 : ∀ w ∈ u_ws RX5 TX5 2, w ∈ wsX5_init := by decide +kernel
  have hl : lv_has ls 2 [(0, .ref h), (1, .int (nI 32))] := hl
  refine lv_aload_n hx hb dX5_init_0 rfl (lv_at hl 0 rfl) ?_
  refine W.objInit hx hb hown (hts (.methodLink RX5 3 objectInit) (by decide +kernel)) (hts (.instanceMethod objectInit) (by decide +kernel)) (hts (.code objectInit ⟨#[0xb1]⟩ 1 none) (by decide +kernel)) rfl (by rw [hml]; exact hl.1) rfl dX5_init_1 (Nat.le_of_ble_eq_true rfl) (Nat.le_of_ble_eq_true rfl) ?_
  refine W.eq (g2 := F0 m 4 ls []) rfl ?_
  refine lv_aload_n hx hb dX5_init_4 rfl (lv_at hl 0 rfl) ?_
  refine lv_iload_n hx hb dX5_init_5 rfl (lv_at hl 1 rfl) ?_
  refine lv_iconst (v := nI 0) hx hb dX5_init_6 (by decide) ?_
  refine va_mmax hx hb (by rw [hml]; exact hl.1.symm) hown (hts (.methodLink RX5 9 Lib.Math.max.name) (by decide +kernel)) (hts (.static Lib.Math.max.name) (by decide +kernel)) (hts (.initialized "java/lang/Math") (by decide +kernel)) (hts (.code Lib.Math.max.name Lib.Math.max.code 2 (some .int)) (by decide +kernel)) (Nat.le_of_ble_eq_true rfl) (Nat.le_of_ble_eq_true rfl) (Nat.le_of_ble_eq_true rfl) (Nat.le_of_ble_eq_true rfl) dX5_init_7 ?_
  refine w_top (nI 32) (mmax_nI (by decide)) ?_
  refine w_newI 32 hx hb (hts (.arrayClass .int) (by decide +kernel)) hK hP hD hS hA (by decide) (by decide) (by decide) dX5_init_10 (fun q1 H hP hD hS => ?_)
  have hP : va_P G.1 vwCl [(h, .inr (4, [.null, .int (nI 0)])), (q1, .inl (G.2.1, 32, .inl (fun _ => 0)))] H := hP
  have hD : va_D A [(h, .inr (4, [.null, .int (nI 0)])), (q1, .inl (G.2.1, 32, .inl (fun _ => 0)))] := hD
  refine W.widen (k := 1) (n := 32) (by decide) (by decide) ?_
  refine va_putF (D := G.1) (ci := 4) (v := .ref q1) (ty := .array .int) (C := RX5) (T := TX5) (N := 2) hx hb hts hinX5 tyX5 tyX5_ok nmX5 hown hK hP hD hS 0 rfl rfl 0 (by decide) (hts (.fieldLink RX5 15 "CipherBox$Row" "bytes" "[I") (by decide +kernel)) (fun _ h9 => h9) rfl hnm rfl (by decide +kernel) rfl rfl (Nat.le_of_ble_eq_true rfl) dX5_init_12 (fun H locs hP hD hS => ?_)
  have hP : va_P G.1 vwCl [(h, .inr (4, [.ref q1, .int (nI 0)])), (q1, .inl (G.2.1, 32, .inl (fun _ => 0)))] H := hP
  have hD : va_D A [(h, .inr (4, [.ref q1, .int (nI 0)])), (q1, .inl (G.2.1, 32, .inl (fun _ => 0)))] := hD
  refine W.widen (k := 1) (n := 32) (by decide) (by decide) ?_
  exact hret q1 H _ 15 ls dX5_init_15 (trivial) (hP.sub [0, 1] rfl) (hD.sub [0, 1] (by decide) rfl) hS

set_option maxHeartbeats 4000000 in
set_option maxRecDepth 100000 in
theorem c_Row_init16 (l : Launch) (G : wG) (h : Nat)  : CMv l G yX5_init wsX5_init 1 14 1 16 [.ref h, .int (nI 16)] [(h, .inr (4, [.null, .int (nI 0)]))] (fun (u : Nat) => True) (fun b => [(h, .inr (4, [.ref b, .int (nI 0)])), (b, .inl (G.2.1, 16, .inl (fun _ => 0)))]) := by
  refine CMv.start cX5_init 2 (by decide) rfl (Nat.le_of_ble_eq_true rfl) ?_
  intro p e s m below meth c A Q ls H locs hx hb hml hown hnm hts hK hT hA hP hD hS hl hret
  have hinX5 : ∀ w ∈ u_ws RX5 TX5 2, w ∈ wsX5_init := by decide +kernel
  have hl : lv_has ls 2 [(0, .ref h), (1, .int (nI 16))] := hl
  refine lv_aload_n hx hb dX5_init_0 rfl (lv_at hl 0 rfl) ?_
  refine W.objInit hx hb hown (hts (.methodLink RX5 3 objectInit) (by decide +kernel)) (hts (.instanceMethod objectInit) (by decide +kernel)) (hts (.code objectInit ⟨#[0xb1]⟩ 1 none) (by decide +kernel)) rfl (by rw [hml]; exact hl.1) rfl dX5_init_1 (Nat.le_of_ble_eq_true rfl) (Nat.le_of_ble_eq_true rfl) ?_
  refine W.eq (g2 := F0 m 4 ls []) rfl ?_
  refine lv_aload_n hx hb dX5_init_4 rfl (lv_at hl 0 rfl) ?_
  refine lv_iload_n hx hb dX5_init_5 rfl (lv_at hl 1 rfl) ?_
  refine lv_iconst (v := nI 0) hx hb dX5_init_6 (by decide) ?_
  refine va_mmax hx hb (by rw [hml]; exact hl.1.symm) hown (hts (.methodLink RX5 9 Lib.Math.max.name) (by decide +kernel)) (hts (.static Lib.Math.max.name) (by decide +kernel)) (hts (.initialized "java/lang/Math") (by decide +kernel)) (hts (.code Lib.Math.max.name Lib.Math.max.code 2 (some .int)) (by decide +kernel)) (Nat.le_of_ble_eq_true rfl) (Nat.le_of_ble_eq_true rfl) (Nat.le_of_ble_eq_true rfl) (Nat.le_of_ble_eq_true rfl) dX5_init_7 ?_
  refine w_top (nI 16) (mmax_nI (by decide)) ?_
  refine w_newI 16 hx hb (hts (.arrayClass .int) (by decide +kernel)) hK hP hD hS hA (by decide) (by decide) (by decide) dX5_init_10 (fun q1 H hP hD hS => ?_)
  have hP : va_P G.1 vwCl [(h, .inr (4, [.null, .int (nI 0)])), (q1, .inl (G.2.1, 16, .inl (fun _ => 0)))] H := hP
  have hD : va_D A [(h, .inr (4, [.null, .int (nI 0)])), (q1, .inl (G.2.1, 16, .inl (fun _ => 0)))] := hD
  refine W.widen (k := 1) (n := 16) (by decide) (by decide) ?_
  refine va_putF (D := G.1) (ci := 4) (v := .ref q1) (ty := .array .int) (C := RX5) (T := TX5) (N := 2) hx hb hts hinX5 tyX5 tyX5_ok nmX5 hown hK hP hD hS 0 rfl rfl 0 (by decide) (hts (.fieldLink RX5 15 "CipherBox$Row" "bytes" "[I") (by decide +kernel)) (fun _ h9 => h9) rfl hnm rfl (by decide +kernel) rfl rfl (Nat.le_of_ble_eq_true rfl) dX5_init_12 (fun H locs hP hD hS => ?_)
  have hP : va_P G.1 vwCl [(h, .inr (4, [.ref q1, .int (nI 0)])), (q1, .inl (G.2.1, 16, .inl (fun _ => 0)))] H := hP
  have hD : va_D A [(h, .inr (4, [.ref q1, .int (nI 0)])), (q1, .inl (G.2.1, 16, .inl (fun _ => 0)))] := hD
  refine W.widen (k := 1) (n := 16) (by decide) (by decide) ?_
  exact hret q1 H _ 15 ls dX5_init_15 (trivial) (hP.sub [0, 1] rfl) (hD.sub [0, 1] (by decide) rfl) hS

set_option maxHeartbeats 4000000 in
set_option maxRecDepth 100000 in
theorem c_Block_initDes3 (l : Launch) (G : wG) (h : Nat)  : CMv l G yX1_init wsX1_init 1 12 1 8 [.ref h, .int (nI 3)] [(h, .inr (3, [.null, .int (nI 0), .null, .null]))] (fun (u : Nat) => True) (fun b => [(h, .inr (3, [.ref b, .int (nI 3), .null, .null])), (b, .inl (G.2.1, 8, .inl (fun _ => 0)))]) := by
  refine CMv.start cX1_init 2 (by decide) rfl (Nat.le_of_ble_eq_true rfl) ?_
  intro p e s m below meth c A Q ls H locs hx hb hml hown hnm hts hK hT hA hP hD hS hl hret
  have hinX4 : ∀ w ∈ u_ws RX4 TX4 4, w ∈ wsX1_init := by decide +kernel
  have hl : lv_has ls 2 [(0, .ref h), (1, .int (nI 3))] := hl
  refine lv_aload_n hx hb dX1_init_0 rfl (lv_at hl 0 rfl) ?_
  refine W.objInit hx hb hown (hts (.methodLink RX1 1 objectInit) (by decide +kernel)) (hts (.instanceMethod objectInit) (by decide +kernel)) (hts (.code objectInit ⟨#[0xb1]⟩ 1 none) (by decide +kernel)) rfl (by rw [hml]; exact hl.1) rfl dX1_init_1 (Nat.le_of_ble_eq_true rfl) (Nat.le_of_ble_eq_true rfl) ?_
  refine W.eq (g2 := F0 m 4 ls []) rfl ?_
  refine lv_aload_n hx hb dX1_init_4 rfl (lv_at hl 0 rfl) ?_
  refine lv_iload_n hx hb dX1_init_5 rfl (lv_at hl 1 rfl) ?_
  refine va_putF (D := G.1) (ci := 3) (v := .int (nI 3)) (ty := .int) (C := RX4) (T := TX4) (N := 4) hx hb hts hinX4 tyX4 tyX4_ok nmX4 hown hK hP hD hS 0 rfl rfl 1 (by decide) (hts (.fieldLink RX1 7 "CipherBox$BlockCipher" "shift" "I") (by decide +kernel)) (fun _ h9 => h9) rfl hnm rfl (by decide +kernel) rfl rfl (Nat.le_of_ble_eq_true rfl) dX1_init_6 (fun H locs hP hD hS => ?_)
  have hP : va_P G.1 vwCl [(h, .inr (3, [.null, .int (nI 3), .null, .null]))] H := hP
  have hD : va_D A [(h, .inr (3, [.null, .int (nI 3), .null, .null]))] := hD
  refine lv_aload_n hx hb dX1_init_9 rfl (lv_at hl 0 rfl) ?_
  refine lv_iconst (v := nI 1) hx hb dX1_init_10 (by decide) ?_
  refine lv_iload_n hx hb dX1_init_11 rfl (lv_at hl 1 rfl) ?_
  refine lv_bipush (v := nI 7) hx hb dX1_init_12 (by decide) ?_
  refine w_iandN 3 hx hb (by omega) (by decide) rfl dX1_init_14 ?_
  refine w_ishlN hx hb (by decide) (by decide) dX1_init_15 ?_
  refine w_top (nI 8) (by decide) ?_
  refine w_newI 8 hx hb (hts (.arrayClass .int) (by decide +kernel)) hK hP hD hS hA (by decide) (by decide) (by decide) dX1_init_16 (fun q1 H hP hD hS => ?_)
  have hP : va_P G.1 vwCl [(h, .inr (3, [.null, .int (nI 3), .null, .null])), (q1, .inl (G.2.1, 8, .inl (fun _ => 0)))] H := hP
  have hD : va_D A [(h, .inr (3, [.null, .int (nI 3), .null, .null])), (q1, .inl (G.2.1, 8, .inl (fun _ => 0)))] := hD
  refine W.widen (k := 1) (n := 8) (by decide) (by decide) ?_
  refine va_putF (D := G.1) (ci := 3) (v := .ref q1) (ty := .array .int) (C := RX4) (T := TX4) (N := 4) hx hb hts hinX4 tyX4 tyX4_ok nmX4 hown hK hP hD hS 0 rfl rfl 0 (by decide) (hts (.fieldLink RX1 13 "CipherBox$BlockCipher" "block" "[I") (by decide +kernel)) (fun _ h9 => h9) rfl hnm rfl (by decide +kernel) rfl rfl (Nat.le_of_ble_eq_true rfl) dX1_init_18 (fun H locs hP hD hS => ?_)
  have hP : va_P G.1 vwCl [(h, .inr (3, [.ref q1, .int (nI 3), .null, .null])), (q1, .inl (G.2.1, 8, .inl (fun _ => 0)))] H := hP
  have hD : va_D A [(h, .inr (3, [.ref q1, .int (nI 3), .null, .null])), (q1, .inl (G.2.1, 8, .inl (fun _ => 0)))] := hD
  refine W.widen (k := 1) (n := 8) (by decide) (by decide) ?_
  exact hret q1 H _ 21 ls dX1_init_21 (trivial) (hP.sub [0, 1] rfl) (hD.sub [0, 1] (by decide) rfl) hS

set_option maxHeartbeats 4000000 in
set_option maxRecDepth 100000 in
theorem c_Block_initAes (l : Launch) (G : wG) (h : Nat)  : CMv l G yX1_init wsX1_init 1 12 1 16 [.ref h, .int (nI 4)] [(h, .inr (0, [.null, .int (nI 0), .null, .null, .null, .int (nI 0)]))] (fun (u : Nat) => True) (fun b => [(h, .inr (0, [.ref b, .int (nI 4), .null, .null, .null, .int (nI 0)])), (b, .inl (G.2.1, 16, .inl (fun _ => 0)))]) := by
  refine CMv.start cX1_init 2 (by decide) rfl (Nat.le_of_ble_eq_true rfl) ?_
  intro p e s m below meth c A Q ls H locs hx hb hml hown hnm hts hK hT hA hP hD hS hl hret
  have hinX0 : ∀ w ∈ u_ws RX0 TX0 6, w ∈ wsX1_init := by decide +kernel
  have hl : lv_has ls 2 [(0, .ref h), (1, .int (nI 4))] := hl
  refine lv_aload_n hx hb dX1_init_0 rfl (lv_at hl 0 rfl) ?_
  refine W.objInit hx hb hown (hts (.methodLink RX1 1 objectInit) (by decide +kernel)) (hts (.instanceMethod objectInit) (by decide +kernel)) (hts (.code objectInit ⟨#[0xb1]⟩ 1 none) (by decide +kernel)) rfl (by rw [hml]; exact hl.1) rfl dX1_init_1 (Nat.le_of_ble_eq_true rfl) (Nat.le_of_ble_eq_true rfl) ?_
  refine W.eq (g2 := F0 m 4 ls []) rfl ?_
  refine lv_aload_n hx hb dX1_init_4 rfl (lv_at hl 0 rfl) ?_
  refine lv_iload_n hx hb dX1_init_5 rfl (lv_at hl 1 rfl) ?_
  refine va_putF (D := G.1) (ci := 0) (v := .int (nI 4)) (ty := .int) (C := RX0) (T := TX0) (N := 6) hx hb hts hinX0 tyX0 tyX0_ok nmX0 hown hK hP hD hS 0 rfl rfl 1 (by decide) (hts (.fieldLink RX1 7 "CipherBox$BlockCipher" "shift" "I") (by decide +kernel)) (fun _ h9 => h9) rfl hnm rfl (by decide +kernel) rfl rfl (Nat.le_of_ble_eq_true rfl) dX1_init_6 (fun H locs hP hD hS => ?_)
  have hP : va_P G.1 vwCl [(h, .inr (0, [.null, .int (nI 4), .null, .null, .null, .int (nI 0)]))] H := hP
  have hD : va_D A [(h, .inr (0, [.null, .int (nI 4), .null, .null, .null, .int (nI 0)]))] := hD
  refine lv_aload_n hx hb dX1_init_9 rfl (lv_at hl 0 rfl) ?_
  refine lv_iconst (v := nI 1) hx hb dX1_init_10 (by decide) ?_
  refine lv_iload_n hx hb dX1_init_11 rfl (lv_at hl 1 rfl) ?_
  refine lv_bipush (v := nI 7) hx hb dX1_init_12 (by decide) ?_
  refine w_iandN 3 hx hb (by omega) (by decide) rfl dX1_init_14 ?_
  refine w_ishlN hx hb (by decide) (by decide) dX1_init_15 ?_
  refine w_top (nI 16) (by decide) ?_
  refine w_newI 16 hx hb (hts (.arrayClass .int) (by decide +kernel)) hK hP hD hS hA (by decide) (by decide) (by decide) dX1_init_16 (fun q1 H hP hD hS => ?_)
  have hP : va_P G.1 vwCl [(h, .inr (0, [.null, .int (nI 4), .null, .null, .null, .int (nI 0)])), (q1, .inl (G.2.1, 16, .inl (fun _ => 0)))] H := hP
  have hD : va_D A [(h, .inr (0, [.null, .int (nI 4), .null, .null, .null, .int (nI 0)])), (q1, .inl (G.2.1, 16, .inl (fun _ => 0)))] := hD
  refine W.widen (k := 1) (n := 16) (by decide) (by decide) ?_
  refine va_putF (D := G.1) (ci := 0) (v := .ref q1) (ty := .array .int) (C := RX0) (T := TX0) (N := 6) hx hb hts hinX0 tyX0 tyX0_ok nmX0 hown hK hP hD hS 0 rfl rfl 0 (by decide) (hts (.fieldLink RX1 13 "CipherBox$BlockCipher" "block" "[I") (by decide +kernel)) (fun _ h9 => h9) rfl hnm rfl (by decide +kernel) rfl rfl (Nat.le_of_ble_eq_true rfl) dX1_init_18 (fun H locs hP hD hS => ?_)
  have hP : va_P G.1 vwCl [(h, .inr (0, [.ref q1, .int (nI 4), .null, .null, .null, .int (nI 0)])), (q1, .inl (G.2.1, 16, .inl (fun _ => 0)))] H := hP
  have hD : va_D A [(h, .inr (0, [.ref q1, .int (nI 4), .null, .null, .null, .int (nI 0)])), (q1, .inl (G.2.1, 16, .inl (fun _ => 0)))] := hD
  refine W.widen (k := 1) (n := 16) (by decide) (by decide) ?_
  exact hret q1 H _ 21 ls dX1_init_21 (trivial) (hP.sub [0, 1] rfl) (hD.sub [0, 1] (by decide) rfl) hS

set_option maxHeartbeats 4000000 in
set_option maxRecDepth 100000 in
theorem c_Des_init (l : Launch) (G : wG) (h dx : Nat) (fx : Nat → Int32)  : CMv l G yX3_init wsX3_init 1 12 1 128 [.ref h, .ref dx] [(h, .inr (2, [.null, .null])), (dx, .inl (G.2.1, 512, .inl fx))] (fun (u : Nat) => True) (fun b => [(h, .inr (2, [.ref dx, .ref b])), (dx, .inl (G.2.1, 512, .inl fx)), (b, .inl (G.2.1, 128, .inl (fun _ => 0)))]) := by
  refine CMv.start cX3_init 2 (by decide) rfl (Nat.le_of_ble_eq_true rfl) ?_
  intro p e s m below meth c A Q ls H locs hx hb hml hown hnm hts hK hT hA hP hD hS hl hret
  have hinX3 : ∀ w ∈ u_ws RX3 TX3 2, w ∈ wsX3_init := by decide +kernel
  have hl : lv_has ls 2 [(0, .ref h), (1, .ref dx)] := hl
  refine lv_aload_n hx hb dX3_init_0 rfl (lv_at hl 0 rfl) ?_
  refine W.objInit hx hb hown (hts (.methodLink RX3 1 objectInit) (by decide +kernel)) (hts (.instanceMethod objectInit) (by decide +kernel)) (hts (.code objectInit ⟨#[0xb1]⟩ 1 none) (by decide +kernel)) rfl (by rw [hml]; exact hl.1) rfl dX3_init_1 (Nat.le_of_ble_eq_true rfl) (Nat.le_of_ble_eq_true rfl) ?_
  refine W.eq (g2 := F0 m 4 ls []) rfl ?_
  refine lv_aload_n hx hb dX3_init_4 rfl (lv_at hl 0 rfl) ?_
  refine lv_sipush (v := nI 128) hx hb dX3_init_5 (by decide) ?_
  refine w_newI 128 hx hb (hts (.arrayClass .int) (by decide +kernel)) hK hP hD hS hA (by decide) (by decide) (by decide) dX3_init_8 (fun q1 H hP hD hS => ?_)
  have hP : va_P G.1 vwCl [(h, .inr (2, [.null, .null])), (dx, .inl (G.2.1, 512, .inl fx)), (q1, .inl (G.2.1, 128, .inl (fun _ => 0)))] H := hP
  have hD : va_D A [(h, .inr (2, [.null, .null])), (dx, .inl (G.2.1, 512, .inl fx)), (q1, .inl (G.2.1, 128, .inl (fun _ => 0)))] := hD
  refine W.widen (k := 1) (n := 128) (by decide) (by decide) ?_
  refine va_putF (D := G.1) (ci := 2) (v := .ref q1) (ty := .array .int) (C := RX3) (T := TX3) (N := 2) hx hb hts hinX3 tyX3 tyX3_ok nmX3 hown hK hP hD hS 0 rfl rfl 1 (by decide) (hts (.fieldLink RX3 9 "CipherBox$Des" "roundKeys" "[I") (by decide +kernel)) (fun _ h9 => h9) rfl hnm rfl (by decide +kernel) rfl rfl (Nat.le_of_ble_eq_true rfl) dX3_init_10 (fun H locs hP hD hS => ?_)
  have hP : va_P G.1 vwCl [(h, .inr (2, [.null, .ref q1])), (dx, .inl (G.2.1, 512, .inl fx)), (q1, .inl (G.2.1, 128, .inl (fun _ => 0)))] H := hP
  have hD : va_D A [(h, .inr (2, [.null, .ref q1])), (dx, .inl (G.2.1, 512, .inl fx)), (q1, .inl (G.2.1, 128, .inl (fun _ => 0)))] := hD
  refine lv_aload_n hx hb dX3_init_13 rfl (lv_at hl 0 rfl) ?_
  refine lv_aload_n hx hb dX3_init_14 rfl (lv_at hl 1 rfl) ?_
  refine va_putF (D := G.1) (ci := 2) (v := .ref dx) (ty := .array .int) (C := RX3) (T := TX3) (N := 2) hx hb hts hinX3 tyX3 tyX3_ok nmX3 hown hK hP hD hS 0 rfl rfl 0 (by decide) (hts (.fieldLink RX3 13 "CipherBox$Des" "boxes" "[I") (by decide +kernel)) (fun _ h9 => h9) rfl hnm rfl (by decide +kernel) rfl rfl (Nat.le_of_ble_eq_true rfl) dX3_init_15 (fun H locs hP hD hS => ?_)
  have hP : va_P G.1 vwCl [(h, .inr (2, [.ref dx, .ref q1])), (dx, .inl (G.2.1, 512, .inl fx)), (q1, .inl (G.2.1, 128, .inl (fun _ => 0)))] H := hP
  have hD : va_D A [(h, .inr (2, [.ref dx, .ref q1])), (dx, .inl (G.2.1, 512, .inl fx)), (q1, .inl (G.2.1, 128, .inl (fun _ => 0)))] := hD
  refine W.widen (k := 1) (n := 128) (by decide) (by decide) ?_
  exact hret q1 H _ 18 ls dX3_init_18 (trivial) (hP.sub [0, 1, 2] rfl) (hD.sub [0, 1, 2] (by decide) rfl) hS

set_option maxHeartbeats 4000000 in
set_option maxRecDepth 100000 in
theorem c_Des_makeBoxes (l : Launch) (G : wG)   : CMr l G yX3_makeBoxes wsX3_makeBoxes 0 0 2 544 [] [] (fun (_ : Unit) => True) (fun _ ra => [(ra, .inl (G.2.1, 512, .inl mbI))]) := by
  refine CMr.start cX3_makeBoxes 8 (.array .int) (by decide) (Or.inr ⟨_, rfl⟩) rfl (Nat.le_of_ble_eq_true rfl) ?_
  intro p e s m below meth c A Q ls H locs hx hb hml hown hts hK hT hA hP hD hS hl hret
  have hl : lv_has ls 8 [] := hl
  refine lv_bipush (v := nI 32) hx hb dX3_makeBoxes_0 (by decide) ?_
  refine w_newI 32 hx hb (hts (.arrayClass .int) (by decide +kernel)) hK hP hD hS hA (by decide) (by decide) (by decide) dX3_makeBoxes_2 (fun q1 H hP hD hS => ?_)
  have hP : va_P G.1 vwCl [(q1, .inl (G.2.1, 32, .inl (fun _ => 0)))] H := hP
  have hD : va_D A [(q1, .inl (G.2.1, 32, .inl (fun _ => 0)))] := hD
  refine W.widen (k := 1) (n := 32) (by decide) (by decide) ?_
  refine lv_astore_n (lv' := [(0, .ref q1)]) hx hb dX3_makeBoxes_4 rfl hl (by decide) rfl (fun ls hl => ?_)
  refine lv_iconst (v := nI 0) hx hb dX3_makeBoxes_5 (by decide) ?_
  refine lv_istore_n (lv' := [(1, .int (nI 0)), (0, .ref q1)]) hx hb dX3_makeBoxes_6 rfl hl (by decide) rfl (fun ls hl => ?_)
  refine w_loop (ι := Nat) (fun k => 32 - k) (fun k => k ≤ 32) (fun k => [(q1, .inl (G.2.1, 32, .inl (glR k)))]) (fun k => [(1, .int (nI k)), (0, .ref q1)]) 0 (Nat.zero_le _) hP hD hS hl ?_
  intro k H locs ls hk hP hD hS hl ih
  have hk : k ≤ 32 := hk
  have hP : va_P G.1 vwCl [(q1, .inl (G.2.1, 32, .inl (glR k)))] H := hP
  have hD : va_D A [(q1, .inl (G.2.1, 32, .inl (glR k)))] := hD
  have hl : lv_has ls 8 [(1, .int (nI k)), (0, .ref q1)] := hl
  refine lv_iload_n hx hb dX3_makeBoxes_7 rfl (lv_at hl 0 rfl) ?_
  refine lv_bipush (v := nI 32) hx hb dX3_makeBoxes_8 (by decide) ?_
  refine w_icmpN_ge (tgt := 35) hx hb (by omega) (by omega) dX3_makeBoxes_10 (by decide) (fun h3 => ?_) (fun h3 => ?_)
  · obtain rfl : 32 = k := Eq.symm (show k = 32 from by omega)
    refine lv_sipush (v := nI 512) hx hb dX3_makeBoxes_35 (by decide) ?_
    refine w_newI 512 hx hb (hts (.arrayClass .int) (by decide +kernel)) hK hP hD hS hA (by decide) (by decide) (by decide) dX3_makeBoxes_38 (fun q4 H hP hD hS => ?_)
    have hP : va_P G.1 vwCl [(q1, .inl (G.2.1, 32, .inl (glR 32))), (q4, .inl (G.2.1, 512, .inl (fun _ => 0)))] H := hP
    have hD : va_D A [(q1, .inl (G.2.1, 32, .inl (glR 32))), (q4, .inl (G.2.1, 512, .inl (fun _ => 0)))] := hD
    refine W.widen (k := 2) (n := 544) (by decide) (by decide) ?_
    refine lv_astore_n (lv' := [(1, .ref q4), (0, .ref q1)]) hx hb dX3_makeBoxes_40 rfl hl (by decide) rfl (fun ls hl => ?_)
    refine lv_iconst (v := nI 0) hx hb dX3_makeBoxes_41 (by decide) ?_
    refine lv_istore_n (lv' := [(2, .int (nI 0)), (1, .ref q4), (0, .ref q1)]) hx hb dX3_makeBoxes_42 rfl hl (by decide) rfl (fun ls hl => ?_)
    refine w_loop (ι := Nat) (fun i => 512 - i) (fun i => i ≤ 512) (fun i => [(q1, .inl (G.2.1, 32, .inl (glR 32))), (q4, .inl (G.2.1, 512, .inl (fl i mbI (fun _ => 0))))]) (fun i => [(2, .int (nI i)), (1, .ref q4), (0, .ref q1)]) 0 (Nat.zero_le _) (by simp only [fl_0]; exact hP) (by simp only [fl_0]; exact hD) hS hl ?_
    intro i H locs ls hi hP hD hS hl ihi
    have hi : i ≤ 512 := hi
    have hP : va_P G.1 vwCl [(q1, .inl (G.2.1, 32, .inl (glR 32))), (q4, .inl (G.2.1, 512, .inl (fl i mbI (fun _ => 0))))] H := hP
    have hD : va_D A [(q1, .inl (G.2.1, 32, .inl (glR 32))), (q4, .inl (G.2.1, 512, .inl (fl i mbI (fun _ => 0))))] := hD
    have hl : lv_has ls 8 [(2, .int (nI i)), (1, .ref q4), (0, .ref q1)] := hl
    refine lv_iload_n hx hb dX3_makeBoxes_43 rfl (lv_at hl 0 rfl) ?_
    refine lv_aload_n hx hb dX3_makeBoxes_44 rfl (lv_at hl 1 rfl) ?_
    refine w_alenI hx hb hK hP 1 rfl dX3_makeBoxes_45 ?_
    refine w_icmpN_ge (tgt := 137) hx hb (by omega) (by omega) dX3_makeBoxes_46 (by decide) (fun h6 => ?_) (fun h6 => ?_)
    · obtain rfl : 512 = i := Eq.symm (show i = 512 from by omega)
      refine lv_aload_n hx hb dX3_makeBoxes_137 rfl (lv_at hl 1 rfl) ?_
      have hP := w_ext (fl 512 mbI (fun _ => 0)) (mbI) 1 hP rfl (fun j hj => fl_in hj)
      have hD := hD.set (p := 1) (e := .inl (G.2.1, 512, .inl mbI)) rfl
      have hP : va_P G.1 vwCl [(q1, .inl (G.2.1, 32, .inl (glR 32))), (q4, .inl (G.2.1, 512, .inl mbI))] H := hP
      have hD : va_D A [(q1, .inl (G.2.1, 32, .inl (glR 32))), (q4, .inl (G.2.1, 512, .inl mbI))] := hD
      refine W.widen (k := 2) (n := 544) (by decide) (by decide) ?_
      exact hret () q4 H _ 138 ls dX3_makeBoxes_138 (trivial) (hP.sub [1] rfl) (hD.sub [1] (by decide) rfl) hS
    · have hmx := mbX_lt h6
      have h7 := tb7_l9 (mbX i) hmx
      refine lv_iload_n hx hb dX3_makeBoxes_49 rfl (lv_at hl 0 rfl) ?_
      refine lv_bipush (v := nI 6) hx hb dX3_makeBoxes_50 (by decide) ?_
      refine w_ishrN hx hb (by omega) (by omega) dX3_makeBoxes_52 ?_
      refine lv_istore_n (lv' := [(3, .int (nI (i / 2 ^ 6))), (2, .int (nI i)), (1, .ref q4), (0, .ref q1)]) hx hb dX3_makeBoxes_53 rfl hl (by decide) rfl (fun ls hl => ?_)
      refine lv_iload_n hx hb dX3_makeBoxes_54 rfl (lv_at hl 1 rfl) ?_
      refine lv_iconst (v := nI 4) hx hb dX3_makeBoxes_55 (by decide) ?_
      refine w_ishrN hx hb (by omega) (by omega) dX3_makeBoxes_56 ?_
      refine lv_iconst (v := nI 2) hx hb dX3_makeBoxes_57 (by decide) ?_
      refine lv_iand hx hb dX3_makeBoxes_58 ?_
      refine lv_iload_n hx hb dX3_makeBoxes_59 rfl (lv_at hl 1 rfl) ?_
      refine lv_iconst (v := nI 1) hx hb dX3_makeBoxes_60 (by decide) ?_
      refine w_iandN 1 hx hb (by omega) (by decide) rfl dX3_makeBoxes_61 ?_
      refine lv_ior hx hb dX3_makeBoxes_62 ?_
      refine w_top (nI (2 * (i / 2 ^ 5 % 2) + i % 2)) (mb_row i (by assumption)) ?_
      refine lv_istore (lv' := [(4, .int (nI (2 * (i / 2 ^ 5 % 2) + i % 2))), (3, .int (nI (i / 2 ^ 6))), (2, .int (nI i)), (1, .ref q4), (0, .ref q1)]) hx hb dX3_makeBoxes_63 hl (by decide) rfl (fun ls hl => ?_)
      refine lv_iload_n hx hb dX3_makeBoxes_65 rfl (lv_at hl 2 rfl) ?_
      refine lv_iconst (v := nI 1) hx hb dX3_makeBoxes_66 (by decide) ?_
      refine w_ishrN hx hb (by omega) (by omega) dX3_makeBoxes_67 ?_
      refine lv_bipush (v := nI 15) hx hb dX3_makeBoxes_68 (by decide) ?_
      refine w_iandN 4 hx hb (by omega) (by decide) rfl dX3_makeBoxes_70 ?_
      refine lv_istore (lv' := [(5, .int (nI ((i / 2 ^ 1) % 2 ^ 4))), (4, .int (nI (2 * (i / 2 ^ 5 % 2) + i % 2))), (3, .int (nI (i / 2 ^ 6))), (2, .int (nI i)), (1, .ref q4), (0, .ref q1)]) hx hb dX3_makeBoxes_71 hl (by decide) rfl (fun ls hl => ?_)
      refine w_gets hx hb hT hS 7 (by decide) hown (hts (.fieldLink RX3 19 "CipherBox$Des" "SELECTIONS" "[I") (by decide +kernel)) dX3_makeBoxes_73 ?_
      refine lv_iload_n hx hb dX3_makeBoxes_76 rfl (lv_at hl 2 rfl) ?_
      refine lv_bipush (v := nI 64) hx hb dX3_makeBoxes_77 (by decide) ?_
      refine w_imulN hx hb dX3_makeBoxes_79 ?_
      refine lv_iload hx hb dX3_makeBoxes_80 (lv_at hl 1 rfl) ?_
      refine lv_bipush (v := nI 16) hx hb dX3_makeBoxes_82 (by decide) ?_
      refine w_imulN hx hb dX3_makeBoxes_84 ?_
      refine w_iaddN hx hb dX3_makeBoxes_85 ?_
      refine lv_iload hx hb dX3_makeBoxes_86 (lv_at hl 0 rfl) ?_
      refine w_iaddN hx hb dX3_makeBoxes_88 ?_
      refine w_top (nI (mbX i)) (rfl) ?_
      refine w_ti hx hb hT hS (by decide) (by rw [tb_7]; exact hmx) dX3_makeBoxes_89 ?_
      refine lv_istore (lv' := [(6, .int (nI (tbV 7 (mbX i)))), (5, .int (nI ((i / 2 ^ 1) % 2 ^ 4))), (4, .int (nI (2 * (i / 2 ^ 5 % 2) + i % 2))), (3, .int (nI (i / 2 ^ 6))), (2, .int (nI i)), (1, .ref q4), (0, .ref q1)]) hx hb dX3_makeBoxes_90 hl (by decide) rfl (fun ls hl => ?_)
      refine lv_iconst (v := nI 0) hx hb dX3_makeBoxes_92 (by decide) ?_
      refine lv_istore (lv' := [(7, .int (nI 0)), (6, .int (nI (tbV 7 (mbX i)))), (5, .int (nI ((i / 2 ^ 1) % 2 ^ 4))), (4, .int (nI (2 * (i / 2 ^ 5 % 2) + i % 2))), (3, .int (nI (i / 2 ^ 6))), (2, .int (nI i)), (1, .ref q4), (0, .ref q1)]) hx hb dX3_makeBoxes_93 hl (by decide) rfl (fun ls hl => ?_)
      refine w_loop (ι := Nat) (fun t => 4 - t) (fun t => t ≤ 4) (fun t => [(q1, .inl (G.2.1, 32, .inl (glR 32))), (q4, .inl (G.2.1, 512, .inl (upd (fl i mbI (fun _ => 0)) i (mbB i t))))]) (fun t => [(7, .int (nI t)), (6, .int (nI (tbV 7 (mbX i)))), (5, .int (nI ((i / 2 ^ 1) % 2 ^ 4))), (4, .int (nI (2 * (i / 2 ^ 5 % 2) + i % 2))), (3, .int (nI (i / 2 ^ 6))), (2, .int (nI i)), (1, .ref q4), (0, .ref q1)]) 0 (Nat.zero_le _) (by rw [mb_0]; exact hP) (by rw [mb_0]; exact hD) hS hl ?_
      intro t H locs ls hk hP hD hS hl ih
      have hk : t ≤ 4 := hk
      have hP : va_P G.1 vwCl [(q1, .inl (G.2.1, 32, .inl (glR 32))), (q4, .inl (G.2.1, 512, .inl (upd (fl i mbI (fun _ => 0)) i (mbB i t))))] H := hP
      have hD : va_D A [(q1, .inl (G.2.1, 32, .inl (glR 32))), (q4, .inl (G.2.1, 512, .inl (upd (fl i mbI (fun _ => 0)) i (mbB i t))))] := hD
      have hl : lv_has ls 8 [(7, .int (nI t)), (6, .int (nI (tbV 7 (mbX i)))), (5, .int (nI ((i / 2 ^ 1) % 2 ^ 4))), (4, .int (nI (2 * (i / 2 ^ 5 % 2) + i % 2))), (3, .int (nI (i / 2 ^ 6))), (2, .int (nI i)), (1, .ref q4), (0, .ref q1)] := hl
      refine lv_iload hx hb dX3_makeBoxes_95 (lv_at hl 0 rfl) ?_
      refine lv_iconst (v := nI 4) hx hb dX3_makeBoxes_97 (by decide) ?_
      refine w_icmpN_ge (tgt := 131) hx hb (by omega) (by omega) dX3_makeBoxes_98 (by decide) (fun h7 => ?_) (fun h7 => ?_)
      · obtain rfl : 4 = t := Eq.symm (show t = 4 from by omega)
        have hP : va_P G.1 vwCl [(q1, .inl (G.2.1, 32, .inl (glR 32))), (q4, .inl (G.2.1, 512, .inl (fl (i + 1) mbI (fun _ => 0))))] H := by have h9 := hP; rw [fl_s (show mbB i 4 = mbI i from rfl)] at h9; exact h9
        have hD : va_D A [(q1, .inl (G.2.1, 32, .inl (glR 32))), (q4, .inl (G.2.1, 512, .inl (fl (i + 1) mbI (fun _ => 0))))] := by have h9 := hD; rw [fl_s (show mbB i 4 = mbI i from rfl)] at h9; exact h9
        refine lv_iinc (v := nI (i + 1)) (lv' := [(2, .int (nI (i + 1))), (7, .int (nI 4)), (6, .int (nI (tbV 7 (mbX i)))), (5, .int (nI ((i / 2 ^ 1) % 2 ^ 4))), (4, .int (nI (2 * (i / 2 ^ 5 % 2) + i % 2))), (3, .int (nI (i / 2 ^ 6))), (1, .ref q4), (0, .ref q1)]) hx hb dX3_makeBoxes_131 hl (k := 5) rfl (nI_add i 1) (by decide) rfl (fun ls hl => ?_)
        refine lv_goto (tgt := 43) hx hb dX3_makeBoxes_134 (by decide) ?_
        exact ihi (i + 1) H _ _ (by omega) (by omega) hP hD hS (lv_sub hl [0, 6, 7] rfl)
      · refine lv_aload_n hx hb dX3_makeBoxes_101 rfl (lv_at hl 6 rfl) ?_
        refine lv_iload_n hx hb dX3_makeBoxes_102 rfl (lv_at hl 5 rfl) ?_
        refine lv_dup2_11 hx hb dX3_makeBoxes_103 rfl rfl ?_
        refine w_iald hx hb hK hP 1 rfl (by omega) (by omega) dX3_makeBoxes_104 ?_
        refine lv_iload hx hb dX3_makeBoxes_105 (lv_at hl 1 rfl) ?_
        refine lv_iconst (v := nI 3) hx hb dX3_makeBoxes_107 (by decide) ?_
        refine lv_iload hx hb dX3_makeBoxes_108 (lv_at hl 0 rfl) ?_
        refine w_isubN hx hb (by omega) dX3_makeBoxes_110 ?_
        refine w_ishrN hx hb (by omega) (by omega) dX3_makeBoxes_111 ?_
        refine lv_iconst (v := nI 1) hx hb dX3_makeBoxes_112 (by decide) ?_
        refine w_iandN 1 hx hb (Nat.lt_of_le_of_lt (Nat.div_le_self _ _) (by omega)) (by decide) rfl dX3_makeBoxes_113 ?_
        refine lv_aload_n hx hb dX3_makeBoxes_114 rfl (lv_at hl 7 rfl) ?_
        refine lv_iload_n hx hb dX3_makeBoxes_115 rfl (lv_at hl 4 rfl) ?_
        refine lv_iconst (v := nI 4) hx hb dX3_makeBoxes_116 (by decide) ?_
        refine w_imulN hx hb dX3_makeBoxes_117 ?_
        refine lv_iload hx hb dX3_makeBoxes_118 (lv_at hl 0 rfl) ?_
        refine w_iaddN hx hb dX3_makeBoxes_120 ?_
        refine w_iald hx hb hK hP 0 rfl (by omega) (by omega) dX3_makeBoxes_121 ?_
        refine lv_ishl hx hb dX3_makeBoxes_122 ?_
        refine lv_ior hx hb dX3_makeBoxes_123 ?_
        refine w_iast hx hb hK hP hD hS 1 rfl (by omega) (by omega) (upd (fl i mbI (fun _ => 0)) i (mbB i (t + 1))) (by rw [upd_upd, upd_at]; rfl) dX3_makeBoxes_124 (fun H locs hP hD hS => ?_)
        have hP : va_P G.1 vwCl [(q1, .inl (G.2.1, 32, .inl (glR 32))), (q4, .inl (G.2.1, 512, .inl (upd (fl i mbI (fun _ => 0)) i (mbB i (t + 1)))))] H := hP
        have hD : va_D A [(q1, .inl (G.2.1, 32, .inl (glR 32))), (q4, .inl (G.2.1, 512, .inl (upd (fl i mbI (fun _ => 0)) i (mbB i (t + 1)))))] := hD
        refine lv_iinc (v := nI (t + 1)) (lv' := [(7, .int (nI (t + 1))), (6, .int (nI (tbV 7 (mbX i)))), (5, .int (nI ((i / 2 ^ 1) % 2 ^ 4))), (4, .int (nI (2 * (i / 2 ^ 5 % 2) + i % 2))), (3, .int (nI (i / 2 ^ 6))), (2, .int (nI i)), (1, .ref q4), (0, .ref q1)]) hx hb dX3_makeBoxes_125 hl (k := 0) rfl (nI_add t 1) (by decide) rfl (fun ls hl => ?_)
        refine lv_goto (tgt := 95) hx hb dX3_makeBoxes_128 (by decide) ?_
        exact ih (t + 1) H _ _ (by omega) (by omega) hP hD hS (lv_sub hl [0, 1, 2, 3, 4, 5, 6, 7] rfl)
  · have hp := tb6_i9 k h3
    refine lv_aload_n hx hb dX3_makeBoxes_13 rfl (lv_at hl 1 rfl) ?_
    refine w_gets hx hb hT hS 6 (by decide) hown (hts (.fieldLink RX3 16 "CipherBox$Des" "PERMUTATION" "[I") (by decide +kernel)) dX3_makeBoxes_14 ?_
    refine lv_iload_n hx hb dX3_makeBoxes_17 rfl (lv_at hl 0 rfl) ?_
    refine w_ti hx hb hT hS (by decide) (by rw [tb_6]; omega) dX3_makeBoxes_18 ?_
    refine lv_iconst (v := nI 1) hx hb dX3_makeBoxes_19 (by decide) ?_
    refine w_isubN hx hb (by omega) dX3_makeBoxes_20 ?_
    refine lv_bipush (v := nI 31) hx hb dX3_makeBoxes_21 (by decide) ?_
    refine w_iandN 5 hx hb (by omega) (by decide) rfl dX3_makeBoxes_23 ?_
    refine lv_bipush (v := nI 31) hx hb dX3_makeBoxes_24 (by decide) ?_
    refine lv_iload_n hx hb dX3_makeBoxes_26 rfl (lv_at hl 0 rfl) ?_
    refine w_isubN hx hb (by omega) dX3_makeBoxes_27 ?_
    refine w_iast hx hb hK hP hD hS 0 rfl (by omega) (by omega) (glR (k + 1)) (rfl) dX3_makeBoxes_28 (fun H locs hP hD hS => ?_)
    have hP : va_P G.1 vwCl [(q1, .inl (G.2.1, 32, .inl (glR (k + 1))))] H := hP
    have hD : va_D A [(q1, .inl (G.2.1, 32, .inl (glR (k + 1))))] := hD
    refine lv_iinc (v := nI (k + 1)) (lv' := [(1, .int (nI (k + 1))), (0, .ref q1)]) hx hb dX3_makeBoxes_29 hl (k := 0) rfl (nI_add k 1) (by decide) rfl (fun ls hl => ?_)
    refine lv_goto (tgt := 7) hx hb dX3_makeBoxes_32 (by decide) ?_
    exact ih (k + 1) H _ _ (by omega) (by omega) hP hD hS (lv_sub hl [0, 1] rfl)

set_option maxHeartbeats 4000000 in
set_option maxRecDepth 100000 in
theorem c_Des3_init (l : Launch) (G : wG) (h : Nat)  : CMv l G yX4_init wsX4_init 2 33 7 1000 [.ref h] [(h, .inr (3, [.null, .int (nI 0), .null, .null]))] (fun (u : Nat × Nat × Nat × Nat × Nat × Nat) => True) (fun u => match u with | (bb, d1, d2, dx, k1, k2) => [(h, .inr (3, [.ref bb, .int (nI 3), .ref d1, .ref d2])), (bb, .inl (G.2.1, 8, .inl (fun _ => 0))), (d1, .inr (2, [.ref dx, .ref k1])), (d2, .inr (2, [.ref dx, .ref k2])), (dx, .inl (G.2.1, 512, .inl mbI)), (k1, .inl (G.2.1, 128, .inl (fun _ => 0))), (k2, .inl (G.2.1, 128, .inl (fun _ => 0)))]) := by
  refine CMv.start cX4_init 2 (by decide) rfl (Nat.le_of_ble_eq_true rfl) ?_
  intro p e s m below meth c A Q ls H locs hx hb hml hown hnm hts hK hT hA hP hD hS hl hret
  have hinX3 : ∀ w ∈ u_ws RX3 TX3 2, w ∈ wsX4_init := by decide +kernel
  have hinX4 : ∀ w ∈ u_ws RX4 TX4 4, w ∈ wsX4_init := by decide +kernel
  have hl : lv_has ls 2 [(0, .ref h)] := hl
  refine lv_aload_n hx hb dX4_init_0 rfl (lv_at hl 0 rfl) ?_
  refine lv_iconst (v := nI 3) hx hb dX4_init_1 (by decide) ?_
  refine w_finv (wr := []) (va_runI (As := [.int (nI 3)]) (rest := []) ⟨hx, hb, hml, hown, hts⟩ (c_Block_initDes3 l G h H.size) (cwI 1 hts gX4_init_X1_init rfl rfl rfl (hts (.initialized RX1) (by decide +kernel)) (hts (.methodLink RX4 1 yX1_init) (by decide +kernel)) (hts (.instanceMethod yX1_init) (by decide +kernel)) rfl (by decide +kernel) ⟨Nat.le_of_ble_eq_true rfl, Nat.le_of_ble_eq_true rfl⟩) ⟨wPre.blind, (fun U hU hW => ⟨rfl, w_pre hK hT hA hP hD hS (isC := [0]) (by decide) rfl U hU hW⟩)⟩ rfl rfl hl.1 rfl (lv_room (Nat.le_of_ble_eq_true rfl)) dX4_init_2 ⟨Nat.le_of_ble_eq_true rfl, Nat.le_of_ble_eq_true rfl⟩) hA hP hD hS [0] [] rfl rfl (by decide) (by decide) (fun u H locs hpost hP hD hS => ?_)
  obtain ⟨bb, rfl⟩ : ∃ z, z = u := ⟨_, rfl⟩
  try dsimp only at hpost hP hD
  have hP : va_P G.1 vwCl [(h, .inr (3, [.ref bb, .int (nI 3), .null, .null])), (bb, .inl (G.2.1, 8, .inl (fun _ => 0)))] H := hP
  have hD : va_D A [(h, .inr (3, [.ref bb, .int (nI 3), .null, .null])), (bb, .inl (G.2.1, 8, .inl (fun _ => 0)))] := hD
  refine W.widen (k := 1) (n := 8) (by decide) (by decide) ?_
  refine w_finr (wr := [(h, .inr (3, [.ref bb, .int (nI 3), .null, .null])), (bb, .inl (G.2.1, 8, .inl (fun _ => 0)))]) (va_runS (As := []) (rest := []) ⟨hx, hb, hml, hown, hts⟩ (c_Des_makeBoxes l G  H.size) (va_cwS 0 hts gX4_init_X3_makeBoxes rfl rfl rfl (by decide +kernel) ⟨Nat.le_of_ble_eq_true rfl, Nat.le_of_ble_eq_true rfl⟩) ⟨wPre.blind, (fun U hU hW => ⟨rfl, w_pre hK hT hA hP hD hS (isC := []) (by decide) rfl U hU hW⟩)⟩ rfl rfl hl.1 rfl (lv_room (Nat.le_of_ble_eq_true rfl)) dX4_init_5 ⟨Nat.le_of_ble_eq_true rfl, Nat.le_of_ble_eq_true rfl⟩) hA hP hD hS [] [0, 1] rfl rfl (by decide) (by decide) (fun u dx H locs hpost hP hD hS => ?_)
  have hP : va_P G.1 vwCl [(h, .inr (3, [.ref bb, .int (nI 3), .null, .null])), (bb, .inl (G.2.1, 8, .inl (fun _ => 0))), (dx, .inl (G.2.1, 512, .inl mbI))] H := hP
  have hD : va_D A [(h, .inr (3, [.ref bb, .int (nI 3), .null, .null])), (bb, .inl (G.2.1, 8, .inl (fun _ => 0))), (dx, .inl (G.2.1, 512, .inl mbI))] := hD
  refine W.widen (k := 3) (n := 552) (by decide) (by decide) ?_
  refine lv_astore_n (lv' := [(1, .ref dx), (0, .ref h)]) hx hb dX4_init_8 rfl hl (by decide) rfl (fun ls hl => ?_)
  refine lv_aload_n hx hb dX4_init_9 rfl (lv_at hl 1 rfl) ?_
  refine va_new (ci := 2) (fs := [.null, .null]) (C := RX3) (T := TX3) (N := 2) hx hb hts hinX3 tyX3 tyX3_ok hown (hts (.classLink RX4 8 RX3) (by decide +kernel)) (hts (.instantiable RX3 2) (by decide +kernel)) (hts (.initialized RX3) (by decide +kernel)) hK hP hD hS hA rfl (by decide +kernel) (by decide) (by decide) dX4_init_10 (fun q1 H hP hD hS => ?_)
  have hP : va_P G.1 vwCl [(h, .inr (3, [.ref bb, .int (nI 3), .null, .null])), (bb, .inl (G.2.1, 8, .inl (fun _ => 0))), (dx, .inl (G.2.1, 512, .inl mbI)), (q1, .inr (2, [.null, .null]))] H := hP
  have hD : va_D A [(h, .inr (3, [.ref bb, .int (nI 3), .null, .null])), (bb, .inl (G.2.1, 8, .inl (fun _ => 0))), (dx, .inl (G.2.1, 512, .inl mbI)), (q1, .inr (2, [.null, .null]))] := hD
  refine W.widen (k := 4) (n := 554) (by decide) (by decide) ?_
  refine lv_dup hx hb dX4_init_13 rfl ?_
  refine lv_aload_n hx hb dX4_init_14 rfl (lv_at hl 0 rfl) ?_
  refine w_finv (wr := [(h, .inr (3, [.ref bb, .int (nI 3), .null, .null])), (bb, .inl (G.2.1, 8, .inl (fun _ => 0)))]) (va_runI (As := [.ref dx]) (rest := [.ref q1, .ref h]) ⟨hx, hb, hml, hown, hts⟩ (c_Des_init l G q1 dx mbI H.size) (cwI 1 hts gX4_init_X3_init rfl rfl rfl (hts (.initialized RX3) (by decide +kernel)) (hts (.methodLink RX4 13 yX3_init) (by decide +kernel)) (hts (.instanceMethod yX3_init) (by decide +kernel)) rfl (by decide +kernel) ⟨Nat.le_of_ble_eq_true rfl, Nat.le_of_ble_eq_true rfl⟩) ⟨wPre.blind, (fun U hU hW => ⟨rfl, w_pre hK hT hA hP hD hS (isC := [3, 2]) (by decide) rfl U hU hW⟩)⟩ rfl rfl hl.1 rfl (lv_room (Nat.le_of_ble_eq_true rfl)) dX4_init_15 ⟨Nat.le_of_ble_eq_true rfl, Nat.le_of_ble_eq_true rfl⟩) hA hP hD hS [3, 2] [0, 1] rfl rfl (by decide) (by decide) (fun u H locs hpost hP hD hS => ?_)
  obtain ⟨k1, rfl⟩ : ∃ z, z = u := ⟨_, rfl⟩
  try dsimp only at hpost hP hD
  have hP : va_P G.1 vwCl [(h, .inr (3, [.ref bb, .int (nI 3), .null, .null])), (bb, .inl (G.2.1, 8, .inl (fun _ => 0))), (q1, .inr (2, [.ref dx, .ref k1])), (dx, .inl (G.2.1, 512, .inl mbI)), (k1, .inl (G.2.1, 128, .inl (fun _ => 0)))] H := hP
  have hD : va_D A [(h, .inr (3, [.ref bb, .int (nI 3), .null, .null])), (bb, .inl (G.2.1, 8, .inl (fun _ => 0))), (q1, .inr (2, [.ref dx, .ref k1])), (dx, .inl (G.2.1, 512, .inl mbI)), (k1, .inl (G.2.1, 128, .inl (fun _ => 0)))] := hD
  refine W.widen (k := 5) (n := 682) (by decide) (by decide) ?_
  refine va_putF (D := G.1) (ci := 3) (v := .ref q1) (ty := .object "CipherBox$Des") (C := RX4) (T := TX4) (N := 4) hx hb hts hinX4 tyX4 tyX4_ok nmX4 hown hK hP hD hS 0 rfl rfl 2 (by decide) (hts (.fieldLink RX4 16 "CipherBox$Des3" "first" "LCipherBox$Des;") (by decide +kernel)) (fun _ h9 => h9) rfl hnm rfl (by decide +kernel) rfl rfl (Nat.le_of_ble_eq_true rfl) dX4_init_18 (fun H locs hP hD hS => ?_)
  have hP : va_P G.1 vwCl [(h, .inr (3, [.ref bb, .int (nI 3), .ref q1, .null])), (bb, .inl (G.2.1, 8, .inl (fun _ => 0))), (q1, .inr (2, [.ref dx, .ref k1])), (dx, .inl (G.2.1, 512, .inl mbI)), (k1, .inl (G.2.1, 128, .inl (fun _ => 0)))] H := hP
  have hD : va_D A [(h, .inr (3, [.ref bb, .int (nI 3), .ref q1, .null])), (bb, .inl (G.2.1, 8, .inl (fun _ => 0))), (q1, .inr (2, [.ref dx, .ref k1])), (dx, .inl (G.2.1, 512, .inl mbI)), (k1, .inl (G.2.1, 128, .inl (fun _ => 0)))] := hD
  refine lv_aload_n hx hb dX4_init_21 rfl (lv_at hl 1 rfl) ?_
  refine va_new (ci := 2) (fs := [.null, .null]) (C := RX3) (T := TX3) (N := 2) hx hb hts hinX3 tyX3 tyX3_ok hown (hts (.classLink RX4 8 RX3) (by decide +kernel)) (hts (.instantiable RX3 2) (by decide +kernel)) (hts (.initialized RX3) (by decide +kernel)) hK hP hD hS hA rfl (by decide +kernel) (by decide) (by decide) dX4_init_22 (fun q2 H hP hD hS => ?_)
  have hP : va_P G.1 vwCl [(h, .inr (3, [.ref bb, .int (nI 3), .ref q1, .null])), (bb, .inl (G.2.1, 8, .inl (fun _ => 0))), (q1, .inr (2, [.ref dx, .ref k1])), (dx, .inl (G.2.1, 512, .inl mbI)), (k1, .inl (G.2.1, 128, .inl (fun _ => 0))), (q2, .inr (2, [.null, .null]))] H := hP
  have hD : va_D A [(h, .inr (3, [.ref bb, .int (nI 3), .ref q1, .null])), (bb, .inl (G.2.1, 8, .inl (fun _ => 0))), (q1, .inr (2, [.ref dx, .ref k1])), (dx, .inl (G.2.1, 512, .inl mbI)), (k1, .inl (G.2.1, 128, .inl (fun _ => 0))), (q2, .inr (2, [.null, .null]))] := hD
  refine W.widen (k := 6) (n := 684) (by decide) (by decide) ?_
  refine lv_dup hx hb dX4_init_25 rfl ?_
  refine lv_aload_n hx hb dX4_init_26 rfl (lv_at hl 0 rfl) ?_
  refine w_finv (wr := [(h, .inr (3, [.ref bb, .int (nI 3), .ref q1, .null])), (bb, .inl (G.2.1, 8, .inl (fun _ => 0))), (q1, .inr (2, [.ref dx, .ref k1])), (k1, .inl (G.2.1, 128, .inl (fun _ => 0)))]) (va_runI (As := [.ref dx]) (rest := [.ref q2, .ref h]) ⟨hx, hb, hml, hown, hts⟩ (c_Des_init l G q2 dx mbI H.size) (cwI 1 hts gX4_init_X3_init rfl rfl rfl (hts (.initialized RX3) (by decide +kernel)) (hts (.methodLink RX4 13 yX3_init) (by decide +kernel)) (hts (.instanceMethod yX3_init) (by decide +kernel)) rfl (by decide +kernel) ⟨Nat.le_of_ble_eq_true rfl, Nat.le_of_ble_eq_true rfl⟩) ⟨wPre.blind, (fun U hU hW => ⟨rfl, w_pre hK hT hA hP hD hS (isC := [5, 3]) (by decide) rfl U hU hW⟩)⟩ rfl rfl hl.1 rfl (lv_room (Nat.le_of_ble_eq_true rfl)) dX4_init_27 ⟨Nat.le_of_ble_eq_true rfl, Nat.le_of_ble_eq_true rfl⟩) hA hP hD hS [5, 3] [0, 1, 2, 4] rfl rfl (by decide) (by decide) (fun u H locs hpost hP hD hS => ?_)
  obtain ⟨k2, rfl⟩ : ∃ z, z = u := ⟨_, rfl⟩
  try dsimp only at hpost hP hD
  have hP : va_P G.1 vwCl [(h, .inr (3, [.ref bb, .int (nI 3), .ref q1, .null])), (bb, .inl (G.2.1, 8, .inl (fun _ => 0))), (q1, .inr (2, [.ref dx, .ref k1])), (k1, .inl (G.2.1, 128, .inl (fun _ => 0))), (q2, .inr (2, [.ref dx, .ref k2])), (dx, .inl (G.2.1, 512, .inl mbI)), (k2, .inl (G.2.1, 128, .inl (fun _ => 0)))] H := hP
  have hD : va_D A [(h, .inr (3, [.ref bb, .int (nI 3), .ref q1, .null])), (bb, .inl (G.2.1, 8, .inl (fun _ => 0))), (q1, .inr (2, [.ref dx, .ref k1])), (k1, .inl (G.2.1, 128, .inl (fun _ => 0))), (q2, .inr (2, [.ref dx, .ref k2])), (dx, .inl (G.2.1, 512, .inl mbI)), (k2, .inl (G.2.1, 128, .inl (fun _ => 0)))] := hD
  refine W.widen (k := 7) (n := 812) (by decide) (by decide) ?_
  refine va_putF (D := G.1) (ci := 3) (v := .ref q2) (ty := .object "CipherBox$Des") (C := RX4) (T := TX4) (N := 4) hx hb hts hinX4 tyX4 tyX4_ok nmX4 hown hK hP hD hS 0 rfl rfl 3 (by decide) (hts (.fieldLink RX4 22 "CipherBox$Des3" "last" "LCipherBox$Des;") (by decide +kernel)) (fun _ h9 => h9) rfl hnm rfl (by decide +kernel) rfl rfl (Nat.le_of_ble_eq_true rfl) dX4_init_30 (fun H locs hP hD hS => ?_)
  have hP : va_P G.1 vwCl [(h, .inr (3, [.ref bb, .int (nI 3), .ref q1, .ref q2])), (bb, .inl (G.2.1, 8, .inl (fun _ => 0))), (q1, .inr (2, [.ref dx, .ref k1])), (k1, .inl (G.2.1, 128, .inl (fun _ => 0))), (q2, .inr (2, [.ref dx, .ref k2])), (dx, .inl (G.2.1, 512, .inl mbI)), (k2, .inl (G.2.1, 128, .inl (fun _ => 0)))] H := hP
  have hD : va_D A [(h, .inr (3, [.ref bb, .int (nI 3), .ref q1, .ref q2])), (bb, .inl (G.2.1, 8, .inl (fun _ => 0))), (q1, .inr (2, [.ref dx, .ref k1])), (k1, .inl (G.2.1, 128, .inl (fun _ => 0))), (q2, .inr (2, [.ref dx, .ref k2])), (dx, .inl (G.2.1, 512, .inl mbI)), (k2, .inl (G.2.1, 128, .inl (fun _ => 0)))] := hD
  refine W.widen (k := 7) (n := 1000) (by decide) (by decide) ?_
  exact hret ⟨bb, q1, q2, dx, k1, k2⟩ H _ 33 ls dX4_init_33 (trivial) (hP.sub [0, 1, 2, 4, 5, 3, 6] rfl) (hD.sub [0, 1, 2, 4, 5, 3, 6] (by decide) rfl) hS

set_option maxHeartbeats 4000000 in
set_option maxRecDepth 100000 in
theorem c_Aes_init (l : Launch) (G : wG) (h : Nat)  : CMv l G yX0_init wsX0_init 2 33 4 348 [.ref h] [(h, .inr (0, [.null, .int (nI 0), .null, .null, .null, .int (nI 0)]))] (fun (u : Nat × Nat × Nat × Nat) => True) (fun u => match u with | (ab, ao, ak, am) => [(h, .inr (0, [.ref ab, .int (nI 4), .ref ao, .ref ak, .ref am, .int (nI 0)])), (ab, .inl (G.2.1, 16, .inl (fun _ => 0))), (ao, .inl (G.2.1, 256, .inl (orR 256))), (ak, .inl (G.2.1, 60, .inl (fun _ => 0))), (am, .inl (G.2.1, 16, .inl (fun _ => 0)))]) := by
  refine CMv.start cX0_init 2 (by decide) rfl (Nat.le_of_ble_eq_true rfl) ?_
  intro p e s m below meth c A Q ls H locs hx hb hml hown hnm hts hK hT hA hP hD hS hl hret
  have hinX0 : ∀ w ∈ u_ws RX0 TX0 6, w ∈ wsX0_init := by decide +kernel
  have hl : lv_has ls 2 [(0, .ref h)] := hl
  refine lv_aload_n hx hb dX0_init_0 rfl (lv_at hl 0 rfl) ?_
  refine lv_iconst (v := nI 4) hx hb dX0_init_1 (by decide) ?_
  refine w_finv (wr := []) (va_runI (As := [.int (nI 4)]) (rest := []) ⟨hx, hb, hml, hown, hts⟩ (c_Block_initAes l G h H.size) (cwI 1 hts gX0_init_X1_init rfl rfl rfl (hts (.initialized RX1) (by decide +kernel)) (hts (.methodLink RX0 1 yX1_init) (by decide +kernel)) (hts (.instanceMethod yX1_init) (by decide +kernel)) rfl (by decide +kernel) ⟨Nat.le_of_ble_eq_true rfl, Nat.le_of_ble_eq_true rfl⟩) ⟨wPre.blind, (fun U hU hW => ⟨rfl, w_pre hK hT hA hP hD hS (isC := [0]) (by decide) rfl U hU hW⟩)⟩ rfl rfl hl.1 rfl (lv_room (Nat.le_of_ble_eq_true rfl)) dX0_init_2 ⟨Nat.le_of_ble_eq_true rfl, Nat.le_of_ble_eq_true rfl⟩) hA hP hD hS [0] [] rfl rfl (by decide) (by decide) (fun u H locs hpost hP hD hS => ?_)
  obtain ⟨ab, rfl⟩ : ∃ z, z = u := ⟨_, rfl⟩
  try dsimp only at hpost hP hD
  have hP : va_P G.1 vwCl [(h, .inr (0, [.ref ab, .int (nI 4), .null, .null, .null, .int (nI 0)])), (ab, .inl (G.2.1, 16, .inl (fun _ => 0)))] H := hP
  have hD : va_D A [(h, .inr (0, [.ref ab, .int (nI 4), .null, .null, .null, .int (nI 0)])), (ab, .inl (G.2.1, 16, .inl (fun _ => 0)))] := hD
  refine W.widen (k := 1) (n := 16) (by decide) (by decide) ?_
  refine lv_aload_n hx hb dX0_init_5 rfl (lv_at hl 0 rfl) ?_
  refine lv_sipush (v := nI 256) hx hb dX0_init_6 (by decide) ?_
  refine w_newI 256 hx hb (hts (.arrayClass .int) (by decide +kernel)) hK hP hD hS hA (by decide) (by decide) (by decide) dX0_init_9 (fun q1 H hP hD hS => ?_)
  have hP : va_P G.1 vwCl [(h, .inr (0, [.ref ab, .int (nI 4), .null, .null, .null, .int (nI 0)])), (ab, .inl (G.2.1, 16, .inl (fun _ => 0))), (q1, .inl (G.2.1, 256, .inl (fun _ => 0)))] H := hP
  have hD : va_D A [(h, .inr (0, [.ref ab, .int (nI 4), .null, .null, .null, .int (nI 0)])), (ab, .inl (G.2.1, 16, .inl (fun _ => 0))), (q1, .inl (G.2.1, 256, .inl (fun _ => 0)))] := hD
  refine W.widen (k := 2) (n := 272) (by decide) (by decide) ?_
  refine va_putF (D := G.1) (ci := 0) (v := .ref q1) (ty := .array .int) (C := RX0) (T := TX0) (N := 6) hx hb hts hinX0 tyX0 tyX0_ok nmX0 hown hK hP hD hS 0 rfl rfl 2 (by decide) (hts (.fieldLink RX0 7 "CipherBox$Aes" "originals" "[I") (by decide +kernel)) (fun _ h9 => h9) rfl hnm rfl (by decide +kernel) rfl rfl (Nat.le_of_ble_eq_true rfl) dX0_init_11 (fun H locs hP hD hS => ?_)
  have hP : va_P G.1 vwCl [(h, .inr (0, [.ref ab, .int (nI 4), .ref q1, .null, .null, .int (nI 0)])), (ab, .inl (G.2.1, 16, .inl (fun _ => 0))), (q1, .inl (G.2.1, 256, .inl (fun _ => 0)))] H := hP
  have hD : va_D A [(h, .inr (0, [.ref ab, .int (nI 4), .ref q1, .null, .null, .int (nI 0)])), (ab, .inl (G.2.1, 16, .inl (fun _ => 0))), (q1, .inl (G.2.1, 256, .inl (fun _ => 0)))] := hD
  refine lv_aload_n hx hb dX0_init_14 rfl (lv_at hl 0 rfl) ?_
  refine lv_bipush (v := nI 60) hx hb dX0_init_15 (by decide) ?_
  refine w_newI 60 hx hb (hts (.arrayClass .int) (by decide +kernel)) hK hP hD hS hA (by decide) (by decide) (by decide) dX0_init_17 (fun q3 H hP hD hS => ?_)
  have hP : va_P G.1 vwCl [(h, .inr (0, [.ref ab, .int (nI 4), .ref q1, .null, .null, .int (nI 0)])), (ab, .inl (G.2.1, 16, .inl (fun _ => 0))), (q1, .inl (G.2.1, 256, .inl (fun _ => 0))), (q3, .inl (G.2.1, 60, .inl (fun _ => 0)))] H := hP
  have hD : va_D A [(h, .inr (0, [.ref ab, .int (nI 4), .ref q1, .null, .null, .int (nI 0)])), (ab, .inl (G.2.1, 16, .inl (fun _ => 0))), (q1, .inl (G.2.1, 256, .inl (fun _ => 0))), (q3, .inl (G.2.1, 60, .inl (fun _ => 0)))] := hD
  refine W.widen (k := 3) (n := 332) (by decide) (by decide) ?_
  refine va_putF (D := G.1) (ci := 0) (v := .ref q3) (ty := .array .int) (C := RX0) (T := TX0) (N := 6) hx hb hts hinX0 tyX0 tyX0_ok nmX0 hown hK hP hD hS 0 rfl rfl 3 (by decide) (hts (.fieldLink RX0 13 "CipherBox$Aes" "roundKeys" "[I") (by decide +kernel)) (fun _ h9 => h9) rfl hnm rfl (by decide +kernel) rfl rfl (Nat.le_of_ble_eq_true rfl) dX0_init_19 (fun H locs hP hD hS => ?_)
  have hP : va_P G.1 vwCl [(h, .inr (0, [.ref ab, .int (nI 4), .ref q1, .ref q3, .null, .int (nI 0)])), (ab, .inl (G.2.1, 16, .inl (fun _ => 0))), (q1, .inl (G.2.1, 256, .inl (fun _ => 0))), (q3, .inl (G.2.1, 60, .inl (fun _ => 0)))] H := hP
  have hD : va_D A [(h, .inr (0, [.ref ab, .int (nI 4), .ref q1, .ref q3, .null, .int (nI 0)])), (ab, .inl (G.2.1, 16, .inl (fun _ => 0))), (q1, .inl (G.2.1, 256, .inl (fun _ => 0))), (q3, .inl (G.2.1, 60, .inl (fun _ => 0)))] := hD
  refine lv_aload_n hx hb dX0_init_22 rfl (lv_at hl 0 rfl) ?_
  refine lv_bipush (v := nI 16) hx hb dX0_init_23 (by decide) ?_
  refine w_newI 16 hx hb (hts (.arrayClass .int) (by decide +kernel)) hK hP hD hS hA (by decide) (by decide) (by decide) dX0_init_25 (fun q5 H hP hD hS => ?_)
  have hP : va_P G.1 vwCl [(h, .inr (0, [.ref ab, .int (nI 4), .ref q1, .ref q3, .null, .int (nI 0)])), (ab, .inl (G.2.1, 16, .inl (fun _ => 0))), (q1, .inl (G.2.1, 256, .inl (fun _ => 0))), (q3, .inl (G.2.1, 60, .inl (fun _ => 0))), (q5, .inl (G.2.1, 16, .inl (fun _ => 0)))] H := hP
  have hD : va_D A [(h, .inr (0, [.ref ab, .int (nI 4), .ref q1, .ref q3, .null, .int (nI 0)])), (ab, .inl (G.2.1, 16, .inl (fun _ => 0))), (q1, .inl (G.2.1, 256, .inl (fun _ => 0))), (q3, .inl (G.2.1, 60, .inl (fun _ => 0))), (q5, .inl (G.2.1, 16, .inl (fun _ => 0)))] := hD
  refine W.widen (k := 4) (n := 348) (by decide) (by decide) ?_
  refine va_putF (D := G.1) (ci := 0) (v := .ref q5) (ty := .array .int) (C := RX0) (T := TX0) (N := 6) hx hb hts hinX0 tyX0 tyX0_ok nmX0 hown hK hP hD hS 0 rfl rfl 4 (by decide) (hts (.fieldLink RX0 16 "CipherBox$Aes" "moved" "[I") (by decide +kernel)) (fun _ h9 => h9) rfl hnm rfl (by decide +kernel) rfl rfl (Nat.le_of_ble_eq_true rfl) dX0_init_27 (fun H locs hP hD hS => ?_)
  have hP : va_P G.1 vwCl [(h, .inr (0, [.ref ab, .int (nI 4), .ref q1, .ref q3, .ref q5, .int (nI 0)])), (ab, .inl (G.2.1, 16, .inl (fun _ => 0))), (q1, .inl (G.2.1, 256, .inl (fun _ => 0))), (q3, .inl (G.2.1, 60, .inl (fun _ => 0))), (q5, .inl (G.2.1, 16, .inl (fun _ => 0)))] H := hP
  have hD : va_D A [(h, .inr (0, [.ref ab, .int (nI 4), .ref q1, .ref q3, .ref q5, .int (nI 0)])), (ab, .inl (G.2.1, 16, .inl (fun _ => 0))), (q1, .inl (G.2.1, 256, .inl (fun _ => 0))), (q3, .inl (G.2.1, 60, .inl (fun _ => 0))), (q5, .inl (G.2.1, 16, .inl (fun _ => 0)))] := hD
  refine lv_iconst (v := nI 0) hx hb dX0_init_30 (by decide) ?_
  refine lv_istore_n (lv' := [(1, .int (nI 0)), (0, .ref h)]) hx hb dX0_init_31 rfl hl (by decide) rfl (fun ls hl => ?_)
  refine w_loop (ι := Nat) (fun k => 256 - k) (fun k => k ≤ 256) (fun k => [(h, .inr (0, [.ref ab, .int (nI 4), .ref q1, .ref q3, .ref q5, .int (nI 0)])), (ab, .inl (G.2.1, 16, .inl (fun _ => 0))), (q1, .inl (G.2.1, 256, .inl (orR k))), (q3, .inl (G.2.1, 60, .inl (fun _ => 0))), (q5, .inl (G.2.1, 16, .inl (fun _ => 0)))]) (fun k => [(1, .int (nI k)), (0, .ref h)]) 0 (Nat.zero_le _) hP hD hS hl ?_
  intro k H locs ls hk hP hD hS hl ih
  have hk : k ≤ 256 := hk
  have hP : va_P G.1 vwCl [(h, .inr (0, [.ref ab, .int (nI 4), .ref q1, .ref q3, .ref q5, .int (nI 0)])), (ab, .inl (G.2.1, 16, .inl (fun _ => 0))), (q1, .inl (G.2.1, 256, .inl (orR k))), (q3, .inl (G.2.1, 60, .inl (fun _ => 0))), (q5, .inl (G.2.1, 16, .inl (fun _ => 0)))] H := hP
  have hD : va_D A [(h, .inr (0, [.ref ab, .int (nI 4), .ref q1, .ref q3, .ref q5, .int (nI 0)])), (ab, .inl (G.2.1, 16, .inl (fun _ => 0))), (q1, .inl (G.2.1, 256, .inl (orR k))), (q3, .inl (G.2.1, 60, .inl (fun _ => 0))), (q5, .inl (G.2.1, 16, .inl (fun _ => 0)))] := hD
  have hl : lv_has ls 2 [(1, .int (nI k)), (0, .ref h)] := hl
  refine lv_iload_n hx hb dX0_init_32 rfl (lv_at hl 0 rfl) ?_
  refine lv_sipush (v := nI 256) hx hb dX0_init_33 (by decide) ?_
  refine w_icmpN_ge (tgt := 60) hx hb (by omega) (by omega) dX0_init_36 (by decide) (fun h7 => ?_) (fun h7 => ?_)
  · obtain rfl : 256 = k := Eq.symm (show k = 256 from by omega)
    refine W.widen (k := 4) (n := 348) (by decide) (by decide) ?_
    exact hret ⟨ab, q1, q3, q5⟩ H _ 60 ls dX0_init_60 (trivial) (hP.sub [0, 1, 2, 3, 4] rfl) (hD.sub [0, 1, 2, 3, 4] (by decide) rfl) hS
  · have hp := tb0_lt0 k h7
    refine lv_aload_n hx hb dX0_init_39 rfl (lv_at hl 1 rfl) ?_
    refine va_get (D := G.1) (ci := 0) (v := .ref q1) (C := RX0) (T := TX0) (N := 6) hx hb hts hinX0 hown hK hP 0 rfl rfl 2 (by decide) (hts (.fieldLink RX0 7 "CipherBox$Aes" "originals" "[I") (by decide +kernel)) (fun _ h9 => h9) rfl dX0_init_40 ?_
    refine w_gets hx hb hT hS 0 (by decide) hown (hts (.fieldLink RX0 19 "CipherBox$Aes" "SUBSTITUTES" "[I") (by decide +kernel)) dX0_init_43 ?_
    refine lv_iload_n hx hb dX0_init_46 rfl (lv_at hl 0 rfl) ?_
    refine w_ti hx hb hT hS (by decide) (by rw [tb_0]; omega) dX0_init_47 ?_
    refine lv_sipush (v := nI 255) hx hb dX0_init_48 (by decide) ?_
    refine w_iandN 8 hx hb (by omega) (by decide) rfl dX0_init_51 ?_
    refine lv_iload_n hx hb dX0_init_52 rfl (lv_at hl 0 rfl) ?_
    refine w_iast hx hb hK hP hD hS 2 rfl (by omega) (by omega) (orR (k + 1)) (rfl) dX0_init_53 (fun H locs hP hD hS => ?_)
    have hP : va_P G.1 vwCl [(h, .inr (0, [.ref ab, .int (nI 4), .ref q1, .ref q3, .ref q5, .int (nI 0)])), (ab, .inl (G.2.1, 16, .inl (fun _ => 0))), (q1, .inl (G.2.1, 256, .inl (orR (k + 1)))), (q3, .inl (G.2.1, 60, .inl (fun _ => 0))), (q5, .inl (G.2.1, 16, .inl (fun _ => 0)))] H := hP
    have hD : va_D A [(h, .inr (0, [.ref ab, .int (nI 4), .ref q1, .ref q3, .ref q5, .int (nI 0)])), (ab, .inl (G.2.1, 16, .inl (fun _ => 0))), (q1, .inl (G.2.1, 256, .inl (orR (k + 1)))), (q3, .inl (G.2.1, 60, .inl (fun _ => 0))), (q5, .inl (G.2.1, 16, .inl (fun _ => 0)))] := hD
    refine lv_iinc (v := nI (k + 1)) (lv' := [(1, .int (nI (k + 1))), (0, .ref h)]) hx hb dX0_init_54 hl (k := 0) rfl (nI_add k 1) (by decide) rfl (fun ls hl => ?_)
    refine lv_goto (tgt := 32) hx hb dX0_init_57 (by decide) ?_
    exact ih (k + 1) H _ _ (by omega) (by omega) hP hD hS (lv_sub hl [0, 1] rfl)

set_option maxHeartbeats 4000000 in
set_option maxRecDepth 100000 in
theorem c_Cmac_init (l : Launch) (G : wG) (h : Nat)  : CMv l G yX2_init wsX2_init 1 12 1 16 [.ref h] [(h, .inr (1, [.null]))] (fun (u : Nat) => True) (fun cs => [(h, .inr (1, [.ref cs])), (cs, .inl (G.2.1, 16, .inl (fun _ => 0)))]) := by
  refine CMv.start cX2_init 1 (by decide) rfl (Nat.le_of_ble_eq_true rfl) ?_
  intro p e s m below meth c A Q ls H locs hx hb hml hown hnm hts hK hT hA hP hD hS hl hret
  have hinX2 : ∀ w ∈ u_ws RX2 TX2 1, w ∈ wsX2_init := by decide +kernel
  have hl : lv_has ls 1 [(0, .ref h)] := hl
  refine lv_aload_n hx hb dX2_init_0 rfl (lv_at hl 0 rfl) ?_
  refine W.objInit hx hb hown (hts (.methodLink RX2 1 objectInit) (by decide +kernel)) (hts (.instanceMethod objectInit) (by decide +kernel)) (hts (.code objectInit ⟨#[0xb1]⟩ 1 none) (by decide +kernel)) rfl (by rw [hml]; exact hl.1) rfl dX2_init_1 (Nat.le_of_ble_eq_true rfl) (Nat.le_of_ble_eq_true rfl) ?_
  refine W.eq (g2 := F0 m 4 ls []) rfl ?_
  refine lv_aload_n hx hb dX2_init_4 rfl (lv_at hl 0 rfl) ?_
  refine lv_bipush (v := nI 16) hx hb dX2_init_5 (by decide) ?_
  refine w_newI 16 hx hb (hts (.arrayClass .int) (by decide +kernel)) hK hP hD hS hA (by decide) (by decide) (by decide) dX2_init_7 (fun q1 H hP hD hS => ?_)
  have hP : va_P G.1 vwCl [(h, .inr (1, [.null])), (q1, .inl (G.2.1, 16, .inl (fun _ => 0)))] H := hP
  have hD : va_D A [(h, .inr (1, [.null])), (q1, .inl (G.2.1, 16, .inl (fun _ => 0)))] := hD
  refine W.widen (k := 1) (n := 16) (by decide) (by decide) ?_
  refine va_putF (D := G.1) (ci := 1) (v := .ref q1) (ty := .array .int) (C := RX2) (T := TX2) (N := 1) hx hb hts hinX2 tyX2 tyX2_ok nmX2 hown hK hP hD hS 0 rfl rfl 0 (by decide) (hts (.fieldLink RX2 9 "CipherBox$Cmac" "subkey" "[I") (by decide +kernel)) (fun _ h9 => h9) rfl hnm rfl (by decide +kernel) rfl rfl (Nat.le_of_ble_eq_true rfl) dX2_init_9 (fun H locs hP hD hS => ?_)
  have hP : va_P G.1 vwCl [(h, .inr (1, [.ref q1])), (q1, .inl (G.2.1, 16, .inl (fun _ => 0)))] H := hP
  have hD : va_D A [(h, .inr (1, [.ref q1])), (q1, .inl (G.2.1, 16, .inl (fun _ => 0)))] := hD
  refine W.widen (k := 1) (n := 16) (by decide) (by decide) ?_
  exact hret q1 H _ 12 ls dX2_init_12 (trivial) (hP.sub [0, 1] rfl) (hD.sub [0, 1] (by decide) rfl) hS

set_option maxHeartbeats 4000000 in
set_option maxRecDepth 100000 in
theorem c_Sha_init (l : Launch) (G : wG) (h : Nat)  : CMv l G yX6_init wsX6_init 1 12 2 72 [.ref h] [(h, .inr (5, [.null, .null]))] (fun (u : Nat × Nat) => True) (fun u => match u with | (s1, s2) => [(h, .inr (5, [.ref s1, .ref s2])), (s1, .inl (G.2.1, 8, .inl (fun _ => 0))), (s2, .inl (G.2.1, 64, .inl (fun _ => 0)))]) := by
  refine CMv.start cX6_init 1 (by decide) rfl (Nat.le_of_ble_eq_true rfl) ?_
  intro p e s m below meth c A Q ls H locs hx hb hml hown hnm hts hK hT hA hP hD hS hl hret
  have hinX6 : ∀ w ∈ u_ws RX6 TX6 2, w ∈ wsX6_init := by decide +kernel
  have hl : lv_has ls 1 [(0, .ref h)] := hl
  refine lv_aload_n hx hb dX6_init_0 rfl (lv_at hl 0 rfl) ?_
  refine W.objInit hx hb hown (hts (.methodLink RX6 1 objectInit) (by decide +kernel)) (hts (.instanceMethod objectInit) (by decide +kernel)) (hts (.code objectInit ⟨#[0xb1]⟩ 1 none) (by decide +kernel)) rfl (by rw [hml]; exact hl.1) rfl dX6_init_1 (Nat.le_of_ble_eq_true rfl) (Nat.le_of_ble_eq_true rfl) ?_
  refine W.eq (g2 := F0 m 4 ls []) rfl ?_
  refine lv_aload_n hx hb dX6_init_4 rfl (lv_at hl 0 rfl) ?_
  refine lv_bipush (v := nI 8) hx hb dX6_init_5 (by decide) ?_
  refine w_newI 8 hx hb (hts (.arrayClass .int) (by decide +kernel)) hK hP hD hS hA (by decide) (by decide) (by decide) dX6_init_7 (fun q1 H hP hD hS => ?_)
  have hP : va_P G.1 vwCl [(h, .inr (5, [.null, .null])), (q1, .inl (G.2.1, 8, .inl (fun _ => 0)))] H := hP
  have hD : va_D A [(h, .inr (5, [.null, .null])), (q1, .inl (G.2.1, 8, .inl (fun _ => 0)))] := hD
  refine W.widen (k := 1) (n := 8) (by decide) (by decide) ?_
  refine va_putF (D := G.1) (ci := 5) (v := .ref q1) (ty := .array .int) (C := RX6) (T := TX6) (N := 2) hx hb hts hinX6 tyX6 tyX6_ok nmX6 hown hK hP hD hS 0 rfl rfl 0 (by decide) (hts (.fieldLink RX6 7 "CipherBox$Sha256" "state" "[I") (by decide +kernel)) (fun _ h9 => h9) rfl hnm rfl (by decide +kernel) rfl rfl (Nat.le_of_ble_eq_true rfl) dX6_init_9 (fun H locs hP hD hS => ?_)
  have hP : va_P G.1 vwCl [(h, .inr (5, [.ref q1, .null])), (q1, .inl (G.2.1, 8, .inl (fun _ => 0)))] H := hP
  have hD : va_D A [(h, .inr (5, [.ref q1, .null])), (q1, .inl (G.2.1, 8, .inl (fun _ => 0)))] := hD
  refine lv_aload_n hx hb dX6_init_12 rfl (lv_at hl 0 rfl) ?_
  refine lv_bipush (v := nI 64) hx hb dX6_init_13 (by decide) ?_
  refine w_newI 64 hx hb (hts (.arrayClass .int) (by decide +kernel)) hK hP hD hS hA (by decide) (by decide) (by decide) dX6_init_15 (fun q3 H hP hD hS => ?_)
  have hP : va_P G.1 vwCl [(h, .inr (5, [.ref q1, .null])), (q1, .inl (G.2.1, 8, .inl (fun _ => 0))), (q3, .inl (G.2.1, 64, .inl (fun _ => 0)))] H := hP
  have hD : va_D A [(h, .inr (5, [.ref q1, .null])), (q1, .inl (G.2.1, 8, .inl (fun _ => 0))), (q3, .inl (G.2.1, 64, .inl (fun _ => 0)))] := hD
  refine W.widen (k := 2) (n := 72) (by decide) (by decide) ?_
  refine va_putF (D := G.1) (ci := 5) (v := .ref q3) (ty := .array .int) (C := RX6) (T := TX6) (N := 2) hx hb hts hinX6 tyX6 tyX6_ok nmX6 hown hK hP hD hS 0 rfl rfl 1 (by decide) (hts (.fieldLink RX6 13 "CipherBox$Sha256" "words" "[I") (by decide +kernel)) (fun _ h9 => h9) rfl hnm rfl (by decide +kernel) rfl rfl (Nat.le_of_ble_eq_true rfl) dX6_init_17 (fun H locs hP hD hS => ?_)
  have hP : va_P G.1 vwCl [(h, .inr (5, [.ref q1, .ref q3])), (q1, .inl (G.2.1, 8, .inl (fun _ => 0))), (q3, .inl (G.2.1, 64, .inl (fun _ => 0)))] H := hP
  have hD : va_D A [(h, .inr (5, [.ref q1, .ref q3])), (q1, .inl (G.2.1, 8, .inl (fun _ => 0))), (q3, .inl (G.2.1, 64, .inl (fun _ => 0)))] := hD
  refine W.widen (k := 2) (n := 72) (by decide) (by decide) ?_
  exact hret ⟨q1, q3⟩ H _ 20 ls dX6_init_20 (trivial) (hP.sub [0, 1, 2] rfl) (hD.sub [0, 1, 2] (by decide) rfl) hS

set_option maxHeartbeats 4000000 in
set_option maxRecDepth 100000 in
theorem c_Box_init (l : Launch) (G : wG) (h : Nat)  : CMv l G yX7_init wsX7_init 3 54 30 3000 [.ref h] [(h, .inr (6, [.null, .null, .null, .null, .null, .null, .null, .null, .null, .int (nI 0)]))] (fun (u : Nat → Nat) => True) (fun b => [(h, .inr (6, [.ref (b 0), .ref (b 2), .ref (b 4), .ref (b 6), .ref (b 8), .ref (b 10), .ref (b 17), .ref (b 22), .ref (b 24), .int (-1)])), (b 0, .inr (4, [.ref (b 1), .int (nI 0)])), (b 1, .inl (G.2.1, 400, .inl (fun _ => 0))), (b 2, .inr (4, [.ref (b 3), .int (nI 0)])), (b 3, .inl (G.2.1, 400, .inl (fun _ => 0))), (b 4, .inr (4, [.ref (b 5), .int (nI 0)])), (b 5, .inl (G.2.1, 448, .inl (fun _ => 0))), (b 6, .inr (4, [.ref (b 7), .int (nI 0)])), (b 7, .inl (G.2.1, 32, .inl (fun _ => 0))), (b 8, .inr (4, [.ref (b 9), .int (nI 16)])), (b 9, .inl (G.2.1, 16, .inl (fa 0 16 (fun _ => 0) (fun _ => 0)))), (b 10, .inr (3, [.ref (b 11), .int (nI 3), .ref (b 12), .ref (b 13)])), (b 11, .inl (G.2.1, 8, .inl (fun _ => 0))), (b 12, .inr (2, [.ref (b 14), .ref (b 15)])), (b 13, .inr (2, [.ref (b 14), .ref (b 16)])), (b 14, .inl (G.2.1, 512, .inl mbI)), (b 15, .inl (G.2.1, 128, .inl (fun _ => 0))), (b 16, .inl (G.2.1, 128, .inl (fun _ => 0))), (b 17, .inr (0, [.ref (b 18), .int (nI 4), .ref (b 19), .ref (b 20), .ref (b 21), .int (nI 0)])), (b 18, .inl (G.2.1, 16, .inl (fun _ => 0))), (b 19, .inl (G.2.1, 256, .inl (orR 256))), (b 20, .inl (G.2.1, 60, .inl (fun _ => 0))), (b 21, .inl (G.2.1, 16, .inl (fun _ => 0))), (b 22, .inr (1, [.ref (b 23)])), (b 23, .inl (G.2.1, 16, .inl (fun _ => 0))), (b 24, .inr (5, [.ref (b 25), .ref (b 26)])), (b 25, .inl (G.2.1, 8, .inl (fun _ => 0))), (b 26, .inl (G.2.1, 64, .inl (fun _ => 0)))]) := by
  refine CMv.start cX7_init 1 (by decide) rfl (Nat.le_of_ble_eq_true rfl) ?_
  intro p e s m below meth c A Q ls H locs hx hb hml hown hnm hts hK hT hA hP hD hS hl hret
  have hinX0 : ∀ w ∈ u_ws RX0 TX0 6, w ∈ wsX7_init := by decide +kernel
  have hinX2 : ∀ w ∈ u_ws RX2 TX2 1, w ∈ wsX7_init := by decide +kernel
  have hinX4 : ∀ w ∈ u_ws RX4 TX4 4, w ∈ wsX7_init := by decide +kernel
  have hinX5 : ∀ w ∈ u_ws RX5 TX5 2, w ∈ wsX7_init := by decide +kernel
  have hinX6 : ∀ w ∈ u_ws RX6 TX6 2, w ∈ wsX7_init := by decide +kernel
  have hinX7 : ∀ w ∈ u_ws RX7 TX7 10, w ∈ wsX7_init := by decide +kernel
  have hl : lv_has ls 1 [(0, .ref h)] := hl
  refine lv_aload_n hx hb dX7_init_0 rfl (lv_at hl 0 rfl) ?_
  refine W.objInit hx hb hown (hts (.methodLink RX7 1 objectInit) (by decide +kernel)) (hts (.instanceMethod objectInit) (by decide +kernel)) (hts (.code objectInit ⟨#[0xb1]⟩ 1 none) (by decide +kernel)) rfl (by rw [hml]; exact hl.1) rfl dX7_init_1 (Nat.le_of_ble_eq_true rfl) (Nat.le_of_ble_eq_true rfl) ?_
  refine W.eq (g2 := F0 m 4 ls []) rfl ?_
  refine lv_aload_n hx hb dX7_init_4 rfl (lv_at hl 0 rfl) ?_
  refine va_new (ci := 4) (fs := [.null, .int 0]) (C := RX5) (T := TX5) (N := 2) hx hb hts hinX5 tyX5 tyX5_ok hown (hts (.classLink RX7 7 RX5) (by decide +kernel)) (hts (.instantiable RX5 2) (by decide +kernel)) (hts (.initialized RX5) (by decide +kernel)) hK hP hD hS hA rfl (by decide +kernel) (by decide) (by decide) dX7_init_5 (fun q1 H hP hD hS => ?_)
  have hP : va_P G.1 vwCl [(h, .inr (6, [.null, .null, .null, .null, .null, .null, .null, .null, .null, .int (nI 0)])), (q1, .inr (4, [.null, .int 0]))] H := hP
  have hD : va_D A [(h, .inr (6, [.null, .null, .null, .null, .null, .null, .null, .null, .null, .int (nI 0)])), (q1, .inr (4, [.null, .int 0]))] := hD
  refine W.widen (k := 1) (n := 2) (by decide) (by decide) ?_
  refine lv_dup hx hb dX7_init_8 rfl ?_
  refine lv_sipush (v := nI 400) hx hb dX7_init_9 (by decide) ?_
  refine w_finv (wr := [(h, .inr (6, [.null, .null, .null, .null, .null, .null, .null, .null, .null, .int (nI 0)]))]) (va_runI (As := [.int (nI 400)]) (rest := [.ref q1, .ref h]) ⟨hx, hb, hml, hown, hts⟩ (c_Row_init400 l G q1 H.size) (cwI 1 hts gX7_init_X5_init rfl rfl rfl (hts (.initialized RX5) (by decide +kernel)) (hts (.methodLink RX7 11 yX5_init) (by decide +kernel)) (hts (.instanceMethod yX5_init) (by decide +kernel)) rfl (by decide +kernel) ⟨Nat.le_of_ble_eq_true rfl, Nat.le_of_ble_eq_true rfl⟩) ⟨wPre.blind, (fun U hU hW => ⟨rfl, w_pre hK hT hA hP hD hS (isC := [1]) (by decide) rfl U hU hW⟩)⟩ rfl rfl hl.1 rfl (lv_room (Nat.le_of_ble_eq_true rfl)) dX7_init_12 ⟨Nat.le_of_ble_eq_true rfl, Nat.le_of_ble_eq_true rfl⟩) hA hP hD hS [1] [0] rfl rfl (by decide) (by decide) (fun u H locs hpost hP hD hS => ?_)
  obtain ⟨e1, rfl⟩ : ∃ z, z = u := ⟨_, rfl⟩
  try dsimp only at hpost hP hD
  have hP : va_P G.1 vwCl [(h, .inr (6, [.null, .null, .null, .null, .null, .null, .null, .null, .null, .int (nI 0)])), (q1, .inr (4, [.ref e1, .int (nI 0)])), (e1, .inl (G.2.1, 400, .inl (fun _ => 0)))] H := hP
  have hD : va_D A [(h, .inr (6, [.null, .null, .null, .null, .null, .null, .null, .null, .null, .int (nI 0)])), (q1, .inr (4, [.ref e1, .int (nI 0)])), (e1, .inl (G.2.1, 400, .inl (fun _ => 0)))] := hD
  refine W.widen (k := 2) (n := 402) (by decide) (by decide) ?_
  refine va_putF (D := G.1) (ci := 6) (v := .ref q1) (ty := .object "CipherBox$Row") (C := RX7) (T := TX7) (N := 10) hx hb hts hinX7 tyX7 tyX7_ok nmX7 hown hK hP hD hS 0 rfl rfl 0 (by decide) (hts (.fieldLink RX7 14 "CipherBox" "tape" "LCipherBox$Row;") (by decide +kernel)) (fun _ h9 => h9) rfl hnm rfl (by decide +kernel) rfl rfl (Nat.le_of_ble_eq_true rfl) dX7_init_15 (fun H locs hP hD hS => ?_)
  have hP : va_P G.1 vwCl [(h, .inr (6, [.ref q1, .null, .null, .null, .null, .null, .null, .null, .null, .int (nI 0)])), (q1, .inr (4, [.ref e1, .int (nI 0)])), (e1, .inl (G.2.1, 400, .inl (fun _ => 0)))] H := hP
  have hD : va_D A [(h, .inr (6, [.ref q1, .null, .null, .null, .null, .null, .null, .null, .null, .int (nI 0)])), (q1, .inr (4, [.ref e1, .int (nI 0)])), (e1, .inl (G.2.1, 400, .inl (fun _ => 0)))] := hD
  refine lv_aload_n hx hb dX7_init_18 rfl (lv_at hl 0 rfl) ?_
  refine va_new (ci := 4) (fs := [.null, .int 0]) (C := RX5) (T := TX5) (N := 2) hx hb hts hinX5 tyX5 tyX5_ok hown (hts (.classLink RX7 7 RX5) (by decide +kernel)) (hts (.instantiable RX5 2) (by decide +kernel)) (hts (.initialized RX5) (by decide +kernel)) hK hP hD hS hA rfl (by decide +kernel) (by decide) (by decide) dX7_init_19 (fun q2 H hP hD hS => ?_)
  have hP : va_P G.1 vwCl [(h, .inr (6, [.ref q1, .null, .null, .null, .null, .null, .null, .null, .null, .int (nI 0)])), (q1, .inr (4, [.ref e1, .int (nI 0)])), (e1, .inl (G.2.1, 400, .inl (fun _ => 0))), (q2, .inr (4, [.null, .int 0]))] H := hP
  have hD : va_D A [(h, .inr (6, [.ref q1, .null, .null, .null, .null, .null, .null, .null, .null, .int (nI 0)])), (q1, .inr (4, [.ref e1, .int (nI 0)])), (e1, .inl (G.2.1, 400, .inl (fun _ => 0))), (q2, .inr (4, [.null, .int 0]))] := hD
  refine W.widen (k := 3) (n := 404) (by decide) (by decide) ?_
  refine lv_dup hx hb dX7_init_22 rfl ?_
  refine lv_sipush (v := nI 400) hx hb dX7_init_23 (by decide) ?_
  refine w_finv (wr := [(h, .inr (6, [.ref q1, .null, .null, .null, .null, .null, .null, .null, .null, .int (nI 0)])), (q1, .inr (4, [.ref e1, .int (nI 0)])), (e1, .inl (G.2.1, 400, .inl (fun _ => 0)))]) (va_runI (As := [.int (nI 400)]) (rest := [.ref q2, .ref h]) ⟨hx, hb, hml, hown, hts⟩ (c_Row_init400 l G q2 H.size) (cwI 1 hts gX7_init_X5_init rfl rfl rfl (hts (.initialized RX5) (by decide +kernel)) (hts (.methodLink RX7 11 yX5_init) (by decide +kernel)) (hts (.instanceMethod yX5_init) (by decide +kernel)) rfl (by decide +kernel) ⟨Nat.le_of_ble_eq_true rfl, Nat.le_of_ble_eq_true rfl⟩) ⟨wPre.blind, (fun U hU hW => ⟨rfl, w_pre hK hT hA hP hD hS (isC := [3]) (by decide) rfl U hU hW⟩)⟩ rfl rfl hl.1 rfl (lv_room (Nat.le_of_ble_eq_true rfl)) dX7_init_26 ⟨Nat.le_of_ble_eq_true rfl, Nat.le_of_ble_eq_true rfl⟩) hA hP hD hS [3] [0, 1, 2] rfl rfl (by decide) (by decide) (fun u H locs hpost hP hD hS => ?_)
  obtain ⟨e2, rfl⟩ : ∃ z, z = u := ⟨_, rfl⟩
  try dsimp only at hpost hP hD
  have hP : va_P G.1 vwCl [(h, .inr (6, [.ref q1, .null, .null, .null, .null, .null, .null, .null, .null, .int (nI 0)])), (q1, .inr (4, [.ref e1, .int (nI 0)])), (e1, .inl (G.2.1, 400, .inl (fun _ => 0))), (q2, .inr (4, [.ref e2, .int (nI 0)])), (e2, .inl (G.2.1, 400, .inl (fun _ => 0)))] H := hP
  have hD : va_D A [(h, .inr (6, [.ref q1, .null, .null, .null, .null, .null, .null, .null, .null, .int (nI 0)])), (q1, .inr (4, [.ref e1, .int (nI 0)])), (e1, .inl (G.2.1, 400, .inl (fun _ => 0))), (q2, .inr (4, [.ref e2, .int (nI 0)])), (e2, .inl (G.2.1, 400, .inl (fun _ => 0)))] := hD
  refine W.widen (k := 4) (n := 804) (by decide) (by decide) ?_
  refine va_putF (D := G.1) (ci := 6) (v := .ref q2) (ty := .object "CipherBox$Row") (C := RX7) (T := TX7) (N := 10) hx hb hts hinX7 tyX7 tyX7_ok nmX7 hown hK hP hD hS 0 rfl rfl 1 (by decide) (hts (.fieldLink RX7 18 "CipherBox" "written" "LCipherBox$Row;") (by decide +kernel)) (fun _ h9 => h9) rfl hnm rfl (by decide +kernel) rfl rfl (Nat.le_of_ble_eq_true rfl) dX7_init_29 (fun H locs hP hD hS => ?_)
  have hP : va_P G.1 vwCl [(h, .inr (6, [.ref q1, .ref q2, .null, .null, .null, .null, .null, .null, .null, .int (nI 0)])), (q1, .inr (4, [.ref e1, .int (nI 0)])), (e1, .inl (G.2.1, 400, .inl (fun _ => 0))), (q2, .inr (4, [.ref e2, .int (nI 0)])), (e2, .inl (G.2.1, 400, .inl (fun _ => 0)))] H := hP
  have hD : va_D A [(h, .inr (6, [.ref q1, .ref q2, .null, .null, .null, .null, .null, .null, .null, .int (nI 0)])), (q1, .inr (4, [.ref e1, .int (nI 0)])), (e1, .inl (G.2.1, 400, .inl (fun _ => 0))), (q2, .inr (4, [.ref e2, .int (nI 0)])), (e2, .inl (G.2.1, 400, .inl (fun _ => 0)))] := hD
  refine lv_aload_n hx hb dX7_init_32 rfl (lv_at hl 0 rfl) ?_
  refine va_new (ci := 4) (fs := [.null, .int 0]) (C := RX5) (T := TX5) (N := 2) hx hb hts hinX5 tyX5 tyX5_ok hown (hts (.classLink RX7 7 RX5) (by decide +kernel)) (hts (.instantiable RX5 2) (by decide +kernel)) (hts (.initialized RX5) (by decide +kernel)) hK hP hD hS hA rfl (by decide +kernel) (by decide) (by decide) dX7_init_33 (fun q3 H hP hD hS => ?_)
  have hP : va_P G.1 vwCl [(h, .inr (6, [.ref q1, .ref q2, .null, .null, .null, .null, .null, .null, .null, .int (nI 0)])), (q1, .inr (4, [.ref e1, .int (nI 0)])), (e1, .inl (G.2.1, 400, .inl (fun _ => 0))), (q2, .inr (4, [.ref e2, .int (nI 0)])), (e2, .inl (G.2.1, 400, .inl (fun _ => 0))), (q3, .inr (4, [.null, .int 0]))] H := hP
  have hD : va_D A [(h, .inr (6, [.ref q1, .ref q2, .null, .null, .null, .null, .null, .null, .null, .int (nI 0)])), (q1, .inr (4, [.ref e1, .int (nI 0)])), (e1, .inl (G.2.1, 400, .inl (fun _ => 0))), (q2, .inr (4, [.ref e2, .int (nI 0)])), (e2, .inl (G.2.1, 400, .inl (fun _ => 0))), (q3, .inr (4, [.null, .int 0]))] := hD
  refine W.widen (k := 5) (n := 806) (by decide) (by decide) ?_
  refine lv_dup hx hb dX7_init_36 rfl ?_
  refine lv_sipush (v := nI 448) hx hb dX7_init_37 (by decide) ?_
  refine w_finv (wr := [(h, .inr (6, [.ref q1, .ref q2, .null, .null, .null, .null, .null, .null, .null, .int (nI 0)])), (q1, .inr (4, [.ref e1, .int (nI 0)])), (e1, .inl (G.2.1, 400, .inl (fun _ => 0))), (q2, .inr (4, [.ref e2, .int (nI 0)])), (e2, .inl (G.2.1, 400, .inl (fun _ => 0)))]) (va_runI (As := [.int (nI 448)]) (rest := [.ref q3, .ref h]) ⟨hx, hb, hml, hown, hts⟩ (c_Row_init448 l G q3 H.size) (cwI 1 hts gX7_init_X5_init rfl rfl rfl (hts (.initialized RX5) (by decide +kernel)) (hts (.methodLink RX7 11 yX5_init) (by decide +kernel)) (hts (.instanceMethod yX5_init) (by decide +kernel)) rfl (by decide +kernel) ⟨Nat.le_of_ble_eq_true rfl, Nat.le_of_ble_eq_true rfl⟩) ⟨wPre.blind, (fun U hU hW => ⟨rfl, w_pre hK hT hA hP hD hS (isC := [5]) (by decide) rfl U hU hW⟩)⟩ rfl rfl hl.1 rfl (lv_room (Nat.le_of_ble_eq_true rfl)) dX7_init_40 ⟨Nat.le_of_ble_eq_true rfl, Nat.le_of_ble_eq_true rfl⟩) hA hP hD hS [5] [0, 1, 2, 3, 4] rfl rfl (by decide) (by decide) (fun u H locs hpost hP hD hS => ?_)
  obtain ⟨e3, rfl⟩ : ∃ z, z = u := ⟨_, rfl⟩
  try dsimp only at hpost hP hD
  have hP : va_P G.1 vwCl [(h, .inr (6, [.ref q1, .ref q2, .null, .null, .null, .null, .null, .null, .null, .int (nI 0)])), (q1, .inr (4, [.ref e1, .int (nI 0)])), (e1, .inl (G.2.1, 400, .inl (fun _ => 0))), (q2, .inr (4, [.ref e2, .int (nI 0)])), (e2, .inl (G.2.1, 400, .inl (fun _ => 0))), (q3, .inr (4, [.ref e3, .int (nI 0)])), (e3, .inl (G.2.1, 448, .inl (fun _ => 0)))] H := hP
  have hD : va_D A [(h, .inr (6, [.ref q1, .ref q2, .null, .null, .null, .null, .null, .null, .null, .int (nI 0)])), (q1, .inr (4, [.ref e1, .int (nI 0)])), (e1, .inl (G.2.1, 400, .inl (fun _ => 0))), (q2, .inr (4, [.ref e2, .int (nI 0)])), (e2, .inl (G.2.1, 400, .inl (fun _ => 0))), (q3, .inr (4, [.ref e3, .int (nI 0)])), (e3, .inl (G.2.1, 448, .inl (fun _ => 0)))] := hD
  refine W.widen (k := 6) (n := 1254) (by decide) (by decide) ?_
  refine va_putF (D := G.1) (ci := 6) (v := .ref q3) (ty := .object "CipherBox$Row") (C := RX7) (T := TX7) (N := 10) hx hb hts hinX7 tyX7 tyX7_ok nmX7 hown hK hP hD hS 0 rfl rfl 2 (by decide) (hts (.fieldLink RX7 21 "CipherBox" "work" "LCipherBox$Row;") (by decide +kernel)) (fun _ h9 => h9) rfl hnm rfl (by decide +kernel) rfl rfl (Nat.le_of_ble_eq_true rfl) dX7_init_43 (fun H locs hP hD hS => ?_)
  have hP : va_P G.1 vwCl [(h, .inr (6, [.ref q1, .ref q2, .ref q3, .null, .null, .null, .null, .null, .null, .int (nI 0)])), (q1, .inr (4, [.ref e1, .int (nI 0)])), (e1, .inl (G.2.1, 400, .inl (fun _ => 0))), (q2, .inr (4, [.ref e2, .int (nI 0)])), (e2, .inl (G.2.1, 400, .inl (fun _ => 0))), (q3, .inr (4, [.ref e3, .int (nI 0)])), (e3, .inl (G.2.1, 448, .inl (fun _ => 0)))] H := hP
  have hD : va_D A [(h, .inr (6, [.ref q1, .ref q2, .ref q3, .null, .null, .null, .null, .null, .null, .int (nI 0)])), (q1, .inr (4, [.ref e1, .int (nI 0)])), (e1, .inl (G.2.1, 400, .inl (fun _ => 0))), (q2, .inr (4, [.ref e2, .int (nI 0)])), (e2, .inl (G.2.1, 400, .inl (fun _ => 0))), (q3, .inr (4, [.ref e3, .int (nI 0)])), (e3, .inl (G.2.1, 448, .inl (fun _ => 0)))] := hD
  refine lv_aload_n hx hb dX7_init_46 rfl (lv_at hl 0 rfl) ?_
  refine va_new (ci := 4) (fs := [.null, .int 0]) (C := RX5) (T := TX5) (N := 2) hx hb hts hinX5 tyX5 tyX5_ok hown (hts (.classLink RX7 7 RX5) (by decide +kernel)) (hts (.instantiable RX5 2) (by decide +kernel)) (hts (.initialized RX5) (by decide +kernel)) hK hP hD hS hA rfl (by decide +kernel) (by decide) (by decide) dX7_init_47 (fun q4 H hP hD hS => ?_)
  have hP : va_P G.1 vwCl [(h, .inr (6, [.ref q1, .ref q2, .ref q3, .null, .null, .null, .null, .null, .null, .int (nI 0)])), (q1, .inr (4, [.ref e1, .int (nI 0)])), (e1, .inl (G.2.1, 400, .inl (fun _ => 0))), (q2, .inr (4, [.ref e2, .int (nI 0)])), (e2, .inl (G.2.1, 400, .inl (fun _ => 0))), (q3, .inr (4, [.ref e3, .int (nI 0)])), (e3, .inl (G.2.1, 448, .inl (fun _ => 0))), (q4, .inr (4, [.null, .int 0]))] H := hP
  have hD : va_D A [(h, .inr (6, [.ref q1, .ref q2, .ref q3, .null, .null, .null, .null, .null, .null, .int (nI 0)])), (q1, .inr (4, [.ref e1, .int (nI 0)])), (e1, .inl (G.2.1, 400, .inl (fun _ => 0))), (q2, .inr (4, [.ref e2, .int (nI 0)])), (e2, .inl (G.2.1, 400, .inl (fun _ => 0))), (q3, .inr (4, [.ref e3, .int (nI 0)])), (e3, .inl (G.2.1, 448, .inl (fun _ => 0))), (q4, .inr (4, [.null, .int 0]))] := hD
  refine W.widen (k := 7) (n := 1256) (by decide) (by decide) ?_
  refine lv_dup hx hb dX7_init_50 rfl ?_
  refine lv_bipush (v := nI 32) hx hb dX7_init_51 (by decide) ?_
  refine w_finv (wr := [(h, .inr (6, [.ref q1, .ref q2, .ref q3, .null, .null, .null, .null, .null, .null, .int (nI 0)])), (q1, .inr (4, [.ref e1, .int (nI 0)])), (e1, .inl (G.2.1, 400, .inl (fun _ => 0))), (q2, .inr (4, [.ref e2, .int (nI 0)])), (e2, .inl (G.2.1, 400, .inl (fun _ => 0))), (q3, .inr (4, [.ref e3, .int (nI 0)])), (e3, .inl (G.2.1, 448, .inl (fun _ => 0)))]) (va_runI (As := [.int (nI 32)]) (rest := [.ref q4, .ref h]) ⟨hx, hb, hml, hown, hts⟩ (c_Row_init32 l G q4 H.size) (cwI 1 hts gX7_init_X5_init rfl rfl rfl (hts (.initialized RX5) (by decide +kernel)) (hts (.methodLink RX7 11 yX5_init) (by decide +kernel)) (hts (.instanceMethod yX5_init) (by decide +kernel)) rfl (by decide +kernel) ⟨Nat.le_of_ble_eq_true rfl, Nat.le_of_ble_eq_true rfl⟩) ⟨wPre.blind, (fun U hU hW => ⟨rfl, w_pre hK hT hA hP hD hS (isC := [7]) (by decide) rfl U hU hW⟩)⟩ rfl rfl hl.1 rfl (lv_room (Nat.le_of_ble_eq_true rfl)) dX7_init_53 ⟨Nat.le_of_ble_eq_true rfl, Nat.le_of_ble_eq_true rfl⟩) hA hP hD hS [7] [0, 1, 2, 3, 4, 5, 6] rfl rfl (by decide) (by decide) (fun u H locs hpost hP hD hS => ?_)
  obtain ⟨e4, rfl⟩ : ∃ z, z = u := ⟨_, rfl⟩
  try dsimp only at hpost hP hD
  have hP : va_P G.1 vwCl [(h, .inr (6, [.ref q1, .ref q2, .ref q3, .null, .null, .null, .null, .null, .null, .int (nI 0)])), (q1, .inr (4, [.ref e1, .int (nI 0)])), (e1, .inl (G.2.1, 400, .inl (fun _ => 0))), (q2, .inr (4, [.ref e2, .int (nI 0)])), (e2, .inl (G.2.1, 400, .inl (fun _ => 0))), (q3, .inr (4, [.ref e3, .int (nI 0)])), (e3, .inl (G.2.1, 448, .inl (fun _ => 0))), (q4, .inr (4, [.ref e4, .int (nI 0)])), (e4, .inl (G.2.1, 32, .inl (fun _ => 0)))] H := hP
  have hD : va_D A [(h, .inr (6, [.ref q1, .ref q2, .ref q3, .null, .null, .null, .null, .null, .null, .int (nI 0)])), (q1, .inr (4, [.ref e1, .int (nI 0)])), (e1, .inl (G.2.1, 400, .inl (fun _ => 0))), (q2, .inr (4, [.ref e2, .int (nI 0)])), (e2, .inl (G.2.1, 400, .inl (fun _ => 0))), (q3, .inr (4, [.ref e3, .int (nI 0)])), (e3, .inl (G.2.1, 448, .inl (fun _ => 0))), (q4, .inr (4, [.ref e4, .int (nI 0)])), (e4, .inl (G.2.1, 32, .inl (fun _ => 0)))] := hD
  refine W.widen (k := 8) (n := 1288) (by decide) (by decide) ?_
  refine va_putF (D := G.1) (ci := 6) (v := .ref q4) (ty := .object "CipherBox$Row") (C := RX7) (T := TX7) (N := 10) hx hb hts hinX7 tyX7 tyX7_ok nmX7 hown hK hP hD hS 0 rfl rfl 3 (by decide) (hts (.fieldLink RX7 24 "CipherBox" "keyBytes" "LCipherBox$Row;") (by decide +kernel)) (fun _ h9 => h9) rfl hnm rfl (by decide +kernel) rfl rfl (Nat.le_of_ble_eq_true rfl) dX7_init_56 (fun H locs hP hD hS => ?_)
  have hP : va_P G.1 vwCl [(h, .inr (6, [.ref q1, .ref q2, .ref q3, .ref q4, .null, .null, .null, .null, .null, .int (nI 0)])), (q1, .inr (4, [.ref e1, .int (nI 0)])), (e1, .inl (G.2.1, 400, .inl (fun _ => 0))), (q2, .inr (4, [.ref e2, .int (nI 0)])), (e2, .inl (G.2.1, 400, .inl (fun _ => 0))), (q3, .inr (4, [.ref e3, .int (nI 0)])), (e3, .inl (G.2.1, 448, .inl (fun _ => 0))), (q4, .inr (4, [.ref e4, .int (nI 0)])), (e4, .inl (G.2.1, 32, .inl (fun _ => 0)))] H := hP
  have hD : va_D A [(h, .inr (6, [.ref q1, .ref q2, .ref q3, .ref q4, .null, .null, .null, .null, .null, .int (nI 0)])), (q1, .inr (4, [.ref e1, .int (nI 0)])), (e1, .inl (G.2.1, 400, .inl (fun _ => 0))), (q2, .inr (4, [.ref e2, .int (nI 0)])), (e2, .inl (G.2.1, 400, .inl (fun _ => 0))), (q3, .inr (4, [.ref e3, .int (nI 0)])), (e3, .inl (G.2.1, 448, .inl (fun _ => 0))), (q4, .inr (4, [.ref e4, .int (nI 0)])), (e4, .inl (G.2.1, 32, .inl (fun _ => 0)))] := hD
  refine lv_aload_n hx hb dX7_init_59 rfl (lv_at hl 0 rfl) ?_
  refine va_new (ci := 4) (fs := [.null, .int 0]) (C := RX5) (T := TX5) (N := 2) hx hb hts hinX5 tyX5 tyX5_ok hown (hts (.classLink RX7 7 RX5) (by decide +kernel)) (hts (.instantiable RX5 2) (by decide +kernel)) (hts (.initialized RX5) (by decide +kernel)) hK hP hD hS hA rfl (by decide +kernel) (by decide) (by decide) dX7_init_60 (fun q5 H hP hD hS => ?_)
  have hP : va_P G.1 vwCl [(h, .inr (6, [.ref q1, .ref q2, .ref q3, .ref q4, .null, .null, .null, .null, .null, .int (nI 0)])), (q1, .inr (4, [.ref e1, .int (nI 0)])), (e1, .inl (G.2.1, 400, .inl (fun _ => 0))), (q2, .inr (4, [.ref e2, .int (nI 0)])), (e2, .inl (G.2.1, 400, .inl (fun _ => 0))), (q3, .inr (4, [.ref e3, .int (nI 0)])), (e3, .inl (G.2.1, 448, .inl (fun _ => 0))), (q4, .inr (4, [.ref e4, .int (nI 0)])), (e4, .inl (G.2.1, 32, .inl (fun _ => 0))), (q5, .inr (4, [.null, .int 0]))] H := hP
  have hD : va_D A [(h, .inr (6, [.ref q1, .ref q2, .ref q3, .ref q4, .null, .null, .null, .null, .null, .int (nI 0)])), (q1, .inr (4, [.ref e1, .int (nI 0)])), (e1, .inl (G.2.1, 400, .inl (fun _ => 0))), (q2, .inr (4, [.ref e2, .int (nI 0)])), (e2, .inl (G.2.1, 400, .inl (fun _ => 0))), (q3, .inr (4, [.ref e3, .int (nI 0)])), (e3, .inl (G.2.1, 448, .inl (fun _ => 0))), (q4, .inr (4, [.ref e4, .int (nI 0)])), (e4, .inl (G.2.1, 32, .inl (fun _ => 0))), (q5, .inr (4, [.null, .int 0]))] := hD
  refine W.widen (k := 9) (n := 1290) (by decide) (by decide) ?_
  refine lv_dup hx hb dX7_init_63 rfl ?_
  refine lv_bipush (v := nI 16) hx hb dX7_init_64 (by decide) ?_
  refine w_finv (wr := [(h, .inr (6, [.ref q1, .ref q2, .ref q3, .ref q4, .null, .null, .null, .null, .null, .int (nI 0)])), (q1, .inr (4, [.ref e1, .int (nI 0)])), (e1, .inl (G.2.1, 400, .inl (fun _ => 0))), (q2, .inr (4, [.ref e2, .int (nI 0)])), (e2, .inl (G.2.1, 400, .inl (fun _ => 0))), (q3, .inr (4, [.ref e3, .int (nI 0)])), (e3, .inl (G.2.1, 448, .inl (fun _ => 0))), (q4, .inr (4, [.ref e4, .int (nI 0)])), (e4, .inl (G.2.1, 32, .inl (fun _ => 0)))]) (va_runI (As := [.int (nI 16)]) (rest := [.ref q5, .ref h]) ⟨hx, hb, hml, hown, hts⟩ (c_Row_init16 l G q5 H.size) (cwI 1 hts gX7_init_X5_init rfl rfl rfl (hts (.initialized RX5) (by decide +kernel)) (hts (.methodLink RX7 11 yX5_init) (by decide +kernel)) (hts (.instanceMethod yX5_init) (by decide +kernel)) rfl (by decide +kernel) ⟨Nat.le_of_ble_eq_true rfl, Nat.le_of_ble_eq_true rfl⟩) ⟨wPre.blind, (fun U hU hW => ⟨rfl, w_pre hK hT hA hP hD hS (isC := [9]) (by decide) rfl U hU hW⟩)⟩ rfl rfl hl.1 rfl (lv_room (Nat.le_of_ble_eq_true rfl)) dX7_init_66 ⟨Nat.le_of_ble_eq_true rfl, Nat.le_of_ble_eq_true rfl⟩) hA hP hD hS [9] [0, 1, 2, 3, 4, 5, 6, 7, 8] rfl rfl (by decide) (by decide) (fun u H locs hpost hP hD hS => ?_)
  obtain ⟨e5, rfl⟩ : ∃ z, z = u := ⟨_, rfl⟩
  try dsimp only at hpost hP hD
  have hP : va_P G.1 vwCl [(h, .inr (6, [.ref q1, .ref q2, .ref q3, .ref q4, .null, .null, .null, .null, .null, .int (nI 0)])), (q1, .inr (4, [.ref e1, .int (nI 0)])), (e1, .inl (G.2.1, 400, .inl (fun _ => 0))), (q2, .inr (4, [.ref e2, .int (nI 0)])), (e2, .inl (G.2.1, 400, .inl (fun _ => 0))), (q3, .inr (4, [.ref e3, .int (nI 0)])), (e3, .inl (G.2.1, 448, .inl (fun _ => 0))), (q4, .inr (4, [.ref e4, .int (nI 0)])), (e4, .inl (G.2.1, 32, .inl (fun _ => 0))), (q5, .inr (4, [.ref e5, .int (nI 0)])), (e5, .inl (G.2.1, 16, .inl (fun _ => 0)))] H := hP
  have hD : va_D A [(h, .inr (6, [.ref q1, .ref q2, .ref q3, .ref q4, .null, .null, .null, .null, .null, .int (nI 0)])), (q1, .inr (4, [.ref e1, .int (nI 0)])), (e1, .inl (G.2.1, 400, .inl (fun _ => 0))), (q2, .inr (4, [.ref e2, .int (nI 0)])), (e2, .inl (G.2.1, 400, .inl (fun _ => 0))), (q3, .inr (4, [.ref e3, .int (nI 0)])), (e3, .inl (G.2.1, 448, .inl (fun _ => 0))), (q4, .inr (4, [.ref e4, .int (nI 0)])), (e4, .inl (G.2.1, 32, .inl (fun _ => 0))), (q5, .inr (4, [.ref e5, .int (nI 0)])), (e5, .inl (G.2.1, 16, .inl (fun _ => 0)))] := hD
  refine W.widen (k := 10) (n := 1306) (by decide) (by decide) ?_
  refine va_putF (D := G.1) (ci := 6) (v := .ref q5) (ty := .object "CipherBox$Row") (C := RX7) (T := TX7) (N := 10) hx hb hts hinX7 tyX7 tyX7_ok nmX7 hown hK hP hD hS 0 rfl rfl 4 (by decide) (hts (.fieldLink RX7 27 "CipherBox" "start" "LCipherBox$Row;") (by decide +kernel)) (fun _ h9 => h9) rfl hnm rfl (by decide +kernel) rfl rfl (Nat.le_of_ble_eq_true rfl) dX7_init_69 (fun H locs hP hD hS => ?_)
  have hP : va_P G.1 vwCl [(h, .inr (6, [.ref q1, .ref q2, .ref q3, .ref q4, .ref q5, .null, .null, .null, .null, .int (nI 0)])), (q1, .inr (4, [.ref e1, .int (nI 0)])), (e1, .inl (G.2.1, 400, .inl (fun _ => 0))), (q2, .inr (4, [.ref e2, .int (nI 0)])), (e2, .inl (G.2.1, 400, .inl (fun _ => 0))), (q3, .inr (4, [.ref e3, .int (nI 0)])), (e3, .inl (G.2.1, 448, .inl (fun _ => 0))), (q4, .inr (4, [.ref e4, .int (nI 0)])), (e4, .inl (G.2.1, 32, .inl (fun _ => 0))), (q5, .inr (4, [.ref e5, .int (nI 0)])), (e5, .inl (G.2.1, 16, .inl (fun _ => 0)))] H := hP
  have hD : va_D A [(h, .inr (6, [.ref q1, .ref q2, .ref q3, .ref q4, .ref q5, .null, .null, .null, .null, .int (nI 0)])), (q1, .inr (4, [.ref e1, .int (nI 0)])), (e1, .inl (G.2.1, 400, .inl (fun _ => 0))), (q2, .inr (4, [.ref e2, .int (nI 0)])), (e2, .inl (G.2.1, 400, .inl (fun _ => 0))), (q3, .inr (4, [.ref e3, .int (nI 0)])), (e3, .inl (G.2.1, 448, .inl (fun _ => 0))), (q4, .inr (4, [.ref e4, .int (nI 0)])), (e4, .inl (G.2.1, 32, .inl (fun _ => 0))), (q5, .inr (4, [.ref e5, .int (nI 0)])), (e5, .inl (G.2.1, 16, .inl (fun _ => 0)))] := hD
  refine lv_aload_n hx hb dX7_init_72 rfl (lv_at hl 0 rfl) ?_
  refine va_new (ci := 3) (fs := [.null, .int 0, .null, .null]) (C := RX4) (T := TX4) (N := 4) hx hb hts hinX4 tyX4 tyX4_ok hown (hts (.classLink RX7 30 RX4) (by decide +kernel)) (hts (.instantiable RX4 4) (by decide +kernel)) (hts (.initialized RX4) (by decide +kernel)) hK hP hD hS hA rfl (by decide +kernel) (by decide) (by decide) dX7_init_73 (fun q6 H hP hD hS => ?_)
  have hP : va_P G.1 vwCl [(h, .inr (6, [.ref q1, .ref q2, .ref q3, .ref q4, .ref q5, .null, .null, .null, .null, .int (nI 0)])), (q1, .inr (4, [.ref e1, .int (nI 0)])), (e1, .inl (G.2.1, 400, .inl (fun _ => 0))), (q2, .inr (4, [.ref e2, .int (nI 0)])), (e2, .inl (G.2.1, 400, .inl (fun _ => 0))), (q3, .inr (4, [.ref e3, .int (nI 0)])), (e3, .inl (G.2.1, 448, .inl (fun _ => 0))), (q4, .inr (4, [.ref e4, .int (nI 0)])), (e4, .inl (G.2.1, 32, .inl (fun _ => 0))), (q5, .inr (4, [.ref e5, .int (nI 0)])), (e5, .inl (G.2.1, 16, .inl (fun _ => 0))), (q6, .inr (3, [.null, .int 0, .null, .null]))] H := hP
  have hD : va_D A [(h, .inr (6, [.ref q1, .ref q2, .ref q3, .ref q4, .ref q5, .null, .null, .null, .null, .int (nI 0)])), (q1, .inr (4, [.ref e1, .int (nI 0)])), (e1, .inl (G.2.1, 400, .inl (fun _ => 0))), (q2, .inr (4, [.ref e2, .int (nI 0)])), (e2, .inl (G.2.1, 400, .inl (fun _ => 0))), (q3, .inr (4, [.ref e3, .int (nI 0)])), (e3, .inl (G.2.1, 448, .inl (fun _ => 0))), (q4, .inr (4, [.ref e4, .int (nI 0)])), (e4, .inl (G.2.1, 32, .inl (fun _ => 0))), (q5, .inr (4, [.ref e5, .int (nI 0)])), (e5, .inl (G.2.1, 16, .inl (fun _ => 0))), (q6, .inr (3, [.null, .int 0, .null, .null]))] := hD
  refine W.widen (k := 11) (n := 1310) (by decide) (by decide) ?_
  refine lv_dup hx hb dX7_init_76 rfl ?_
  refine w_finv (wr := [(h, .inr (6, [.ref q1, .ref q2, .ref q3, .ref q4, .ref q5, .null, .null, .null, .null, .int (nI 0)])), (q1, .inr (4, [.ref e1, .int (nI 0)])), (e1, .inl (G.2.1, 400, .inl (fun _ => 0))), (q2, .inr (4, [.ref e2, .int (nI 0)])), (e2, .inl (G.2.1, 400, .inl (fun _ => 0))), (q3, .inr (4, [.ref e3, .int (nI 0)])), (e3, .inl (G.2.1, 448, .inl (fun _ => 0))), (q4, .inr (4, [.ref e4, .int (nI 0)])), (e4, .inl (G.2.1, 32, .inl (fun _ => 0))), (q5, .inr (4, [.ref e5, .int (nI 0)])), (e5, .inl (G.2.1, 16, .inl (fun _ => 0)))]) (va_runI (As := []) (rest := [.ref q6, .ref h]) ⟨hx, hb, hml, hown, hts⟩ (c_Des3_init l G q6 H.size) (cwI 0 hts gX7_init_X4_init rfl rfl rfl (hts (.initialized RX4) (by decide +kernel)) (hts (.methodLink RX7 32 yX4_init) (by decide +kernel)) (hts (.instanceMethod yX4_init) (by decide +kernel)) rfl (by decide +kernel) ⟨Nat.le_of_ble_eq_true rfl, Nat.le_of_ble_eq_true rfl⟩) ⟨wPre.blind, (fun U hU hW => ⟨rfl, w_pre hK hT hA hP hD hS (isC := [11]) (by decide) rfl U hU hW⟩)⟩ rfl rfl hl.1 rfl (lv_room (Nat.le_of_ble_eq_true rfl)) dX7_init_77 ⟨Nat.le_of_ble_eq_true rfl, Nat.le_of_ble_eq_true rfl⟩) hA hP hD hS [11] [0, 1, 2, 3, 4, 5, 6, 7, 8, 9, 10] rfl rfl (by decide) (by decide) (fun u H locs hpost hP hD hS => ?_)
  obtain ⟨e6, e7, e8, e9, e10, e11⟩ := u
  try dsimp only at hpost hP hD
  have hP : va_P G.1 vwCl [(h, .inr (6, [.ref q1, .ref q2, .ref q3, .ref q4, .ref q5, .null, .null, .null, .null, .int (nI 0)])), (q1, .inr (4, [.ref e1, .int (nI 0)])), (e1, .inl (G.2.1, 400, .inl (fun _ => 0))), (q2, .inr (4, [.ref e2, .int (nI 0)])), (e2, .inl (G.2.1, 400, .inl (fun _ => 0))), (q3, .inr (4, [.ref e3, .int (nI 0)])), (e3, .inl (G.2.1, 448, .inl (fun _ => 0))), (q4, .inr (4, [.ref e4, .int (nI 0)])), (e4, .inl (G.2.1, 32, .inl (fun _ => 0))), (q5, .inr (4, [.ref e5, .int (nI 0)])), (e5, .inl (G.2.1, 16, .inl (fun _ => 0))), (q6, .inr (3, [.ref e6, .int (nI 3), .ref e7, .ref e8])), (e6, .inl (G.2.1, 8, .inl (fun _ => 0))), (e7, .inr (2, [.ref e9, .ref e10])), (e8, .inr (2, [.ref e9, .ref e11])), (e9, .inl (G.2.1, 512, .inl mbI)), (e10, .inl (G.2.1, 128, .inl (fun _ => 0))), (e11, .inl (G.2.1, 128, .inl (fun _ => 0)))] H := hP
  have hD : va_D A [(h, .inr (6, [.ref q1, .ref q2, .ref q3, .ref q4, .ref q5, .null, .null, .null, .null, .int (nI 0)])), (q1, .inr (4, [.ref e1, .int (nI 0)])), (e1, .inl (G.2.1, 400, .inl (fun _ => 0))), (q2, .inr (4, [.ref e2, .int (nI 0)])), (e2, .inl (G.2.1, 400, .inl (fun _ => 0))), (q3, .inr (4, [.ref e3, .int (nI 0)])), (e3, .inl (G.2.1, 448, .inl (fun _ => 0))), (q4, .inr (4, [.ref e4, .int (nI 0)])), (e4, .inl (G.2.1, 32, .inl (fun _ => 0))), (q5, .inr (4, [.ref e5, .int (nI 0)])), (e5, .inl (G.2.1, 16, .inl (fun _ => 0))), (q6, .inr (3, [.ref e6, .int (nI 3), .ref e7, .ref e8])), (e6, .inl (G.2.1, 8, .inl (fun _ => 0))), (e7, .inr (2, [.ref e9, .ref e10])), (e8, .inr (2, [.ref e9, .ref e11])), (e9, .inl (G.2.1, 512, .inl mbI)), (e10, .inl (G.2.1, 128, .inl (fun _ => 0))), (e11, .inl (G.2.1, 128, .inl (fun _ => 0)))] := hD
  refine W.widen (k := 18) (n := 2310) (by decide) (by decide) ?_
  refine va_putF (D := G.1) (ci := 6) (v := .ref q6) (ty := .object "CipherBox$Des3") (C := RX7) (T := TX7) (N := 10) hx hb hts hinX7 tyX7 tyX7_ok nmX7 hown hK hP hD hS 0 rfl rfl 5 (by decide) (hts (.fieldLink RX7 33 "CipherBox" "des3" "LCipherBox$Des3;") (by decide +kernel)) (fun _ h9 => h9) rfl hnm rfl (by decide +kernel) rfl rfl (Nat.le_of_ble_eq_true rfl) dX7_init_80 (fun H locs hP hD hS => ?_)
  have hP : va_P G.1 vwCl [(h, .inr (6, [.ref q1, .ref q2, .ref q3, .ref q4, .ref q5, .ref q6, .null, .null, .null, .int (nI 0)])), (q1, .inr (4, [.ref e1, .int (nI 0)])), (e1, .inl (G.2.1, 400, .inl (fun _ => 0))), (q2, .inr (4, [.ref e2, .int (nI 0)])), (e2, .inl (G.2.1, 400, .inl (fun _ => 0))), (q3, .inr (4, [.ref e3, .int (nI 0)])), (e3, .inl (G.2.1, 448, .inl (fun _ => 0))), (q4, .inr (4, [.ref e4, .int (nI 0)])), (e4, .inl (G.2.1, 32, .inl (fun _ => 0))), (q5, .inr (4, [.ref e5, .int (nI 0)])), (e5, .inl (G.2.1, 16, .inl (fun _ => 0))), (q6, .inr (3, [.ref e6, .int (nI 3), .ref e7, .ref e8])), (e6, .inl (G.2.1, 8, .inl (fun _ => 0))), (e7, .inr (2, [.ref e9, .ref e10])), (e8, .inr (2, [.ref e9, .ref e11])), (e9, .inl (G.2.1, 512, .inl mbI)), (e10, .inl (G.2.1, 128, .inl (fun _ => 0))), (e11, .inl (G.2.1, 128, .inl (fun _ => 0)))] H := hP
  have hD : va_D A [(h, .inr (6, [.ref q1, .ref q2, .ref q3, .ref q4, .ref q5, .ref q6, .null, .null, .null, .int (nI 0)])), (q1, .inr (4, [.ref e1, .int (nI 0)])), (e1, .inl (G.2.1, 400, .inl (fun _ => 0))), (q2, .inr (4, [.ref e2, .int (nI 0)])), (e2, .inl (G.2.1, 400, .inl (fun _ => 0))), (q3, .inr (4, [.ref e3, .int (nI 0)])), (e3, .inl (G.2.1, 448, .inl (fun _ => 0))), (q4, .inr (4, [.ref e4, .int (nI 0)])), (e4, .inl (G.2.1, 32, .inl (fun _ => 0))), (q5, .inr (4, [.ref e5, .int (nI 0)])), (e5, .inl (G.2.1, 16, .inl (fun _ => 0))), (q6, .inr (3, [.ref e6, .int (nI 3), .ref e7, .ref e8])), (e6, .inl (G.2.1, 8, .inl (fun _ => 0))), (e7, .inr (2, [.ref e9, .ref e10])), (e8, .inr (2, [.ref e9, .ref e11])), (e9, .inl (G.2.1, 512, .inl mbI)), (e10, .inl (G.2.1, 128, .inl (fun _ => 0))), (e11, .inl (G.2.1, 128, .inl (fun _ => 0)))] := hD
  refine lv_aload_n hx hb dX7_init_83 rfl (lv_at hl 0 rfl) ?_
  refine va_new (ci := 0) (fs := [.null, .int 0, .null, .null, .null, .int 0]) (C := RX0) (T := TX0) (N := 6) hx hb hts hinX0 tyX0 tyX0_ok hown (hts (.classLink RX7 37 RX0) (by decide +kernel)) (hts (.instantiable RX0 6) (by decide +kernel)) (hts (.initialized RX0) (by decide +kernel)) hK hP hD hS hA rfl (by decide +kernel) (by decide) (by decide) dX7_init_84 (fun q7 H hP hD hS => ?_)
  have hP : va_P G.1 vwCl [(h, .inr (6, [.ref q1, .ref q2, .ref q3, .ref q4, .ref q5, .ref q6, .null, .null, .null, .int (nI 0)])), (q1, .inr (4, [.ref e1, .int (nI 0)])), (e1, .inl (G.2.1, 400, .inl (fun _ => 0))), (q2, .inr (4, [.ref e2, .int (nI 0)])), (e2, .inl (G.2.1, 400, .inl (fun _ => 0))), (q3, .inr (4, [.ref e3, .int (nI 0)])), (e3, .inl (G.2.1, 448, .inl (fun _ => 0))), (q4, .inr (4, [.ref e4, .int (nI 0)])), (e4, .inl (G.2.1, 32, .inl (fun _ => 0))), (q5, .inr (4, [.ref e5, .int (nI 0)])), (e5, .inl (G.2.1, 16, .inl (fun _ => 0))), (q6, .inr (3, [.ref e6, .int (nI 3), .ref e7, .ref e8])), (e6, .inl (G.2.1, 8, .inl (fun _ => 0))), (e7, .inr (2, [.ref e9, .ref e10])), (e8, .inr (2, [.ref e9, .ref e11])), (e9, .inl (G.2.1, 512, .inl mbI)), (e10, .inl (G.2.1, 128, .inl (fun _ => 0))), (e11, .inl (G.2.1, 128, .inl (fun _ => 0))), (q7, .inr (0, [.null, .int 0, .null, .null, .null, .int 0]))] H := hP
  have hD : va_D A [(h, .inr (6, [.ref q1, .ref q2, .ref q3, .ref q4, .ref q5, .ref q6, .null, .null, .null, .int (nI 0)])), (q1, .inr (4, [.ref e1, .int (nI 0)])), (e1, .inl (G.2.1, 400, .inl (fun _ => 0))), (q2, .inr (4, [.ref e2, .int (nI 0)])), (e2, .inl (G.2.1, 400, .inl (fun _ => 0))), (q3, .inr (4, [.ref e3, .int (nI 0)])), (e3, .inl (G.2.1, 448, .inl (fun _ => 0))), (q4, .inr (4, [.ref e4, .int (nI 0)])), (e4, .inl (G.2.1, 32, .inl (fun _ => 0))), (q5, .inr (4, [.ref e5, .int (nI 0)])), (e5, .inl (G.2.1, 16, .inl (fun _ => 0))), (q6, .inr (3, [.ref e6, .int (nI 3), .ref e7, .ref e8])), (e6, .inl (G.2.1, 8, .inl (fun _ => 0))), (e7, .inr (2, [.ref e9, .ref e10])), (e8, .inr (2, [.ref e9, .ref e11])), (e9, .inl (G.2.1, 512, .inl mbI)), (e10, .inl (G.2.1, 128, .inl (fun _ => 0))), (e11, .inl (G.2.1, 128, .inl (fun _ => 0))), (q7, .inr (0, [.null, .int 0, .null, .null, .null, .int 0]))] := hD
  refine W.widen (k := 19) (n := 2316) (by decide) (by decide) ?_
  refine lv_dup hx hb dX7_init_87 rfl ?_
  refine w_finv (wr := [(h, .inr (6, [.ref q1, .ref q2, .ref q3, .ref q4, .ref q5, .ref q6, .null, .null, .null, .int (nI 0)])), (q1, .inr (4, [.ref e1, .int (nI 0)])), (e1, .inl (G.2.1, 400, .inl (fun _ => 0))), (q2, .inr (4, [.ref e2, .int (nI 0)])), (e2, .inl (G.2.1, 400, .inl (fun _ => 0))), (q3, .inr (4, [.ref e3, .int (nI 0)])), (e3, .inl (G.2.1, 448, .inl (fun _ => 0))), (q4, .inr (4, [.ref e4, .int (nI 0)])), (e4, .inl (G.2.1, 32, .inl (fun _ => 0))), (q5, .inr (4, [.ref e5, .int (nI 0)])), (e5, .inl (G.2.1, 16, .inl (fun _ => 0))), (q6, .inr (3, [.ref e6, .int (nI 3), .ref e7, .ref e8])), (e6, .inl (G.2.1, 8, .inl (fun _ => 0))), (e7, .inr (2, [.ref e9, .ref e10])), (e8, .inr (2, [.ref e9, .ref e11])), (e9, .inl (G.2.1, 512, .inl mbI)), (e10, .inl (G.2.1, 128, .inl (fun _ => 0))), (e11, .inl (G.2.1, 128, .inl (fun _ => 0)))]) (va_runI (As := []) (rest := [.ref q7, .ref h]) ⟨hx, hb, hml, hown, hts⟩ (c_Aes_init l G q7 H.size) (cwI 0 hts gX7_init_X0_init rfl rfl rfl (hts (.initialized RX0) (by decide +kernel)) (hts (.methodLink RX7 39 yX0_init) (by decide +kernel)) (hts (.instanceMethod yX0_init) (by decide +kernel)) rfl (by decide +kernel) ⟨Nat.le_of_ble_eq_true rfl, Nat.le_of_ble_eq_true rfl⟩) ⟨wPre.blind, (fun U hU hW => ⟨rfl, w_pre hK hT hA hP hD hS (isC := [18]) (by decide) rfl U hU hW⟩)⟩ rfl rfl hl.1 rfl (lv_room (Nat.le_of_ble_eq_true rfl)) dX7_init_88 ⟨Nat.le_of_ble_eq_true rfl, Nat.le_of_ble_eq_true rfl⟩) hA hP hD hS [18] [0, 1, 2, 3, 4, 5, 6, 7, 8, 9, 10, 11, 12, 13, 14, 15, 16, 17] rfl rfl (by decide) (by decide) (fun u H locs hpost hP hD hS => ?_)
  obtain ⟨e12, e13, e14, e15⟩ := u
  try dsimp only at hpost hP hD
  have hP : va_P G.1 vwCl [(h, .inr (6, [.ref q1, .ref q2, .ref q3, .ref q4, .ref q5, .ref q6, .null, .null, .null, .int (nI 0)])), (q1, .inr (4, [.ref e1, .int (nI 0)])), (e1, .inl (G.2.1, 400, .inl (fun _ => 0))), (q2, .inr (4, [.ref e2, .int (nI 0)])), (e2, .inl (G.2.1, 400, .inl (fun _ => 0))), (q3, .inr (4, [.ref e3, .int (nI 0)])), (e3, .inl (G.2.1, 448, .inl (fun _ => 0))), (q4, .inr (4, [.ref e4, .int (nI 0)])), (e4, .inl (G.2.1, 32, .inl (fun _ => 0))), (q5, .inr (4, [.ref e5, .int (nI 0)])), (e5, .inl (G.2.1, 16, .inl (fun _ => 0))), (q6, .inr (3, [.ref e6, .int (nI 3), .ref e7, .ref e8])), (e6, .inl (G.2.1, 8, .inl (fun _ => 0))), (e7, .inr (2, [.ref e9, .ref e10])), (e8, .inr (2, [.ref e9, .ref e11])), (e9, .inl (G.2.1, 512, .inl mbI)), (e10, .inl (G.2.1, 128, .inl (fun _ => 0))), (e11, .inl (G.2.1, 128, .inl (fun _ => 0))), (q7, .inr (0, [.ref e12, .int (nI 4), .ref e13, .ref e14, .ref e15, .int (nI 0)])), (e12, .inl (G.2.1, 16, .inl (fun _ => 0))), (e13, .inl (G.2.1, 256, .inl (orR 256))), (e14, .inl (G.2.1, 60, .inl (fun _ => 0))), (e15, .inl (G.2.1, 16, .inl (fun _ => 0)))] H := hP
  have hD : va_D A [(h, .inr (6, [.ref q1, .ref q2, .ref q3, .ref q4, .ref q5, .ref q6, .null, .null, .null, .int (nI 0)])), (q1, .inr (4, [.ref e1, .int (nI 0)])), (e1, .inl (G.2.1, 400, .inl (fun _ => 0))), (q2, .inr (4, [.ref e2, .int (nI 0)])), (e2, .inl (G.2.1, 400, .inl (fun _ => 0))), (q3, .inr (4, [.ref e3, .int (nI 0)])), (e3, .inl (G.2.1, 448, .inl (fun _ => 0))), (q4, .inr (4, [.ref e4, .int (nI 0)])), (e4, .inl (G.2.1, 32, .inl (fun _ => 0))), (q5, .inr (4, [.ref e5, .int (nI 0)])), (e5, .inl (G.2.1, 16, .inl (fun _ => 0))), (q6, .inr (3, [.ref e6, .int (nI 3), .ref e7, .ref e8])), (e6, .inl (G.2.1, 8, .inl (fun _ => 0))), (e7, .inr (2, [.ref e9, .ref e10])), (e8, .inr (2, [.ref e9, .ref e11])), (e9, .inl (G.2.1, 512, .inl mbI)), (e10, .inl (G.2.1, 128, .inl (fun _ => 0))), (e11, .inl (G.2.1, 128, .inl (fun _ => 0))), (q7, .inr (0, [.ref e12, .int (nI 4), .ref e13, .ref e14, .ref e15, .int (nI 0)])), (e12, .inl (G.2.1, 16, .inl (fun _ => 0))), (e13, .inl (G.2.1, 256, .inl (orR 256))), (e14, .inl (G.2.1, 60, .inl (fun _ => 0))), (e15, .inl (G.2.1, 16, .inl (fun _ => 0)))] := hD
  refine W.widen (k := 23) (n := 2664) (by decide) (by decide) ?_
  refine va_putF (D := G.1) (ci := 6) (v := .ref q7) (ty := .object "CipherBox$Aes") (C := RX7) (T := TX7) (N := 10) hx hb hts hinX7 tyX7 tyX7_ok nmX7 hown hK hP hD hS 0 rfl rfl 6 (by decide) (hts (.fieldLink RX7 40 "CipherBox" "aes" "LCipherBox$Aes;") (by decide +kernel)) (fun _ h9 => h9) rfl hnm rfl (by decide +kernel) rfl rfl (Nat.le_of_ble_eq_true rfl) dX7_init_91 (fun H locs hP hD hS => ?_)
  have hP : va_P G.1 vwCl [(h, .inr (6, [.ref q1, .ref q2, .ref q3, .ref q4, .ref q5, .ref q6, .ref q7, .null, .null, .int (nI 0)])), (q1, .inr (4, [.ref e1, .int (nI 0)])), (e1, .inl (G.2.1, 400, .inl (fun _ => 0))), (q2, .inr (4, [.ref e2, .int (nI 0)])), (e2, .inl (G.2.1, 400, .inl (fun _ => 0))), (q3, .inr (4, [.ref e3, .int (nI 0)])), (e3, .inl (G.2.1, 448, .inl (fun _ => 0))), (q4, .inr (4, [.ref e4, .int (nI 0)])), (e4, .inl (G.2.1, 32, .inl (fun _ => 0))), (q5, .inr (4, [.ref e5, .int (nI 0)])), (e5, .inl (G.2.1, 16, .inl (fun _ => 0))), (q6, .inr (3, [.ref e6, .int (nI 3), .ref e7, .ref e8])), (e6, .inl (G.2.1, 8, .inl (fun _ => 0))), (e7, .inr (2, [.ref e9, .ref e10])), (e8, .inr (2, [.ref e9, .ref e11])), (e9, .inl (G.2.1, 512, .inl mbI)), (e10, .inl (G.2.1, 128, .inl (fun _ => 0))), (e11, .inl (G.2.1, 128, .inl (fun _ => 0))), (q7, .inr (0, [.ref e12, .int (nI 4), .ref e13, .ref e14, .ref e15, .int (nI 0)])), (e12, .inl (G.2.1, 16, .inl (fun _ => 0))), (e13, .inl (G.2.1, 256, .inl (orR 256))), (e14, .inl (G.2.1, 60, .inl (fun _ => 0))), (e15, .inl (G.2.1, 16, .inl (fun _ => 0)))] H := hP
  have hD : va_D A [(h, .inr (6, [.ref q1, .ref q2, .ref q3, .ref q4, .ref q5, .ref q6, .ref q7, .null, .null, .int (nI 0)])), (q1, .inr (4, [.ref e1, .int (nI 0)])), (e1, .inl (G.2.1, 400, .inl (fun _ => 0))), (q2, .inr (4, [.ref e2, .int (nI 0)])), (e2, .inl (G.2.1, 400, .inl (fun _ => 0))), (q3, .inr (4, [.ref e3, .int (nI 0)])), (e3, .inl (G.2.1, 448, .inl (fun _ => 0))), (q4, .inr (4, [.ref e4, .int (nI 0)])), (e4, .inl (G.2.1, 32, .inl (fun _ => 0))), (q5, .inr (4, [.ref e5, .int (nI 0)])), (e5, .inl (G.2.1, 16, .inl (fun _ => 0))), (q6, .inr (3, [.ref e6, .int (nI 3), .ref e7, .ref e8])), (e6, .inl (G.2.1, 8, .inl (fun _ => 0))), (e7, .inr (2, [.ref e9, .ref e10])), (e8, .inr (2, [.ref e9, .ref e11])), (e9, .inl (G.2.1, 512, .inl mbI)), (e10, .inl (G.2.1, 128, .inl (fun _ => 0))), (e11, .inl (G.2.1, 128, .inl (fun _ => 0))), (q7, .inr (0, [.ref e12, .int (nI 4), .ref e13, .ref e14, .ref e15, .int (nI 0)])), (e12, .inl (G.2.1, 16, .inl (fun _ => 0))), (e13, .inl (G.2.1, 256, .inl (orR 256))), (e14, .inl (G.2.1, 60, .inl (fun _ => 0))), (e15, .inl (G.2.1, 16, .inl (fun _ => 0)))] := hD
  refine lv_aload_n hx hb dX7_init_94 rfl (lv_at hl 0 rfl) ?_
  refine va_new (ci := 1) (fs := [.null]) (C := RX2) (T := TX2) (N := 1) hx hb hts hinX2 tyX2 tyX2_ok hown (hts (.classLink RX7 44 RX2) (by decide +kernel)) (hts (.instantiable RX2 1) (by decide +kernel)) (hts (.initialized RX2) (by decide +kernel)) hK hP hD hS hA rfl (by decide +kernel) (by decide) (by decide) dX7_init_95 (fun q8 H hP hD hS => ?_)
  have hP : va_P G.1 vwCl [(h, .inr (6, [.ref q1, .ref q2, .ref q3, .ref q4, .ref q5, .ref q6, .ref q7, .null, .null, .int (nI 0)])), (q1, .inr (4, [.ref e1, .int (nI 0)])), (e1, .inl (G.2.1, 400, .inl (fun _ => 0))), (q2, .inr (4, [.ref e2, .int (nI 0)])), (e2, .inl (G.2.1, 400, .inl (fun _ => 0))), (q3, .inr (4, [.ref e3, .int (nI 0)])), (e3, .inl (G.2.1, 448, .inl (fun _ => 0))), (q4, .inr (4, [.ref e4, .int (nI 0)])), (e4, .inl (G.2.1, 32, .inl (fun _ => 0))), (q5, .inr (4, [.ref e5, .int (nI 0)])), (e5, .inl (G.2.1, 16, .inl (fun _ => 0))), (q6, .inr (3, [.ref e6, .int (nI 3), .ref e7, .ref e8])), (e6, .inl (G.2.1, 8, .inl (fun _ => 0))), (e7, .inr (2, [.ref e9, .ref e10])), (e8, .inr (2, [.ref e9, .ref e11])), (e9, .inl (G.2.1, 512, .inl mbI)), (e10, .inl (G.2.1, 128, .inl (fun _ => 0))), (e11, .inl (G.2.1, 128, .inl (fun _ => 0))), (q7, .inr (0, [.ref e12, .int (nI 4), .ref e13, .ref e14, .ref e15, .int (nI 0)])), (e12, .inl (G.2.1, 16, .inl (fun _ => 0))), (e13, .inl (G.2.1, 256, .inl (orR 256))), (e14, .inl (G.2.1, 60, .inl (fun _ => 0))), (e15, .inl (G.2.1, 16, .inl (fun _ => 0))), (q8, .inr (1, [.null]))] H := hP
  have hD : va_D A [(h, .inr (6, [.ref q1, .ref q2, .ref q3, .ref q4, .ref q5, .ref q6, .ref q7, .null, .null, .int (nI 0)])), (q1, .inr (4, [.ref e1, .int (nI 0)])), (e1, .inl (G.2.1, 400, .inl (fun _ => 0))), (q2, .inr (4, [.ref e2, .int (nI 0)])), (e2, .inl (G.2.1, 400, .inl (fun _ => 0))), (q3, .inr (4, [.ref e3, .int (nI 0)])), (e3, .inl (G.2.1, 448, .inl (fun _ => 0))), (q4, .inr (4, [.ref e4, .int (nI 0)])), (e4, .inl (G.2.1, 32, .inl (fun _ => 0))), (q5, .inr (4, [.ref e5, .int (nI 0)])), (e5, .inl (G.2.1, 16, .inl (fun _ => 0))), (q6, .inr (3, [.ref e6, .int (nI 3), .ref e7, .ref e8])), (e6, .inl (G.2.1, 8, .inl (fun _ => 0))), (e7, .inr (2, [.ref e9, .ref e10])), (e8, .inr (2, [.ref e9, .ref e11])), (e9, .inl (G.2.1, 512, .inl mbI)), (e10, .inl (G.2.1, 128, .inl (fun _ => 0))), (e11, .inl (G.2.1, 128, .inl (fun _ => 0))), (q7, .inr (0, [.ref e12, .int (nI 4), .ref e13, .ref e14, .ref e15, .int (nI 0)])), (e12, .inl (G.2.1, 16, .inl (fun _ => 0))), (e13, .inl (G.2.1, 256, .inl (orR 256))), (e14, .inl (G.2.1, 60, .inl (fun _ => 0))), (e15, .inl (G.2.1, 16, .inl (fun _ => 0))), (q8, .inr (1, [.null]))] := hD
  refine W.widen (k := 24) (n := 2665) (by decide) (by decide) ?_
  refine lv_dup hx hb dX7_init_98 rfl ?_
  refine w_finv (wr := [(h, .inr (6, [.ref q1, .ref q2, .ref q3, .ref q4, .ref q5, .ref q6, .ref q7, .null, .null, .int (nI 0)])), (q1, .inr (4, [.ref e1, .int (nI 0)])), (e1, .inl (G.2.1, 400, .inl (fun _ => 0))), (q2, .inr (4, [.ref e2, .int (nI 0)])), (e2, .inl (G.2.1, 400, .inl (fun _ => 0))), (q3, .inr (4, [.ref e3, .int (nI 0)])), (e3, .inl (G.2.1, 448, .inl (fun _ => 0))), (q4, .inr (4, [.ref e4, .int (nI 0)])), (e4, .inl (G.2.1, 32, .inl (fun _ => 0))), (q5, .inr (4, [.ref e5, .int (nI 0)])), (e5, .inl (G.2.1, 16, .inl (fun _ => 0))), (q6, .inr (3, [.ref e6, .int (nI 3), .ref e7, .ref e8])), (e6, .inl (G.2.1, 8, .inl (fun _ => 0))), (e7, .inr (2, [.ref e9, .ref e10])), (e8, .inr (2, [.ref e9, .ref e11])), (e9, .inl (G.2.1, 512, .inl mbI)), (e10, .inl (G.2.1, 128, .inl (fun _ => 0))), (e11, .inl (G.2.1, 128, .inl (fun _ => 0))), (q7, .inr (0, [.ref e12, .int (nI 4), .ref e13, .ref e14, .ref e15, .int (nI 0)])), (e12, .inl (G.2.1, 16, .inl (fun _ => 0))), (e13, .inl (G.2.1, 256, .inl (orR 256))), (e14, .inl (G.2.1, 60, .inl (fun _ => 0))), (e15, .inl (G.2.1, 16, .inl (fun _ => 0)))]) (va_runIN (As := []) (rest := [.ref q8, .ref h]) ⟨hx, hb, hml, hown, hts⟩ (c_Cmac_init l G q8 H.size) ⟨va_cnB 0 hts gX7_init_X2_init_n46 rfl rfl rfl hT.2.1 (hts (.initialized RX2) (by decide +kernel)) (by decide +kernel) ⟨Nat.le_of_ble_eq_true rfl, Nat.le_of_ble_eq_true rfl⟩, rfl, hts (.instanceMethod yX2_init) (by decide +kernel)⟩ ⟨wPre.blind, (fun U hU hW => ⟨rfl, w_pre hK hT hA hP hD hS (isC := [23]) (by decide) rfl U hU hW⟩)⟩ rfl rfl hl.1 rfl (lv_room (Nat.le_of_ble_eq_true rfl)) dX7_init_99 ⟨Nat.le_of_ble_eq_true rfl, Nat.le_of_ble_eq_true rfl⟩) hA hP hD hS [23] [0, 1, 2, 3, 4, 5, 6, 7, 8, 9, 10, 11, 12, 13, 14, 15, 16, 17, 18, 19, 20, 21, 22] rfl rfl (by decide) (by decide) (fun u H locs hpost hP hD hS => ?_)
  obtain ⟨e16, rfl⟩ : ∃ z, z = u := ⟨_, rfl⟩
  try dsimp only at hpost hP hD
  have hP : va_P G.1 vwCl [(h, .inr (6, [.ref q1, .ref q2, .ref q3, .ref q4, .ref q5, .ref q6, .ref q7, .null, .null, .int (nI 0)])), (q1, .inr (4, [.ref e1, .int (nI 0)])), (e1, .inl (G.2.1, 400, .inl (fun _ => 0))), (q2, .inr (4, [.ref e2, .int (nI 0)])), (e2, .inl (G.2.1, 400, .inl (fun _ => 0))), (q3, .inr (4, [.ref e3, .int (nI 0)])), (e3, .inl (G.2.1, 448, .inl (fun _ => 0))), (q4, .inr (4, [.ref e4, .int (nI 0)])), (e4, .inl (G.2.1, 32, .inl (fun _ => 0))), (q5, .inr (4, [.ref e5, .int (nI 0)])), (e5, .inl (G.2.1, 16, .inl (fun _ => 0))), (q6, .inr (3, [.ref e6, .int (nI 3), .ref e7, .ref e8])), (e6, .inl (G.2.1, 8, .inl (fun _ => 0))), (e7, .inr (2, [.ref e9, .ref e10])), (e8, .inr (2, [.ref e9, .ref e11])), (e9, .inl (G.2.1, 512, .inl mbI)), (e10, .inl (G.2.1, 128, .inl (fun _ => 0))), (e11, .inl (G.2.1, 128, .inl (fun _ => 0))), (q7, .inr (0, [.ref e12, .int (nI 4), .ref e13, .ref e14, .ref e15, .int (nI 0)])), (e12, .inl (G.2.1, 16, .inl (fun _ => 0))), (e13, .inl (G.2.1, 256, .inl (orR 256))), (e14, .inl (G.2.1, 60, .inl (fun _ => 0))), (e15, .inl (G.2.1, 16, .inl (fun _ => 0))), (q8, .inr (1, [.ref e16])), (e16, .inl (G.2.1, 16, .inl (fun _ => 0)))] H := hP
  have hD : va_D A [(h, .inr (6, [.ref q1, .ref q2, .ref q3, .ref q4, .ref q5, .ref q6, .ref q7, .null, .null, .int (nI 0)])), (q1, .inr (4, [.ref e1, .int (nI 0)])), (e1, .inl (G.2.1, 400, .inl (fun _ => 0))), (q2, .inr (4, [.ref e2, .int (nI 0)])), (e2, .inl (G.2.1, 400, .inl (fun _ => 0))), (q3, .inr (4, [.ref e3, .int (nI 0)])), (e3, .inl (G.2.1, 448, .inl (fun _ => 0))), (q4, .inr (4, [.ref e4, .int (nI 0)])), (e4, .inl (G.2.1, 32, .inl (fun _ => 0))), (q5, .inr (4, [.ref e5, .int (nI 0)])), (e5, .inl (G.2.1, 16, .inl (fun _ => 0))), (q6, .inr (3, [.ref e6, .int (nI 3), .ref e7, .ref e8])), (e6, .inl (G.2.1, 8, .inl (fun _ => 0))), (e7, .inr (2, [.ref e9, .ref e10])), (e8, .inr (2, [.ref e9, .ref e11])), (e9, .inl (G.2.1, 512, .inl mbI)), (e10, .inl (G.2.1, 128, .inl (fun _ => 0))), (e11, .inl (G.2.1, 128, .inl (fun _ => 0))), (q7, .inr (0, [.ref e12, .int (nI 4), .ref e13, .ref e14, .ref e15, .int (nI 0)])), (e12, .inl (G.2.1, 16, .inl (fun _ => 0))), (e13, .inl (G.2.1, 256, .inl (orR 256))), (e14, .inl (G.2.1, 60, .inl (fun _ => 0))), (e15, .inl (G.2.1, 16, .inl (fun _ => 0))), (q8, .inr (1, [.ref e16])), (e16, .inl (G.2.1, 16, .inl (fun _ => 0)))] := hD
  refine W.widen (k := 25) (n := 2681) (by decide) (by decide) ?_
  refine va_putF (D := G.1) (ci := 6) (v := .ref q8) (ty := .object "CipherBox$Cmac") (C := RX7) (T := TX7) (N := 10) hx hb hts hinX7 tyX7 tyX7_ok nmX7 hown hK hP hD hS 0 rfl rfl 7 (by decide) (hts (.fieldLink RX7 47 "CipherBox" "cmac" "LCipherBox$Cmac;") (by decide +kernel)) (fun _ h9 => h9) rfl hnm rfl (by decide +kernel) rfl rfl (Nat.le_of_ble_eq_true rfl) dX7_init_102 (fun H locs hP hD hS => ?_)
  have hP : va_P G.1 vwCl [(h, .inr (6, [.ref q1, .ref q2, .ref q3, .ref q4, .ref q5, .ref q6, .ref q7, .ref q8, .null, .int (nI 0)])), (q1, .inr (4, [.ref e1, .int (nI 0)])), (e1, .inl (G.2.1, 400, .inl (fun _ => 0))), (q2, .inr (4, [.ref e2, .int (nI 0)])), (e2, .inl (G.2.1, 400, .inl (fun _ => 0))), (q3, .inr (4, [.ref e3, .int (nI 0)])), (e3, .inl (G.2.1, 448, .inl (fun _ => 0))), (q4, .inr (4, [.ref e4, .int (nI 0)])), (e4, .inl (G.2.1, 32, .inl (fun _ => 0))), (q5, .inr (4, [.ref e5, .int (nI 0)])), (e5, .inl (G.2.1, 16, .inl (fun _ => 0))), (q6, .inr (3, [.ref e6, .int (nI 3), .ref e7, .ref e8])), (e6, .inl (G.2.1, 8, .inl (fun _ => 0))), (e7, .inr (2, [.ref e9, .ref e10])), (e8, .inr (2, [.ref e9, .ref e11])), (e9, .inl (G.2.1, 512, .inl mbI)), (e10, .inl (G.2.1, 128, .inl (fun _ => 0))), (e11, .inl (G.2.1, 128, .inl (fun _ => 0))), (q7, .inr (0, [.ref e12, .int (nI 4), .ref e13, .ref e14, .ref e15, .int (nI 0)])), (e12, .inl (G.2.1, 16, .inl (fun _ => 0))), (e13, .inl (G.2.1, 256, .inl (orR 256))), (e14, .inl (G.2.1, 60, .inl (fun _ => 0))), (e15, .inl (G.2.1, 16, .inl (fun _ => 0))), (q8, .inr (1, [.ref e16])), (e16, .inl (G.2.1, 16, .inl (fun _ => 0)))] H := hP
  have hD : va_D A [(h, .inr (6, [.ref q1, .ref q2, .ref q3, .ref q4, .ref q5, .ref q6, .ref q7, .ref q8, .null, .int (nI 0)])), (q1, .inr (4, [.ref e1, .int (nI 0)])), (e1, .inl (G.2.1, 400, .inl (fun _ => 0))), (q2, .inr (4, [.ref e2, .int (nI 0)])), (e2, .inl (G.2.1, 400, .inl (fun _ => 0))), (q3, .inr (4, [.ref e3, .int (nI 0)])), (e3, .inl (G.2.1, 448, .inl (fun _ => 0))), (q4, .inr (4, [.ref e4, .int (nI 0)])), (e4, .inl (G.2.1, 32, .inl (fun _ => 0))), (q5, .inr (4, [.ref e5, .int (nI 0)])), (e5, .inl (G.2.1, 16, .inl (fun _ => 0))), (q6, .inr (3, [.ref e6, .int (nI 3), .ref e7, .ref e8])), (e6, .inl (G.2.1, 8, .inl (fun _ => 0))), (e7, .inr (2, [.ref e9, .ref e10])), (e8, .inr (2, [.ref e9, .ref e11])), (e9, .inl (G.2.1, 512, .inl mbI)), (e10, .inl (G.2.1, 128, .inl (fun _ => 0))), (e11, .inl (G.2.1, 128, .inl (fun _ => 0))), (q7, .inr (0, [.ref e12, .int (nI 4), .ref e13, .ref e14, .ref e15, .int (nI 0)])), (e12, .inl (G.2.1, 16, .inl (fun _ => 0))), (e13, .inl (G.2.1, 256, .inl (orR 256))), (e14, .inl (G.2.1, 60, .inl (fun _ => 0))), (e15, .inl (G.2.1, 16, .inl (fun _ => 0))), (q8, .inr (1, [.ref e16])), (e16, .inl (G.2.1, 16, .inl (fun _ => 0)))] := hD
  refine lv_aload_n hx hb dX7_init_105 rfl (lv_at hl 0 rfl) ?_
  refine va_new (ci := 5) (fs := [.null, .null]) (C := RX6) (T := TX6) (N := 2) hx hb hts hinX6 tyX6 tyX6_ok hown (hts (.classLink RX7 51 RX6) (by decide +kernel)) (hts (.instantiable RX6 2) (by decide +kernel)) (hts (.initialized RX6) (by decide +kernel)) hK hP hD hS hA rfl (by decide +kernel) (by decide) (by decide) dX7_init_106 (fun q9 H hP hD hS => ?_)
  have hP : va_P G.1 vwCl [(h, .inr (6, [.ref q1, .ref q2, .ref q3, .ref q4, .ref q5, .ref q6, .ref q7, .ref q8, .null, .int (nI 0)])), (q1, .inr (4, [.ref e1, .int (nI 0)])), (e1, .inl (G.2.1, 400, .inl (fun _ => 0))), (q2, .inr (4, [.ref e2, .int (nI 0)])), (e2, .inl (G.2.1, 400, .inl (fun _ => 0))), (q3, .inr (4, [.ref e3, .int (nI 0)])), (e3, .inl (G.2.1, 448, .inl (fun _ => 0))), (q4, .inr (4, [.ref e4, .int (nI 0)])), (e4, .inl (G.2.1, 32, .inl (fun _ => 0))), (q5, .inr (4, [.ref e5, .int (nI 0)])), (e5, .inl (G.2.1, 16, .inl (fun _ => 0))), (q6, .inr (3, [.ref e6, .int (nI 3), .ref e7, .ref e8])), (e6, .inl (G.2.1, 8, .inl (fun _ => 0))), (e7, .inr (2, [.ref e9, .ref e10])), (e8, .inr (2, [.ref e9, .ref e11])), (e9, .inl (G.2.1, 512, .inl mbI)), (e10, .inl (G.2.1, 128, .inl (fun _ => 0))), (e11, .inl (G.2.1, 128, .inl (fun _ => 0))), (q7, .inr (0, [.ref e12, .int (nI 4), .ref e13, .ref e14, .ref e15, .int (nI 0)])), (e12, .inl (G.2.1, 16, .inl (fun _ => 0))), (e13, .inl (G.2.1, 256, .inl (orR 256))), (e14, .inl (G.2.1, 60, .inl (fun _ => 0))), (e15, .inl (G.2.1, 16, .inl (fun _ => 0))), (q8, .inr (1, [.ref e16])), (e16, .inl (G.2.1, 16, .inl (fun _ => 0))), (q9, .inr (5, [.null, .null]))] H := hP
  have hD : va_D A [(h, .inr (6, [.ref q1, .ref q2, .ref q3, .ref q4, .ref q5, .ref q6, .ref q7, .ref q8, .null, .int (nI 0)])), (q1, .inr (4, [.ref e1, .int (nI 0)])), (e1, .inl (G.2.1, 400, .inl (fun _ => 0))), (q2, .inr (4, [.ref e2, .int (nI 0)])), (e2, .inl (G.2.1, 400, .inl (fun _ => 0))), (q3, .inr (4, [.ref e3, .int (nI 0)])), (e3, .inl (G.2.1, 448, .inl (fun _ => 0))), (q4, .inr (4, [.ref e4, .int (nI 0)])), (e4, .inl (G.2.1, 32, .inl (fun _ => 0))), (q5, .inr (4, [.ref e5, .int (nI 0)])), (e5, .inl (G.2.1, 16, .inl (fun _ => 0))), (q6, .inr (3, [.ref e6, .int (nI 3), .ref e7, .ref e8])), (e6, .inl (G.2.1, 8, .inl (fun _ => 0))), (e7, .inr (2, [.ref e9, .ref e10])), (e8, .inr (2, [.ref e9, .ref e11])), (e9, .inl (G.2.1, 512, .inl mbI)), (e10, .inl (G.2.1, 128, .inl (fun _ => 0))), (e11, .inl (G.2.1, 128, .inl (fun _ => 0))), (q7, .inr (0, [.ref e12, .int (nI 4), .ref e13, .ref e14, .ref e15, .int (nI 0)])), (e12, .inl (G.2.1, 16, .inl (fun _ => 0))), (e13, .inl (G.2.1, 256, .inl (orR 256))), (e14, .inl (G.2.1, 60, .inl (fun _ => 0))), (e15, .inl (G.2.1, 16, .inl (fun _ => 0))), (q8, .inr (1, [.ref e16])), (e16, .inl (G.2.1, 16, .inl (fun _ => 0))), (q9, .inr (5, [.null, .null]))] := hD
  refine W.widen (k := 26) (n := 2683) (by decide) (by decide) ?_
  refine lv_dup hx hb dX7_init_109 rfl ?_
  refine w_finv (wr := [(h, .inr (6, [.ref q1, .ref q2, .ref q3, .ref q4, .ref q5, .ref q6, .ref q7, .ref q8, .null, .int (nI 0)])), (q1, .inr (4, [.ref e1, .int (nI 0)])), (e1, .inl (G.2.1, 400, .inl (fun _ => 0))), (q2, .inr (4, [.ref e2, .int (nI 0)])), (e2, .inl (G.2.1, 400, .inl (fun _ => 0))), (q3, .inr (4, [.ref e3, .int (nI 0)])), (e3, .inl (G.2.1, 448, .inl (fun _ => 0))), (q4, .inr (4, [.ref e4, .int (nI 0)])), (e4, .inl (G.2.1, 32, .inl (fun _ => 0))), (q5, .inr (4, [.ref e5, .int (nI 0)])), (e5, .inl (G.2.1, 16, .inl (fun _ => 0))), (q6, .inr (3, [.ref e6, .int (nI 3), .ref e7, .ref e8])), (e6, .inl (G.2.1, 8, .inl (fun _ => 0))), (e7, .inr (2, [.ref e9, .ref e10])), (e8, .inr (2, [.ref e9, .ref e11])), (e9, .inl (G.2.1, 512, .inl mbI)), (e10, .inl (G.2.1, 128, .inl (fun _ => 0))), (e11, .inl (G.2.1, 128, .inl (fun _ => 0))), (q7, .inr (0, [.ref e12, .int (nI 4), .ref e13, .ref e14, .ref e15, .int (nI 0)])), (e12, .inl (G.2.1, 16, .inl (fun _ => 0))), (e13, .inl (G.2.1, 256, .inl (orR 256))), (e14, .inl (G.2.1, 60, .inl (fun _ => 0))), (e15, .inl (G.2.1, 16, .inl (fun _ => 0))), (q8, .inr (1, [.ref e16])), (e16, .inl (G.2.1, 16, .inl (fun _ => 0)))]) (va_runIN (As := []) (rest := [.ref q9, .ref h]) ⟨hx, hb, hml, hown, hts⟩ (c_Sha_init l G q9 H.size) ⟨va_cnB 0 hts gX7_init_X6_init_n53 rfl rfl rfl hT.2.2.1 (hts (.initialized RX6) (by decide +kernel)) (by decide +kernel) ⟨Nat.le_of_ble_eq_true rfl, Nat.le_of_ble_eq_true rfl⟩, rfl, hts (.instanceMethod yX6_init) (by decide +kernel)⟩ ⟨wPre.blind, (fun U hU hW => ⟨rfl, w_pre hK hT hA hP hD hS (isC := [25]) (by decide) rfl U hU hW⟩)⟩ rfl rfl hl.1 rfl (lv_room (Nat.le_of_ble_eq_true rfl)) dX7_init_110 ⟨Nat.le_of_ble_eq_true rfl, Nat.le_of_ble_eq_true rfl⟩) hA hP hD hS [25] [0, 1, 2, 3, 4, 5, 6, 7, 8, 9, 10, 11, 12, 13, 14, 15, 16, 17, 18, 19, 20, 21, 22, 23, 24] rfl rfl (by decide) (by decide) (fun u H locs hpost hP hD hS => ?_)
  obtain ⟨e17, e18⟩ := u
  try dsimp only at hpost hP hD
  have hP : va_P G.1 vwCl [(h, .inr (6, [.ref q1, .ref q2, .ref q3, .ref q4, .ref q5, .ref q6, .ref q7, .ref q8, .null, .int (nI 0)])), (q1, .inr (4, [.ref e1, .int (nI 0)])), (e1, .inl (G.2.1, 400, .inl (fun _ => 0))), (q2, .inr (4, [.ref e2, .int (nI 0)])), (e2, .inl (G.2.1, 400, .inl (fun _ => 0))), (q3, .inr (4, [.ref e3, .int (nI 0)])), (e3, .inl (G.2.1, 448, .inl (fun _ => 0))), (q4, .inr (4, [.ref e4, .int (nI 0)])), (e4, .inl (G.2.1, 32, .inl (fun _ => 0))), (q5, .inr (4, [.ref e5, .int (nI 0)])), (e5, .inl (G.2.1, 16, .inl (fun _ => 0))), (q6, .inr (3, [.ref e6, .int (nI 3), .ref e7, .ref e8])), (e6, .inl (G.2.1, 8, .inl (fun _ => 0))), (e7, .inr (2, [.ref e9, .ref e10])), (e8, .inr (2, [.ref e9, .ref e11])), (e9, .inl (G.2.1, 512, .inl mbI)), (e10, .inl (G.2.1, 128, .inl (fun _ => 0))), (e11, .inl (G.2.1, 128, .inl (fun _ => 0))), (q7, .inr (0, [.ref e12, .int (nI 4), .ref e13, .ref e14, .ref e15, .int (nI 0)])), (e12, .inl (G.2.1, 16, .inl (fun _ => 0))), (e13, .inl (G.2.1, 256, .inl (orR 256))), (e14, .inl (G.2.1, 60, .inl (fun _ => 0))), (e15, .inl (G.2.1, 16, .inl (fun _ => 0))), (q8, .inr (1, [.ref e16])), (e16, .inl (G.2.1, 16, .inl (fun _ => 0))), (q9, .inr (5, [.ref e17, .ref e18])), (e17, .inl (G.2.1, 8, .inl (fun _ => 0))), (e18, .inl (G.2.1, 64, .inl (fun _ => 0)))] H := hP
  have hD : va_D A [(h, .inr (6, [.ref q1, .ref q2, .ref q3, .ref q4, .ref q5, .ref q6, .ref q7, .ref q8, .null, .int (nI 0)])), (q1, .inr (4, [.ref e1, .int (nI 0)])), (e1, .inl (G.2.1, 400, .inl (fun _ => 0))), (q2, .inr (4, [.ref e2, .int (nI 0)])), (e2, .inl (G.2.1, 400, .inl (fun _ => 0))), (q3, .inr (4, [.ref e3, .int (nI 0)])), (e3, .inl (G.2.1, 448, .inl (fun _ => 0))), (q4, .inr (4, [.ref e4, .int (nI 0)])), (e4, .inl (G.2.1, 32, .inl (fun _ => 0))), (q5, .inr (4, [.ref e5, .int (nI 0)])), (e5, .inl (G.2.1, 16, .inl (fun _ => 0))), (q6, .inr (3, [.ref e6, .int (nI 3), .ref e7, .ref e8])), (e6, .inl (G.2.1, 8, .inl (fun _ => 0))), (e7, .inr (2, [.ref e9, .ref e10])), (e8, .inr (2, [.ref e9, .ref e11])), (e9, .inl (G.2.1, 512, .inl mbI)), (e10, .inl (G.2.1, 128, .inl (fun _ => 0))), (e11, .inl (G.2.1, 128, .inl (fun _ => 0))), (q7, .inr (0, [.ref e12, .int (nI 4), .ref e13, .ref e14, .ref e15, .int (nI 0)])), (e12, .inl (G.2.1, 16, .inl (fun _ => 0))), (e13, .inl (G.2.1, 256, .inl (orR 256))), (e14, .inl (G.2.1, 60, .inl (fun _ => 0))), (e15, .inl (G.2.1, 16, .inl (fun _ => 0))), (q8, .inr (1, [.ref e16])), (e16, .inl (G.2.1, 16, .inl (fun _ => 0))), (q9, .inr (5, [.ref e17, .ref e18])), (e17, .inl (G.2.1, 8, .inl (fun _ => 0))), (e18, .inl (G.2.1, 64, .inl (fun _ => 0)))] := hD
  refine W.widen (k := 28) (n := 2755) (by decide) (by decide) ?_
  refine va_putF (D := G.1) (ci := 6) (v := .ref q9) (ty := .object "CipherBox$Sha256") (C := RX7) (T := TX7) (N := 10) hx hb hts hinX7 tyX7 tyX7_ok nmX7 hown hK hP hD hS 0 rfl rfl 8 (by decide) (hts (.fieldLink RX7 54 "CipherBox" "sha" "LCipherBox$Sha256;") (by decide +kernel)) (fun _ h9 => h9) rfl hnm rfl (by decide +kernel) rfl rfl (Nat.le_of_ble_eq_true rfl) dX7_init_113 (fun H locs hP hD hS => ?_)
  have hP : va_P G.1 vwCl [(h, .inr (6, [.ref q1, .ref q2, .ref q3, .ref q4, .ref q5, .ref q6, .ref q7, .ref q8, .ref q9, .int (nI 0)])), (q1, .inr (4, [.ref e1, .int (nI 0)])), (e1, .inl (G.2.1, 400, .inl (fun _ => 0))), (q2, .inr (4, [.ref e2, .int (nI 0)])), (e2, .inl (G.2.1, 400, .inl (fun _ => 0))), (q3, .inr (4, [.ref e3, .int (nI 0)])), (e3, .inl (G.2.1, 448, .inl (fun _ => 0))), (q4, .inr (4, [.ref e4, .int (nI 0)])), (e4, .inl (G.2.1, 32, .inl (fun _ => 0))), (q5, .inr (4, [.ref e5, .int (nI 0)])), (e5, .inl (G.2.1, 16, .inl (fun _ => 0))), (q6, .inr (3, [.ref e6, .int (nI 3), .ref e7, .ref e8])), (e6, .inl (G.2.1, 8, .inl (fun _ => 0))), (e7, .inr (2, [.ref e9, .ref e10])), (e8, .inr (2, [.ref e9, .ref e11])), (e9, .inl (G.2.1, 512, .inl mbI)), (e10, .inl (G.2.1, 128, .inl (fun _ => 0))), (e11, .inl (G.2.1, 128, .inl (fun _ => 0))), (q7, .inr (0, [.ref e12, .int (nI 4), .ref e13, .ref e14, .ref e15, .int (nI 0)])), (e12, .inl (G.2.1, 16, .inl (fun _ => 0))), (e13, .inl (G.2.1, 256, .inl (orR 256))), (e14, .inl (G.2.1, 60, .inl (fun _ => 0))), (e15, .inl (G.2.1, 16, .inl (fun _ => 0))), (q8, .inr (1, [.ref e16])), (e16, .inl (G.2.1, 16, .inl (fun _ => 0))), (q9, .inr (5, [.ref e17, .ref e18])), (e17, .inl (G.2.1, 8, .inl (fun _ => 0))), (e18, .inl (G.2.1, 64, .inl (fun _ => 0)))] H := hP
  have hD : va_D A [(h, .inr (6, [.ref q1, .ref q2, .ref q3, .ref q4, .ref q5, .ref q6, .ref q7, .ref q8, .ref q9, .int (nI 0)])), (q1, .inr (4, [.ref e1, .int (nI 0)])), (e1, .inl (G.2.1, 400, .inl (fun _ => 0))), (q2, .inr (4, [.ref e2, .int (nI 0)])), (e2, .inl (G.2.1, 400, .inl (fun _ => 0))), (q3, .inr (4, [.ref e3, .int (nI 0)])), (e3, .inl (G.2.1, 448, .inl (fun _ => 0))), (q4, .inr (4, [.ref e4, .int (nI 0)])), (e4, .inl (G.2.1, 32, .inl (fun _ => 0))), (q5, .inr (4, [.ref e5, .int (nI 0)])), (e5, .inl (G.2.1, 16, .inl (fun _ => 0))), (q6, .inr (3, [.ref e6, .int (nI 3), .ref e7, .ref e8])), (e6, .inl (G.2.1, 8, .inl (fun _ => 0))), (e7, .inr (2, [.ref e9, .ref e10])), (e8, .inr (2, [.ref e9, .ref e11])), (e9, .inl (G.2.1, 512, .inl mbI)), (e10, .inl (G.2.1, 128, .inl (fun _ => 0))), (e11, .inl (G.2.1, 128, .inl (fun _ => 0))), (q7, .inr (0, [.ref e12, .int (nI 4), .ref e13, .ref e14, .ref e15, .int (nI 0)])), (e12, .inl (G.2.1, 16, .inl (fun _ => 0))), (e13, .inl (G.2.1, 256, .inl (orR 256))), (e14, .inl (G.2.1, 60, .inl (fun _ => 0))), (e15, .inl (G.2.1, 16, .inl (fun _ => 0))), (q8, .inr (1, [.ref e16])), (e16, .inl (G.2.1, 16, .inl (fun _ => 0))), (q9, .inr (5, [.ref e17, .ref e18])), (e17, .inl (G.2.1, 8, .inl (fun _ => 0))), (e18, .inl (G.2.1, 64, .inl (fun _ => 0)))] := hD
  refine lv_aload_n hx hb dX7_init_116 rfl (lv_at hl 0 rfl) ?_
  refine lv_iconst (v := (-1)) hx hb dX7_init_117 (by decide) ?_
  refine va_put (D := G.1) (ci := 6) (v := .int (-1)) (ty := .int) (C := RX7) (T := TX7) (N := 10) hx hb hts hinX7 tyX7 tyX7_ok nmX7 hown hK hP hD hS 0 rfl rfl 9 (by decide) (hts (.fieldLink RX7 58 "CipherBox" "keyType" "I") (by decide +kernel)) (fun _ h9 => h9) rfl (by decide +kernel) rfl rfl (Nat.le_of_ble_eq_true rfl) dX7_init_118 (fun H locs hP hD hS => ?_)
  have hP : va_P G.1 vwCl [(h, .inr (6, [.ref q1, .ref q2, .ref q3, .ref q4, .ref q5, .ref q6, .ref q7, .ref q8, .ref q9, .int (-1)])), (q1, .inr (4, [.ref e1, .int (nI 0)])), (e1, .inl (G.2.1, 400, .inl (fun _ => 0))), (q2, .inr (4, [.ref e2, .int (nI 0)])), (e2, .inl (G.2.1, 400, .inl (fun _ => 0))), (q3, .inr (4, [.ref e3, .int (nI 0)])), (e3, .inl (G.2.1, 448, .inl (fun _ => 0))), (q4, .inr (4, [.ref e4, .int (nI 0)])), (e4, .inl (G.2.1, 32, .inl (fun _ => 0))), (q5, .inr (4, [.ref e5, .int (nI 0)])), (e5, .inl (G.2.1, 16, .inl (fun _ => 0))), (q6, .inr (3, [.ref e6, .int (nI 3), .ref e7, .ref e8])), (e6, .inl (G.2.1, 8, .inl (fun _ => 0))), (e7, .inr (2, [.ref e9, .ref e10])), (e8, .inr (2, [.ref e9, .ref e11])), (e9, .inl (G.2.1, 512, .inl mbI)), (e10, .inl (G.2.1, 128, .inl (fun _ => 0))), (e11, .inl (G.2.1, 128, .inl (fun _ => 0))), (q7, .inr (0, [.ref e12, .int (nI 4), .ref e13, .ref e14, .ref e15, .int (nI 0)])), (e12, .inl (G.2.1, 16, .inl (fun _ => 0))), (e13, .inl (G.2.1, 256, .inl (orR 256))), (e14, .inl (G.2.1, 60, .inl (fun _ => 0))), (e15, .inl (G.2.1, 16, .inl (fun _ => 0))), (q8, .inr (1, [.ref e16])), (e16, .inl (G.2.1, 16, .inl (fun _ => 0))), (q9, .inr (5, [.ref e17, .ref e18])), (e17, .inl (G.2.1, 8, .inl (fun _ => 0))), (e18, .inl (G.2.1, 64, .inl (fun _ => 0)))] H := hP
  have hD : va_D A [(h, .inr (6, [.ref q1, .ref q2, .ref q3, .ref q4, .ref q5, .ref q6, .ref q7, .ref q8, .ref q9, .int (-1)])), (q1, .inr (4, [.ref e1, .int (nI 0)])), (e1, .inl (G.2.1, 400, .inl (fun _ => 0))), (q2, .inr (4, [.ref e2, .int (nI 0)])), (e2, .inl (G.2.1, 400, .inl (fun _ => 0))), (q3, .inr (4, [.ref e3, .int (nI 0)])), (e3, .inl (G.2.1, 448, .inl (fun _ => 0))), (q4, .inr (4, [.ref e4, .int (nI 0)])), (e4, .inl (G.2.1, 32, .inl (fun _ => 0))), (q5, .inr (4, [.ref e5, .int (nI 0)])), (e5, .inl (G.2.1, 16, .inl (fun _ => 0))), (q6, .inr (3, [.ref e6, .int (nI 3), .ref e7, .ref e8])), (e6, .inl (G.2.1, 8, .inl (fun _ => 0))), (e7, .inr (2, [.ref e9, .ref e10])), (e8, .inr (2, [.ref e9, .ref e11])), (e9, .inl (G.2.1, 512, .inl mbI)), (e10, .inl (G.2.1, 128, .inl (fun _ => 0))), (e11, .inl (G.2.1, 128, .inl (fun _ => 0))), (q7, .inr (0, [.ref e12, .int (nI 4), .ref e13, .ref e14, .ref e15, .int (nI 0)])), (e12, .inl (G.2.1, 16, .inl (fun _ => 0))), (e13, .inl (G.2.1, 256, .inl (orR 256))), (e14, .inl (G.2.1, 60, .inl (fun _ => 0))), (e15, .inl (G.2.1, 16, .inl (fun _ => 0))), (q8, .inr (1, [.ref e16])), (e16, .inl (G.2.1, 16, .inl (fun _ => 0))), (q9, .inr (5, [.ref e17, .ref e18])), (e17, .inl (G.2.1, 8, .inl (fun _ => 0))), (e18, .inl (G.2.1, 64, .inl (fun _ => 0)))] := hD
  refine lv_aload_n hx hb dX7_init_121 rfl (lv_at hl 0 rfl) ?_
  refine va_get (D := G.1) (ci := 6) (v := .ref q5) (C := RX7) (T := TX7) (N := 10) hx hb hts hinX7 hown hK hP 0 rfl rfl 4 (by decide) (hts (.fieldLink RX7 27 "CipherBox" "start" "LCipherBox$Row;") (by decide +kernel)) (fun _ h9 => h9) rfl dX7_init_122 ?_
  refine lv_bipush (v := nI 16) hx hb dX7_init_125 (by decide) ?_
  refine w_finv (wr := [(h, .inr (6, [.ref q1, .ref q2, .ref q3, .ref q4, .ref q5, .ref q6, .ref q7, .ref q8, .ref q9, .int (-1)])), (q1, .inr (4, [.ref e1, .int (nI 0)])), (e1, .inl (G.2.1, 400, .inl (fun _ => 0))), (q2, .inr (4, [.ref e2, .int (nI 0)])), (e2, .inl (G.2.1, 400, .inl (fun _ => 0))), (q3, .inr (4, [.ref e3, .int (nI 0)])), (e3, .inl (G.2.1, 448, .inl (fun _ => 0))), (q4, .inr (4, [.ref e4, .int (nI 0)])), (e4, .inl (G.2.1, 32, .inl (fun _ => 0))), (q6, .inr (3, [.ref e6, .int (nI 3), .ref e7, .ref e8])), (e6, .inl (G.2.1, 8, .inl (fun _ => 0))), (e7, .inr (2, [.ref e9, .ref e10])), (e8, .inr (2, [.ref e9, .ref e11])), (e9, .inl (G.2.1, 512, .inl mbI)), (e10, .inl (G.2.1, 128, .inl (fun _ => 0))), (e11, .inl (G.2.1, 128, .inl (fun _ => 0))), (q7, .inr (0, [.ref e12, .int (nI 4), .ref e13, .ref e14, .ref e15, .int (nI 0)])), (e12, .inl (G.2.1, 16, .inl (fun _ => 0))), (e13, .inl (G.2.1, 256, .inl (orR 256))), (e14, .inl (G.2.1, 60, .inl (fun _ => 0))), (e15, .inl (G.2.1, 16, .inl (fun _ => 0))), (q8, .inr (1, [.ref e16])), (e16, .inl (G.2.1, 16, .inl (fun _ => 0))), (q9, .inr (5, [.ref e17, .ref e18])), (e17, .inl (G.2.1, 8, .inl (fun _ => 0))), (e18, .inl (G.2.1, 64, .inl (fun _ => 0)))]) (va_runV (As := [.int (nI 16)]) (rest := []) ⟨hx, hb, hml, hown, hts⟩ (c_Row_addZeros l G q5 e5 16 0 (fun _ => 0) 16 (by omega) (by omega) H.size) (cwV 1 hts gX7_init_X5_addZeros rfl rfl rfl (by decide +kernel) ⟨Nat.le_of_ble_eq_true rfl, Nat.le_of_ble_eq_true rfl⟩) ⟨wPre.blind, (va_recv hK hP (ci := 4) (q0 := 9) rfl rfl), (fun U hU hW => ⟨rfl, w_pre hK hT hA hP hD hS (isC := [9, 10]) (by decide) rfl U hU hW⟩)⟩ rfl rfl hl.1 rfl (lv_room (Nat.le_of_ble_eq_true rfl)) dX7_init_127 ⟨Nat.le_of_ble_eq_true rfl, Nat.le_of_ble_eq_true rfl⟩) hA hP hD hS [9, 10] [0, 1, 2, 3, 4, 5, 6, 7, 8, 11, 12, 13, 14, 15, 16, 17, 18, 19, 20, 21, 22, 23, 24, 25, 26, 27] rfl rfl (by decide) (by decide) (fun u H locs hpost hP hD hS => ?_)
  have hP : va_P G.1 vwCl [(h, .inr (6, [.ref q1, .ref q2, .ref q3, .ref q4, .ref q5, .ref q6, .ref q7, .ref q8, .ref q9, .int (-1)])), (q1, .inr (4, [.ref e1, .int (nI 0)])), (e1, .inl (G.2.1, 400, .inl (fun _ => 0))), (q2, .inr (4, [.ref e2, .int (nI 0)])), (e2, .inl (G.2.1, 400, .inl (fun _ => 0))), (q3, .inr (4, [.ref e3, .int (nI 0)])), (e3, .inl (G.2.1, 448, .inl (fun _ => 0))), (q4, .inr (4, [.ref e4, .int (nI 0)])), (e4, .inl (G.2.1, 32, .inl (fun _ => 0))), (q6, .inr (3, [.ref e6, .int (nI 3), .ref e7, .ref e8])), (e6, .inl (G.2.1, 8, .inl (fun _ => 0))), (e7, .inr (2, [.ref e9, .ref e10])), (e8, .inr (2, [.ref e9, .ref e11])), (e9, .inl (G.2.1, 512, .inl mbI)), (e10, .inl (G.2.1, 128, .inl (fun _ => 0))), (e11, .inl (G.2.1, 128, .inl (fun _ => 0))), (q7, .inr (0, [.ref e12, .int (nI 4), .ref e13, .ref e14, .ref e15, .int (nI 0)])), (e12, .inl (G.2.1, 16, .inl (fun _ => 0))), (e13, .inl (G.2.1, 256, .inl (orR 256))), (e14, .inl (G.2.1, 60, .inl (fun _ => 0))), (e15, .inl (G.2.1, 16, .inl (fun _ => 0))), (q8, .inr (1, [.ref e16])), (e16, .inl (G.2.1, 16, .inl (fun _ => 0))), (q9, .inr (5, [.ref e17, .ref e18])), (e17, .inl (G.2.1, 8, .inl (fun _ => 0))), (e18, .inl (G.2.1, 64, .inl (fun _ => 0))), (q5, .inr (4, [.ref e5, .int (nI (0 + 16))])), (e5, .inl (G.2.1, 16, .inl (fa 0 16 (fun _ => 0) (fun _ => 0))))] H := by have h9 := hP; rw [Nat.zero_add] at h9; exact h9
  have hD : va_D A [(h, .inr (6, [.ref q1, .ref q2, .ref q3, .ref q4, .ref q5, .ref q6, .ref q7, .ref q8, .ref q9, .int (-1)])), (q1, .inr (4, [.ref e1, .int (nI 0)])), (e1, .inl (G.2.1, 400, .inl (fun _ => 0))), (q2, .inr (4, [.ref e2, .int (nI 0)])), (e2, .inl (G.2.1, 400, .inl (fun _ => 0))), (q3, .inr (4, [.ref e3, .int (nI 0)])), (e3, .inl (G.2.1, 448, .inl (fun _ => 0))), (q4, .inr (4, [.ref e4, .int (nI 0)])), (e4, .inl (G.2.1, 32, .inl (fun _ => 0))), (q6, .inr (3, [.ref e6, .int (nI 3), .ref e7, .ref e8])), (e6, .inl (G.2.1, 8, .inl (fun _ => 0))), (e7, .inr (2, [.ref e9, .ref e10])), (e8, .inr (2, [.ref e9, .ref e11])), (e9, .inl (G.2.1, 512, .inl mbI)), (e10, .inl (G.2.1, 128, .inl (fun _ => 0))), (e11, .inl (G.2.1, 128, .inl (fun _ => 0))), (q7, .inr (0, [.ref e12, .int (nI 4), .ref e13, .ref e14, .ref e15, .int (nI 0)])), (e12, .inl (G.2.1, 16, .inl (fun _ => 0))), (e13, .inl (G.2.1, 256, .inl (orR 256))), (e14, .inl (G.2.1, 60, .inl (fun _ => 0))), (e15, .inl (G.2.1, 16, .inl (fun _ => 0))), (q8, .inr (1, [.ref e16])), (e16, .inl (G.2.1, 16, .inl (fun _ => 0))), (q9, .inr (5, [.ref e17, .ref e18])), (e17, .inl (G.2.1, 8, .inl (fun _ => 0))), (e18, .inl (G.2.1, 64, .inl (fun _ => 0))), (q5, .inr (4, [.ref e5, .int (nI (0 + 16))])), (e5, .inl (G.2.1, 16, .inl (fa 0 16 (fun _ => 0) (fun _ => 0))))] := by have h9 := hD; rw [Nat.zero_add] at h9; exact h9
  refine W.widen (k := 30) (n := 3000) (by decide) (by decide) ?_
  exact hret (fun k_ => match k_ with | 0 => q1 | 1 => e1 | 2 => q2 | 3 => e2 | 4 => q3 | 5 => e3 | 6 => q4 | 7 => e4 | 8 => q5 | 9 => e5 | 10 => q6 | 11 => e6 | 12 => e7 | 13 => e8 | 14 => e9 | 15 => e10 | 16 => e11 | 17 => q7 | 18 => e12 | 19 => e13 | 20 => e14 | 21 => e15 | 22 => q8 | 23 => e16 | 24 => q9 | 25 => e17 | 26 => e18 | _ => 0) H _ 130 ls dX7_init_130 (trivial) (hP.sub [0, 1, 2, 3, 4, 5, 6, 7, 8, 26, 27, 9, 10, 11, 12, 13, 14, 15, 16, 17, 18, 19, 20, 21, 22, 23, 24, 25] rfl) (hD.sub [0, 1, 2, 3, 4, 5, 6, 7, 8, 26, 27, 9, 10, 11, 12, 13, 14, 15, 16, 17, 18, 19, 20, 21, 22, 23, 24, 25] (by decide) rfl) hS
