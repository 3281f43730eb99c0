/-! THE CLAIM OUT OF ONE WALK OF THE LAW'S BODY. Your part is whole_start (and what it stands on); all else here is the same for every law, but numbers. -/
def R_law : String := "CipherBoxLaw"
def lw_P (b : Addr) (xs : List Int32) (args : Array Value) (s : State) : Prop := args = #[.ref b] ∧ s.IntsAt b xs ∧ xs.length ≤ 3072 ∧ (Jvm.Cond.and given_1 narrow_1).before args s = true
def lw_Q (_ : Array Value) (s : State) (o : Outcome) (t : State) : Prop := o = .returned (some (.int 1)) ∧ Framed s o t [] 600000 7302250
def lw_Z (below : List Frame) (a : Array Value) (s : State) : State → Prop := fun t => ∃ o, t.status = .running ∧ Ended t below o ∧ lw_Q a s o t
/-- the law's own end, with 1 on the stack, nothing written that was there before, its room as the claim has it -/
theorem lw_ret {p : Program} {l : Launch} {e : Env} {s : State} {m : MethodId} {below : List Frame} {meth : Method} {c : Code} {b : Nat} (hx : p.tables.exec = Jvm.exec) (hb : c.code = code) (hr : meth.sig.returnType = ret) (hlocks : meth.locks = false) {pc : Nat} {H : Heap} {ls : Array Slot} (hdg : decode code pc = .ok (.ireturn, 1)) : W p l e room_1 s m #[Value.ref b] below meth c H [] 600000 7302250 (lw_Z below #[Value.ref b] s) (F0 m pc ls [.int 1]) := by
  intro T hT X
  obtain ⟨fs, hret, hrun, hended, hW, hframe⟩ := X.leave (v := some (.int 1)) (hlocks := hlocks) (fun h => by rw [hr] at h; cases h)
  have hmeth' : T.vm.method? m = some meth := X.method'
  refine ⟨T.setFrames fs, ?_, .returned (some (.int 1)), hrun, hended, rfl, ⟨_, rfl⟩, hW, hframe⟩
  jvm_step X.here [X.here.top, hx, hb, hdg, hmeth', hr, ret, narrow_b1]
  (try refine ⟨rfl, ?_⟩); (try refine ⟨rfl, ?_⟩)
  first | (intro acts; rw [hret _ acts rfl rfl rfl]) | rw [hret _ _ rfl rfl rfl]
  exact Steps.refl _
/-- what holds at the law's entry: the machine, the code, the tables' words (any of lw_tbl by 'hts w (by decide +kernel)'), the script of L ints xs at the cell b, what the Statement gives of the start (any of its parts by flat_of_before) -/
def lw_At (p : Program) (s : State) (m : MethodId) (meth : Method) (c : Code) (b L : Nat) (xs : Nat → Int32) : Prop :=
  p.tables.exec = Jvm.exec ∧ c.code = code ∧ meth.sig.returnType = ret ∧ c.maxLocals = 4 ∧ s.vm.findClass R_law = some m.cls ∧ (∀ w ∈ lw_tbl, w.before #[Value.ref b] s = true) ∧ va_X b L xs s s.heap ∧ b < s.heap.size ∧ meth.locks = false ∧ (Jvm.Cond.and given_1 narrow_1).before #[Value.ref b] s = true
theorem gt_0 : ∀ L, L < 6 → ∀ i, i < 6 → nI L - nI 6 < nI i := by decide +kernel
theorem gt_i {i L : Nat} (hi : i ≤ L) (hL : L ≤ 3072) : nI L - nI 6 < nI i ↔ L < i + 6 := by
  by_cases h6 : 6 ≤ L
  · rw [pk_sub h6, nI_ltI (by omega) (by omega)]
    omega
  · exact ⟨fun _ => by omega, fun _ => gt_0 L (by omega) i (by omega)⟩
set_option maxHeartbeats 4000000 in
set_option maxRecDepth 100000 in
/-- the law's loop -/
theorem law_loop {p : Program} {l : Launch} {e : Env} {s : State} {m : MethodId} {below : List Frame} {meth : Method} {c : Code} {G : wG} {A : Nat → Prop} {b L : Nat} {xs : Nat → Int32} {h : Nat} {ca : Nat → Nat} {hm : Nat} {a : Nat → Nat} (hr : meth.sig.returnType = ret) (hlocks : meth.locks = false) (hAA : ∀ q, A q → s.heap.size ≤ q) (C : lw_C p s m c G A b L xs) :
    ∀ (n i : Nat) (x : LwS) (H : Heap) (locs : List Loc) (ls : Array Slot), i ≤ L → L < i + n → lwB x → va_P G.1 vwCl (lwW G h ca hm a x) H → va_D A (lwW G h ca hm a x) → va_S A s.heap H locs → lv_has ls 4 [(3, .int (nI i)), (2, .ref hm), (1, .ref h), (0, .ref b)] → W p l e room_1 s m #[Value.ref b] below meth c H locs 70 9000 (lw_Z below #[Value.ref b] s) (F0 m 18 ls []) := by
  intro n
  induction n with
  | zero => intro i x H locs ls h1 h2; exact absurd h2 (by omega)
  | succ n ih =>
    intro i x H locs ls hi hin hbd hP hD hS hl
    obtain ⟨hx, hb, hml, hown, hts, hX, hbl, hbA, hK, hT, hA, hL⟩ := id C
    refine lv_iload_n hx hb dL_law_18 rfl (lv_at hl 0 rfl) ?_
    refine lv_aload_n hx hb dL_law_19 rfl (lv_at hl 3 rfl) ?_
    refine va_slen hx hb hX hbl hbA hS dL_law_20 ?_
    refine lv_bipush (v := nI 6) hx hb dL_law_21 (by decide) ?_
    refine lv_isub hx hb dL_law_23 ?_
    refine lv_icmp_gt (tgt := 474) hx hb dL_law_24 (by decide) (fun c1 => ?_) (fun c1 => ?_)
    · refine lv_iconst (v := 1) hx hb dL_law_474 (by decide) ?_
      refine va_forget (fun q hq => hAA _ (hS.2.2 q hq)) ?_
      refine W.widen (k := 600000) (n := 7302250) (by omega) (by omega) ?_
      exact lw_ret hx hb hr hlocks dL_law_475
    · have hi6 : i + 6 ≤ L := by
        rcases Nat.lt_or_ge L (i + 6) with q | q
        · exact absurd ((gt_i hi hL).mpr q) c1
        · exact q
      have kk : ∀ (y : LwS) (H : Heap) (locs : List Loc) (ls : Array Slot), lwB y → va_P G.1 vwCl (lwW G h ca hm a y) H → va_D A (lwW G h ca hm a y) → va_S A s.heap H locs → lv_has ls 4 [(3, .int (nI i)), (2, .ref hm), (1, .ref h), (0, .ref b)] → W p l e room_1 s m #[Value.ref b] below meth c H locs 70 9000 (lw_Z below #[Value.ref b] s) (F0 m 468 ls []) := by
        intro y H locs ls hbd hP hD hS hl
        refine lv_iinc (v := nI (i + 6)) (lv' := [(3, .int (nI (i + 6))), (2, .ref hm), (1, .ref h), (0, .ref b)]) hx hb dL_law_468 hl (k := 0) rfl (nI_add i 6) (by decide) rfl (fun ls hl => ?_)
        refine lv_goto (tgt := 18) hx hb dL_law_471 (by decide) ?_
        exact ih (i + 6) y H locs ls (by omega) (by omega) hbd hP hD hS hl
      refine lv_aload_n hx hb dL_law_27 rfl (lv_at hl 3 rfl) ?_
      refine lv_iload_n hx hb dL_law_28 rfl (lv_at hl 0 rfl) ?_
      refine w_sld hx hb hX hbl hbA hS (by omega) hL dL_law_29 ?_
      refine lv_bipush (v := nI 15) hx hb dL_law_30 (by decide) ?_
      refine lv_iand hx hb dL_law_32 ?_
      refine w_top (nI (un (xs i) % 2 ^ 4)) (pk_and _ 4 (by decide)) ?_
      have hd : un (xs i) % 2 ^ 4 < 16 := Nat.mod_lt _ (by decide)
      generalize un (xs i) % 2 ^ 4 = d at hd
      rcases (show d = 0 ∨ d = 1 ∨ d = 2 ∨ d = 3 ∨ d = 4 ∨ d = 5 ∨ d = 6 ∨ d = 7 ∨ d = 8 ∨ d = 9 ∨ d = 10 ∨ d = 11 ∨ d = 12 ∨ d = 13 ∨ d = 14 ∨ d = 15 by omega) with r | r | r | r | r | r | r | r | r | r | r | r | r | r | r | r <;> subst r
      · refine lv_tableIn (off := 71) (tgt := 104) hx hb dL_law_33 (by decide) (by decide) (by decide) (by decide) ?_
        exact ld_feed x C hi6 hbd hP hD hS hl kk
      · refine lv_tableIn (off := 134) (tgt := 167) hx hb dL_law_33 (by decide) (by decide) (by decide) (by decide) ?_
        exact ld_end x C hi6 hbd hP hD hS hl kk
      · refine lv_tableIn (off := 157) (tgt := 190) hx hb dL_law_33 (by decide) (by decide) (by decide) (by decide) ?_
        exact ld_out x C hi6 hbd hP hD hS hl kk
      · refine lv_tableIn (off := 180) (tgt := 213) hx hb dL_law_33 (by decide) (by decide) (by decide) (by decide) ?_
        exact ld_take x C hi6 hbd hP hD hS hl kk
      · refine lv_tableIn (off := 193) (tgt := 226) hx hb dL_law_33 (by decide) (by decide) (by decide) (by decide) ?_
        exact ld_key x C hi6 hbd hP hD hS hl kk
      · refine lv_tableIn (off := 216) (tgt := 249) hx hb dL_law_33 (by decide) (by decide) (by decide) (by decide) ?_
        exact ld_begin x C hi6 hbd hP hD hS hl kk
      · refine lv_tableIn (off := 229) (tgt := 262) hx hb dL_law_33 (by decide) (by decide) (by decide) (by decide) ?_
        exact ld_code x C hi6 hbd hP hD hS hl kk
      · refine lv_tableIn (off := 294) (tgt := 327) hx hb dL_law_33 (by decide) (by decide) (by decide) (by decide) ?_
        exact ld_pad x C hi6 hbd hP hD hS hl kk
      · refine lv_tableIn (off := 317) (tgt := 350) hx hb dL_law_33 (by decide) (by decide) (by decide) (by decide) ?_
        exact ld_unpad x C hi6 hbd hP hD hS hl kk
      · refine lv_tableIn (off := 330) (tgt := 363) hx hb dL_law_33 (by decide) (by decide) (by decide) (by decide) ?_
        exact ld_mac x C hi6 hbd hP hD hS hl kk
      · refine lv_tableIn (off := 353) (tgt := 386) hx hb dL_law_33 (by decide) (by decide) (by decide) (by decide) ?_
        exact ld_derive x C hi6 hbd hP hD hS hl kk
      · refine lv_tableIn (off := 386) (tgt := 419) hx hb dL_law_33 (by decide) (by decide) (by decide) (by decide) ?_
        exact ld_hash x C hi6 hbd hP hD hS hl kk
      · refine lv_tableIn (off := 399) (tgt := 432) hx hb dL_law_33 (by decide) (by decide) (by decide) (by decide) ?_
        exact ld_same x C hi6 hbd hP hD hS hl kk
      · refine lv_tableIn (off := 412) (tgt := 445) hx hb dL_law_33 (by decide) (by decide) (by decide) (by decide) ?_
        exact ld_about x C hi6 hbd hP hD hS hl kk
      · refine lv_tableOut (tgt := 468) hx hb dL_law_33 (by decide) (by decide) ?_
        exact kk x H locs ls hbd hP hD hS hl
      · refine lv_tableOut (tgt := 468) hx hb dL_law_33 (by decide) (by decide) ?_
        exact kk x H locs ls hbd hP hD hS hl
theorem bond_g : RB 16 (fa 0 16 (fun _ => 0) (fun _ => 0)) (fun _ => 0) := fun j hj => by
  rw [fa0_at hj]
  exact ⟨isB_0, by show (0 : Int32) = bN 0; decide⟩
set_option maxHeartbeats 4000000 in
set_option maxRecDepth 100000 in
/-- the two made, then the loop -/
theorem law_start {p : Program} {l : Launch} {e : Env} {s : State} {m : MethodId} {below : List Frame} {meth : Method} {c : Code} {G : wG} {A : Nat → Prop} {b L : Nat} {xs : Nat → Int32} (hr : meth.sig.returnType = ret) (hlocks : meth.locks = false) (hAA : ∀ q, A q → s.heap.size ≤ q) (C : lw_C p s m c G A b L xs) {ls : Array Slot} (hl : lv_has ls 4 [(0, .ref b)]) : W p l e room_1 s m #[Value.ref b] below meth c s.heap [] 0 0 (lw_Z below #[Value.ref b] s) (F0 m 0 ls []) := by
  obtain ⟨hx, hb, hml, hown, hts, hX, hbl, hbA, hK, hT, hA, hL⟩ := id C
  have hS : va_S A s.heap s.heap [] := va_S.rf
  have hP : va_P G.1 vwCl [] s.heap := fun k q h => by simp at h
  have hD : va_D A [] := ⟨fun i j p q h => by simp at h, fun k q h => by simp at h⟩
  have hinX7 : ∀ w ∈ u_ws RX7 TX7 10, w ∈ wsL_law := inlX7
  have hinX8 : ∀ w ∈ u_ws RX8 TX8 35, w ∈ wsL_law := inlX8
  refine va_new (ci := 6) (fs := [.null, .null, .null, .null, .null, .null, .null, .null, .null, .int 0]) (C := RX7) (T := TX7) (N := 10) hx hb hts hinX7 tyX7 tyX7_ok hown (hts (.classLink RL 7 RX7) (by decide +kernel)) (hts (.instantiable RX7 10) (by decide +kernel)) (hts (.initialized RX7) (by decide +kernel)) hK hP hD hS hA rfl (by decide +kernel) (by decide) (by decide) dL_law_0 (fun q1 H hP hD hS => ?_)
  have hP : va_P G.1 vwCl [(q1, .inr (6, [.null, .null, .null, .null, .null, .null, .null, .null, .null, .int 0]))] H := hP
  have hD : va_D A [(q1, .inr (6, [.null, .null, .null, .null, .null, .null, .null, .null, .null, .int 0]))] := hD
  refine W.widen (k := 1) (n := 10) (by decide) (by decide) ?_
  refine lv_dup hx hb dL_law_3 rfl ?_
  refine w_finv (wr := []) (va_runI (As := []) (rest := [.ref q1]) ⟨hx, hb, hml, hown, hts⟩ (c_Box_init l G q1 H.size) (cwI 0 hts gL_law_X7_init rfl rfl rfl (hts (.initialized RX7) (by decide +kernel)) (hts (.methodLink RL 9 yX7_init) (by decide +kernel)) (hts (.instanceMethod yX7_init) (by decide +kernel)) rfl (by decide +kernel) ⟨Nat.le_of_ble_eq_true rfl, Nat.le_of_ble_eq_true rfl⟩) ⟨wPre.blind, (fun U hU hW => ⟨rfl, w_pre hK hT hA hP hD hS (isC := [0]) (by decide) rfl U hU hW⟩)⟩ rfl rfl hl.1 rfl (lv_room (Nat.le_of_ble_eq_true rfl)) dL_law_4 ⟨Nat.le_of_ble_eq_true rfl, Nat.le_of_ble_eq_true rfl⟩) hA hP hD hS [0] [] rfl rfl (by decide) (by decide) (fun u H locs hpost hP hD hS => ?_)
  obtain ⟨ca, rfl⟩ : ∃ z, z = u := ⟨_, rfl⟩
  try dsimp only at hpost hP hD
  have hP : va_P G.1 vwCl [(q1, .inr (6, [.ref (ca 0), .ref (ca 2), .ref (ca 4), .ref (ca 6), .ref (ca 8), .ref (ca 10), .ref (ca 17), .ref (ca 22), .ref (ca 24), .int (-1)])), (ca 0, .inr (4, [.ref (ca 1), .int (nI 0)])), (ca 1, .inl (G.2.1, 400, .inl (fun _ => 0))), (ca 2, .inr (4, [.ref (ca 3), .int (nI 0)])), (ca 3, .inl (G.2.1, 400, .inl (fun _ => 0))), (ca 4, .inr (4, [.ref (ca 5), .int (nI 0)])), (ca 5, .inl (G.2.1, 448, .inl (fun _ => 0))), (ca 6, .inr (4, [.ref (ca 7), .int (nI 0)])), (ca 7, .inl (G.2.1, 32, .inl (fun _ => 0))), (ca 8, .inr (4, [.ref (ca 9), .int (nI 16)])), (ca 9, .inl (G.2.1, 16, .inl (fa 0 16 (fun _ => 0) (fun _ => 0)))), (ca 10, .inr (3, [.ref (ca 11), .int (nI 3), .ref (ca 12), .ref (ca 13)])), (ca 11, .inl (G.2.1, 8, .inl (fun _ => 0))), (ca 12, .inr (2, [.ref (ca 14), .ref (ca 15)])), (ca 13, .inr (2, [.ref (ca 14), .ref (ca 16)])), (ca 14, .inl (G.2.1, 512, .inl mbI)), (ca 15, .inl (G.2.1, 128, .inl (fun _ => 0))), (ca 16, .inl (G.2.1, 128, .inl (fun _ => 0))), (ca 17, .inr (0, [.ref (ca 18), .int (nI 4), .ref (ca 19), .ref (ca 20), .ref (ca 21), .int (nI 0)])), (ca 18, .inl (G.2.1, 16, .inl (fun _ => 0))), (ca 19, .inl (G.2.1, 256, .inl (orR 256))), (ca 20, .inl (G.2.1, 60, .inl (fun _ => 0))), (ca 21, .inl (G.2.1, 16, .inl (fun _ => 0))), (ca 22, .inr (1, [.ref (ca 23)])), (ca 23, .inl (G.2.1, 16, .inl (fun _ => 0))), (ca 24, .inr (5, [.ref (ca 25), .ref (ca 26)])), (ca 25, .inl (G.2.1, 8, .inl (fun _ => 0))), (ca 26, .inl (G.2.1, 64, .inl (fun _ => 0)))] H := hP
  have hD : va_D A [(q1, .inr (6, [.ref (ca 0), .ref (ca 2), .ref (ca 4), .ref (ca 6), .ref (ca 8), .ref (ca 10), .ref (ca 17), .ref (ca 22), .ref (ca 24), .int (-1)])), (ca 0, .inr (4, [.ref (ca 1), .int (nI 0)])), (ca 1, .inl (G.2.1, 400, .inl (fun _ => 0))), (ca 2, .inr (4, [.ref (ca 3), .int (nI 0)])), (ca 3, .inl (G.2.1, 400, .inl (fun _ => 0))), (ca 4, .inr (4, [.ref (ca 5), .int (nI 0)])), (ca 5, .inl (G.2.1, 448, .inl (fun _ => 0))), (ca 6, .inr (4, [.ref (ca 7), .int (nI 0)])), (ca 7, .inl (G.2.1, 32, .inl (fun _ => 0))), (ca 8, .inr (4, [.ref (ca 9), .int (nI 16)])), (ca 9, .inl (G.2.1, 16, .inl (fa 0 16 (fun _ => 0) (fun _ => 0)))), (ca 10, .inr (3, [.ref (ca 11), .int (nI 3), .ref (ca 12), .ref (ca 13)])), (ca 11, .inl (G.2.1, 8, .inl (fun _ => 0))), (ca 12, .inr (2, [.ref (ca 14), .ref (ca 15)])), (ca 13, .inr (2, [.ref (ca 14), .ref (ca 16)])), (ca 14, .inl (G.2.1, 512, .inl mbI)), (ca 15, .inl (G.2.1, 128, .inl (fun _ => 0))), (ca 16, .inl (G.2.1, 128, .inl (fun _ => 0))), (ca 17, .inr (0, [.ref (ca 18), .int (nI 4), .ref (ca 19), .ref (ca 20), .ref (ca 21), .int (nI 0)])), (ca 18, .inl (G.2.1, 16, .inl (fun _ => 0))), (ca 19, .inl (G.2.1, 256, .inl (orR 256))), (ca 20, .inl (G.2.1, 60, .inl (fun _ => 0))), (ca 21, .inl (G.2.1, 16, .inl (fun _ => 0))), (ca 22, .inr (1, [.ref (ca 23)])), (ca 23, .inl (G.2.1, 16, .inl (fun _ => 0))), (ca 24, .inr (5, [.ref (ca 25), .ref (ca 26)])), (ca 25, .inl (G.2.1, 8, .inl (fun _ => 0))), (ca 26, .inl (G.2.1, 64, .inl (fun _ => 0)))] := hD
  refine W.widen (k := 31) (n := 3010) (by decide) (by decide) ?_
  refine lv_astore_n (lv' := [(1, .ref q1), (0, .ref b)]) hx hb dL_law_7 rfl hl (by decide) rfl (fun ls hl => ?_)
  refine va_new (ci := 7) (fs := [.null, .null, .null, .null, .null, .null, .null, .null, .null, .null, .null, .null, .null, .null, .null, .null, .null, .int 0, .null, .null, .null, .null, .null, .int 0, .null, .null, .null, .null, .int 0, .null, .int 0, .int 0, .int 0, .null, .null]) (C := RX8) (T := TX8) (N := 35) hx hb hts hinX8 tyX8 tyX8_ok hown (hts (.classLink RL 10 RX8) (by decide +kernel)) (hts (.instantiable RX8 35) (by decide +kernel)) (hts (.initialized RX8) (by decide +kernel)) hK hP hD hS hA rfl (by decide +kernel) (by decide) (by decide) dL_law_8 (fun q2 H hP hD hS => ?_)
  have hP : va_P G.1 vwCl [(q1, .inr (6, [.ref (ca 0), .ref (ca 2), .ref (ca 4), .ref (ca 6), .ref (ca 8), .ref (ca 10), .ref (ca 17), .ref (ca 22), .ref (ca 24), .int (-1)])), (ca 0, .inr (4, [.ref (ca 1), .int (nI 0)])), (ca 1, .inl (G.2.1, 400, .inl (fun _ => 0))), (ca 2, .inr (4, [.ref (ca 3), .int (nI 0)])), (ca 3, .inl (G.2.1, 400, .inl (fun _ => 0))), (ca 4, .inr (4, [.ref (ca 5), .int (nI 0)])), (ca 5, .inl (G.2.1, 448, .inl (fun _ => 0))), (ca 6, .inr (4, [.ref (ca 7), .int (nI 0)])), (ca 7, .inl (G.2.1, 32, .inl (fun _ => 0))), (ca 8, .inr (4, [.ref (ca 9), .int (nI 16)])), (ca 9, .inl (G.2.1, 16, .inl (fa 0 16 (fun _ => 0) (fun _ => 0)))), (ca 10, .inr (3, [.ref (ca 11), .int (nI 3), .ref (ca 12), .ref (ca 13)])), (ca 11, .inl (G.2.1, 8, .inl (fun _ => 0))), (ca 12, .inr (2, [.ref (ca 14), .ref (ca 15)])), (ca 13, .inr (2, [.ref (ca 14), .ref (ca 16)])), (ca 14, .inl (G.2.1, 512, .inl mbI)), (ca 15, .inl (G.2.1, 128, .inl (fun _ => 0))), (ca 16, .inl (G.2.1, 128, .inl (fun _ => 0))), (ca 17, .inr (0, [.ref (ca 18), .int (nI 4), .ref (ca 19), .ref (ca 20), .ref (ca 21), .int (nI 0)])), (ca 18, .inl (G.2.1, 16, .inl (fun _ => 0))), (ca 19, .inl (G.2.1, 256, .inl (orR 256))), (ca 20, .inl (G.2.1, 60, .inl (fun _ => 0))), (ca 21, .inl (G.2.1, 16, .inl (fun _ => 0))), (ca 22, .inr (1, [.ref (ca 23)])), (ca 23, .inl (G.2.1, 16, .inl (fun _ => 0))), (ca 24, .inr (5, [.ref (ca 25), .ref (ca 26)])), (ca 25, .inl (G.2.1, 8, .inl (fun _ => 0))), (ca 26, .inl (G.2.1, 64, .inl (fun _ => 0))), (q2, .inr (7, [.null, .null, .null, .null, .null, .null, .null, .null, .null, .null, .null, .null, .null, .null, .null, .null, .null, .int 0, .null, .null, .null, .null, .null, .int 0, .null, .null, .null, .null, .int 0, .null, .int 0, .int 0, .int 0, .null, .null]))] H := hP
  have hD : va_D A [(q1, .inr (6, [.ref (ca 0), .ref (ca 2), .ref (ca 4), .ref (ca 6), .ref (ca 8), .ref (ca 10), .ref (ca 17), .ref (ca 22), .ref (ca 24), .int (-1)])), (ca 0, .inr (4, [.ref (ca 1), .int (nI 0)])), (ca 1, .inl (G.2.1, 400, .inl (fun _ => 0))), (ca 2, .inr (4, [.ref (ca 3), .int (nI 0)])), (ca 3, .inl (G.2.1, 400, .inl (fun _ => 0))), (ca 4, .inr (4, [.ref (ca 5), .int (nI 0)])), (ca 5, .inl (G.2.1, 448, .inl (fun _ => 0))), (ca 6, .inr (4, [.ref (ca 7), .int (nI 0)])), (ca 7, .inl (G.2.1, 32, .inl (fun _ => 0))), (ca 8, .inr (4, [.ref (ca 9), .int (nI 16)])), (ca 9, .inl (G.2.1, 16, .inl (fa 0 16 (fun _ => 0) (fun _ => 0)))), (ca 10, .inr (3, [.ref (ca 11), .int (nI 3), .ref (ca 12), .ref (ca 13)])), (ca 11, .inl (G.2.1, 8, .inl (fun _ => 0))), (ca 12, .inr (2, [.ref (ca 14), .ref (ca 15)])), (ca 13, .inr (2, [.ref (ca 14), .ref (ca 16)])), (ca 14, .inl (G.2.1, 512, .inl mbI)), (ca 15, .inl (G.2.1, 128, .inl (fun _ => 0))), (ca 16, .inl (G.2.1, 128, .inl (fun _ => 0))), (ca 17, .inr (0, [.ref (ca 18), .int (nI 4), .ref (ca 19), .ref (ca 20), .ref (ca 21), .int (nI 0)])), (ca 18, .inl (G.2.1, 16, .inl (fun _ => 0))), (ca 19, .inl (G.2.1, 256, .inl (orR 256))), (ca 20, .inl (G.2.1, 60, .inl (fun _ => 0))), (ca 21, .inl (G.2.1, 16, .inl (fun _ => 0))), (ca 22, .inr (1, [.ref (ca 23)])), (ca 23, .inl (G.2.1, 16, .inl (fun _ => 0))), (ca 24, .inr (5, [.ref (ca 25), .ref (ca 26)])), (ca 25, .inl (G.2.1, 8, .inl (fun _ => 0))), (ca 26, .inl (G.2.1, 64, .inl (fun _ => 0))), (q2, .inr (7, [.null, .null, .null, .null, .null, .null, .null, .null, .null, .null, .null, .null, .null, .null, .null, .null, .null, .int 0, .null, .null, .null, .null, .null, .int 0, .null, .null, .null, .null, .int 0, .null, .int 0, .int 0, .int 0, .null, .null]))] := hD
  refine W.widen (k := 32) (n := 3045) (by decide) (by decide) ?_
  refine lv_dup hx hb dL_law_11 rfl ?_
  refine w_finv (wr := [(q1, .inr (6, [.ref (ca 0), .ref (ca 2), .ref (ca 4), .ref (ca 6), .ref (ca 8), .ref (ca 10), .ref (ca 17), .ref (ca 22), .ref (ca 24), .int (-1)])), (ca 0, .inr (4, [.ref (ca 1), .int (nI 0)])), (ca 1, .inl (G.2.1, 400, .inl (fun _ => 0))), (ca 2, .inr (4, [.ref (ca 3), .int (nI 0)])), (ca 3, .inl (G.2.1, 400, .inl (fun _ => 0))), (ca 4, .inr (4, [.ref (ca 5), .int (nI 0)])), (ca 5, .inl (G.2.1, 448, .inl (fun _ => 0))), (ca 6, .inr (4, [.ref (ca 7), .int (nI 0)])), (ca 7, .inl (G.2.1, 32, .inl (fun _ => 0))), (ca 8, .inr (4, [.ref (ca 9), .int (nI 16)])), (ca 9, .inl (G.2.1, 16, .inl (fa 0 16 (fun _ => 0) (fun _ => 0)))), (ca 10, .inr (3, [.ref (ca 11), .int (nI 3), .ref (ca 12), .ref (ca 13)])), (ca 11, .inl (G.2.1, 8, .inl (fun _ => 0))), (ca 12, .inr (2, [.ref (ca 14), .ref (ca 15)])), (ca 13, .inr (2, [.ref (ca 14), .ref (ca 16)])), (ca 14, .inl (G.2.1, 512, .inl mbI)), (ca 15, .inl (G.2.1, 128, .inl (fun _ => 0))), (ca 16, .inl (G.2.1, 128, .inl (fun _ => 0))), (ca 17, .inr (0, [.ref (ca 18), .int (nI 4), .ref (ca 19), .ref (ca 20), .ref (ca 21), .int (nI 0)])), (ca 18, .inl (G.2.1, 16, .inl (fun _ => 0))), (ca 19, .inl (G.2.1, 256, .inl (orR 256))), (ca 20, .inl (G.2.1, 60, .inl (fun _ => 0))), (ca 21, .inl (G.2.1, 16, .inl (fun _ => 0))), (ca 22, .inr (1, [.ref (ca 23)])), (ca 23, .inl (G.2.1, 16, .inl (fun _ => 0))), (ca 24, .inr (5, [.ref (ca 25), .ref (ca 26)])), (ca 25, .inl (G.2.1, 8, .inl (fun _ => 0))), (ca 26, .inl (G.2.1, 64, .inl (fun _ => 0)))]) (va_runI (As := []) (rest := [.ref q2]) ⟨hx, hb, hml, hown, hts⟩ (c_m_init l G q2 H.size) (cwI 0 hts gL_law_X8_init rfl rfl rfl (hts (.initialized RX8) (by decide +kernel)) (hts (.methodLink RL 12 yX8_init) (by decide +kernel)) (hts (.instanceMethod yX8_init) (by decide +kernel)) rfl (by decide +kernel) ⟨Nat.le_of_ble_eq_true rfl, Nat.le_of_ble_eq_true rfl⟩) ⟨wPre.blind, (fun U hU hW => ⟨rfl, w_pre hK hT hA hP hD hS (isC := [28]) (by decide) rfl U hU hW⟩)⟩ rfl rfl hl.1 rfl (lv_room (Nat.le_of_ble_eq_true rfl)) dL_law_12 ⟨Nat.le_of_ble_eq_true rfl, Nat.le_of_ble_eq_true rfl⟩) hA hP hD hS [28] [0, 1, 2, 3, 4, 5, 6, 7, 8, 9, 10, 11, 12, 13, 14, 15, 16, 17, 18, 19, 20, 21, 22, 23, 24, 25, 26, 27] rfl rfl (by decide) (by decide) (fun u H locs hpost hP hD hS => ?_)
  obtain ⟨a, rfl⟩ : ∃ z, z = u := ⟨_, rfl⟩
  try dsimp only at hpost hP hD
  have hP : va_P G.1 vwCl [(q1, .inr (6, [.ref (ca 0), .ref (ca 2), .ref (ca 4), .ref (ca 6), .ref (ca 8), .ref (ca 10), .ref (ca 17), .ref (ca 22), .ref (ca 24), .int (-1)])), (ca 0, .inr (4, [.ref (ca 1), .int (nI 0)])), (ca 1, .inl (G.2.1, 400, .inl (fun _ => 0))), (ca 2, .inr (4, [.ref (ca 3), .int (nI 0)])), (ca 3, .inl (G.2.1, 400, .inl (fun _ => 0))), (ca 4, .inr (4, [.ref (ca 5), .int (nI 0)])), (ca 5, .inl (G.2.1, 448, .inl (fun _ => 0))), (ca 6, .inr (4, [.ref (ca 7), .int (nI 0)])), (ca 7, .inl (G.2.1, 32, .inl (fun _ => 0))), (ca 8, .inr (4, [.ref (ca 9), .int (nI 16)])), (ca 9, .inl (G.2.1, 16, .inl (fa 0 16 (fun _ => 0) (fun _ => 0)))), (ca 10, .inr (3, [.ref (ca 11), .int (nI 3), .ref (ca 12), .ref (ca 13)])), (ca 11, .inl (G.2.1, 8, .inl (fun _ => 0))), (ca 12, .inr (2, [.ref (ca 14), .ref (ca 15)])), (ca 13, .inr (2, [.ref (ca 14), .ref (ca 16)])), (ca 14, .inl (G.2.1, 512, .inl mbI)), (ca 15, .inl (G.2.1, 128, .inl (fun _ => 0))), (ca 16, .inl (G.2.1, 128, .inl (fun _ => 0))), (ca 17, .inr (0, [.ref (ca 18), .int (nI 4), .ref (ca 19), .ref (ca 20), .ref (ca 21), .int (nI 0)])), (ca 18, .inl (G.2.1, 16, .inl (fun _ => 0))), (ca 19, .inl (G.2.1, 256, .inl (orR 256))), (ca 20, .inl (G.2.1, 60, .inl (fun _ => 0))), (ca 21, .inl (G.2.1, 16, .inl (fun _ => 0))), (ca 22, .inr (1, [.ref (ca 23)])), (ca 23, .inl (G.2.1, 16, .inl (fun _ => 0))), (ca 24, .inr (5, [.ref (ca 25), .ref (ca 26)])), (ca 25, .inl (G.2.1, 8, .inl (fun _ => 0))), (ca 26, .inl (G.2.1, 64, .inl (fun _ => 0))), (q2, .inr (7, mO a 0 0 0 0 (-1) 0)), (a 0, .inl (G.2.1, 64, .inl (fun j_ => nI (tbV 1 j_)))), (a 1, .inl (G.2.1, 48, .inl (fun j_ => nI (spV j_)))), (a 2, .inl (G.2.1, 32, .inl (fun j_ => nI (tbV 6 j_)))), (a 3, .inl (G.2.1, 56, .inl (fun j_ => nI (tbV 3 j_)))), (a 4, .inl (G.2.1, 48, .inl (fun j_ => nI (tbV 4 j_)))), (a 5, .inl (G.2.1, 512, .inl (fun j_ => nI (tbV 7 j_)))), (a 6, .inl (G.2.1, 64, .inl (fun j_ => nI (tbV 9 j_)))), (a 7, .inl (G.2.1, 8, .inl (fun j_ => nI (tbV 8 j_)))), (a 8, .inl (G.2.1, 256, .inl (fun j_ => nI (tbV 0 j_)))), (a 9, .inl (G.2.1, 256, .inl (orR 256))), (a 10, .inl (G.2.1, 64, .inl (fun _ => 0))), (a 11, .inl (G.2.1, 64, .inl (fun _ => 0))), (a 12, .inl (G.2.1, 56, .inl (fun _ => 0))), (a 13, .inl (G.2.1, 768, .inl (fun _ => 0))), (a 14, .inl (G.2.1, 32, .inl (fun _ => 0))), (a 15, .inl (G.2.1, 48, .inl (fun _ => 0))), (a 16, .inl (G.2.2.1, 240, .inl (fun _ => 0))), (a 18, .inl (G.2.2.1, 16, .inl (fun _ => 0))), (a 19, .inl (G.2.1, 64, .inl (fun _ => 0))), (a 20, .inl (G.2.1, 8, .inl (fun _ => 0))), (a 21, .inl (G.2.2.1, 32, .inl (fun _ => 0))), (a 22, .inl (G.2.2.1, 700, .inl (fun _ => 0))), (a 24, .inl (G.2.2.1, 16, .inl (fun _ => 0))), (a 25, .inl (G.2.2.1, 16, .inl (fun _ => 0))), (a 26, .inl (G.2.2.1, 120, .inl (fun _ => 0))), (a 27, .inl (G.2.2.1, 400, .inl (fun _ => 0))), (a 29, .inl (G.2.2.1, 416, .inl (fun _ => 0))), (a 33, .inl (G.2.2.1, 32, .inl (fun _ => 0))), (a 34, .inl (G.2.2.1, 16, .inl (fun _ => 0)))] H := hP
  have hD : va_D A [(q1, .inr (6, [.ref (ca 0), .ref (ca 2), .ref (ca 4), .ref (ca 6), .ref (ca 8), .ref (ca 10), .ref (ca 17), .ref (ca 22), .ref (ca 24), .int (-1)])), (ca 0, .inr (4, [.ref (ca 1), .int (nI 0)])), (ca 1, .inl (G.2.1, 400, .inl (fun _ => 0))), (ca 2, .inr (4, [.ref (ca 3), .int (nI 0)])), (ca 3, .inl (G.2.1, 400, .inl (fun _ => 0))), (ca 4, .inr (4, [.ref (ca 5), .int (nI 0)])), (ca 5, .inl (G.2.1, 448, .inl (fun _ => 0))), (ca 6, .inr (4, [.ref (ca 7), .int (nI 0)])), (ca 7, .inl (G.2.1, 32, .inl (fun _ => 0))), (ca 8, .inr (4, [.ref (ca 9), .int (nI 16)])), (ca 9, .inl (G.2.1, 16, .inl (fa 0 16 (fun _ => 0) (fun _ => 0)))), (ca 10, .inr (3, [.ref (ca 11), .int (nI 3), .ref (ca 12), .ref (ca 13)])), (ca 11, .inl (G.2.1, 8, .inl (fun _ => 0))), (ca 12, .inr (2, [.ref (ca 14), .ref (ca 15)])), (ca 13, .inr (2, [.ref (ca 14), .ref (ca 16)])), (ca 14, .inl (G.2.1, 512, .inl mbI)), (ca 15, .inl (G.2.1, 128, .inl (fun _ => 0))), (ca 16, .inl (G.2.1, 128, .inl (fun _ => 0))), (ca 17, .inr (0, [.ref (ca 18), .int (nI 4), .ref (ca 19), .ref (ca 20), .ref (ca 21), .int (nI 0)])), (ca 18, .inl (G.2.1, 16, .inl (fun _ => 0))), (ca 19, .inl (G.2.1, 256, .inl (orR 256))), (ca 20, .inl (G.2.1, 60, .inl (fun _ => 0))), (ca 21, .inl (G.2.1, 16, .inl (fun _ => 0))), (ca 22, .inr (1, [.ref (ca 23)])), (ca 23, .inl (G.2.1, 16, .inl (fun _ => 0))), (ca 24, .inr (5, [.ref (ca 25), .ref (ca 26)])), (ca 25, .inl (G.2.1, 8, .inl (fun _ => 0))), (ca 26, .inl (G.2.1, 64, .inl (fun _ => 0))), (q2, .inr (7, mO a 0 0 0 0 (-1) 0)), (a 0, .inl (G.2.1, 64, .inl (fun j_ => nI (tbV 1 j_)))), (a 1, .inl (G.2.1, 48, .inl (fun j_ => nI (spV j_)))), (a 2, .inl (G.2.1, 32, .inl (fun j_ => nI (tbV 6 j_)))), (a 3, .inl (G.2.1, 56, .inl (fun j_ => nI (tbV 3 j_)))), (a 4, .inl (G.2.1, 48, .inl (fun j_ => nI (tbV 4 j_)))), (a 5, .inl (G.2.1, 512, .inl (fun j_ => nI (tbV 7 j_)))), (a 6, .inl (G.2.1, 64, .inl (fun j_ => nI (tbV 9 j_)))), (a 7, .inl (G.2.1, 8, .inl (fun j_ => nI (tbV 8 j_)))), (a 8, .inl (G.2.1, 256, .inl (fun j_ => nI (tbV 0 j_)))), (a 9, .inl (G.2.1, 256, .inl (orR 256))), (a 10, .inl (G.2.1, 64, .inl (fun _ => 0))), (a 11, .inl (G.2.1, 64, .inl (fun _ => 0))), (a 12, .inl (G.2.1, 56, .inl (fun _ => 0))), (a 13, .inl (G.2.1, 768, .inl (fun _ => 0))), (a 14, .inl (G.2.1, 32, .inl (fun _ => 0))), (a 15, .inl (G.2.1, 48, .inl (fun _ => 0))), (a 16, .inl (G.2.2.1, 240, .inl (fun _ => 0))), (a 18, .inl (G.2.2.1, 16, .inl (fun _ => 0))), (a 19, .inl (G.2.1, 64, .inl (fun _ => 0))), (a 20, .inl (G.2.1, 8, .inl (fun _ => 0))), (a 21, .inl (G.2.2.1, 32, .inl (fun _ => 0))), (a 22, .inl (G.2.2.1, 700, .inl (fun _ => 0))), (a 24, .inl (G.2.2.1, 16, .inl (fun _ => 0))), (a 25, .inl (G.2.2.1, 16, .inl (fun _ => 0))), (a 26, .inl (G.2.2.1, 120, .inl (fun _ => 0))), (a 27, .inl (G.2.2.1, 400, .inl (fun _ => 0))), (a 29, .inl (G.2.2.1, 416, .inl (fun _ => 0))), (a 33, .inl (G.2.2.1, 32, .inl (fun _ => 0))), (a 34, .inl (G.2.2.1, 16, .inl (fun _ => 0)))] := hD
  refine W.widen (k := 62) (n := 8045) (by decide) (by decide) ?_
  refine lv_astore_n (lv' := [(2, .ref q2), (1, .ref q1), (0, .ref b)]) hx hb dL_law_15 rfl hl (by decide) rfl (fun ls hl => ?_)
  refine lv_iconst (v := nI 0) hx hb dL_law_16 (by decide) ?_
  refine lv_istore_n (lv' := [(3, .int (nI 0)), (2, .ref q2), (1, .ref q1), (0, .ref b)]) hx hb dL_law_17 rfl hl (by decide) rfl (fun ls hl => ?_)
  refine W.widen (k := 70) (n := 9000) (by decide) (by decide) ?_
  exact law_loop (h := q1) (ca := ca) (hm := q2) (a := a) hr hlocks hAA C (L + 1) 0 ⟨(-1), 0, 0, 0, 0, 0, (fun _ => 0), (fun _ => 0), (fun _ => 0), (fa 0 16 (fun _ => 0) (fun _ => 0)), (fun _ => 0), (fun _ => 0), (fun _ => 0), (fun _ => 0), (fun _ => 0), (fun _ => 0), (fun _ => 0), ⟨(fun _ => 0), (fun _ => 0), (fun _ => 0), (fun _ => 0), (fun _ => 0), (fun _ => 0), (fun _ => 0), 0, 0, (fun _ => 0), (fun _ => 0), (fun _ => 0), (fun _ => 0), (fun _ => 0), (fun _ => 0), (fun _ => 0), (fun _ => 0), (fun _ => 0), (fun _ => 0), (fun _ => 0), (fun _ => 0), (fun _ => 0), (fun _ => 0), (fun _ => 0)⟩⟩ H _ _ (Nat.zero_le _) (by omega) (by exact ⟨Nat.zero_le _, Nat.zero_le _, Nat.zero_le _, Nat.zero_le _, RB_0 _ _, RB_0 _ _, RB_0 _ _, bond_g, Or.inl rfl⟩) (hP.sub [0, 1, 2, 3, 4, 5, 6, 7, 8, 9, 10, 11, 12, 13, 14, 15, 16, 17, 18, 19, 20, 21, 22, 23, 24, 25, 26, 27, 28, 29, 30, 31, 32, 33, 34, 35, 36, 37, 38, 39, 40, 41, 42, 43, 44, 45, 46, 47, 48, 49, 50, 51, 52, 53, 54, 55, 56, 57] rfl) (hD.sub [0, 1, 2, 3, 4, 5, 6, 7, 8, 9, 10, 11, 12, 13, 14, 15, 16, 17, 18, 19, 20, 21, 22, 23, 24, 25, 26, 27, 28, 29, 30, 31, 32, 33, 34, 35, 36, 37, 38, 39, 40, 41, 42, 43, 44, 45, 46, 47, 48, 49, 50, 51, 52, 53, 54, 55, 56, 57] (by decide) rfl) hS (lv_sub hl [0, 1, 2, 3] rfl)
set_option maxHeartbeats 4000000 in
set_option maxRecDepth 100000 in
theorem whole_start {p : Program} {e : Env} {s : State} {m : MethodId} {below : List Frame} {meth : Method} {c : Code} (l : Launch) {b L : Nat} {xs : Nat → Int32} (hL : L ≤ 3072) (C0 : lw_At p s m meth c b L xs) : W p l e room_1 s m #[Value.ref b] below meth c s.heap [] 0 0 (lw_Z below #[Value.ref b] s) (entryFrame m ([Value.ref b] : List Value).toArray 4) := by
  obtain ⟨hx, hb, hr, hml, hown, hts, hX, hbl, hlocks, hgv⟩ := id C0
  have htl : ∀ w ∈ wsL_law, w.before #[Value.ref b] s = true := fun w hw => hts w (wsL_law_in w hw)
  have hF := flat_of_before _ hgv
  have hAn : ∀ a : Nat, a < s.heap.size → ¬ (fun q : Nat => s.heap.size ≤ q) a := fun a h => Nat.not_le.mpr h
  obtain ⟨c0, i0, k0⟩ := u_known (C := RX0) (T := TX0) (N := 6) (n := 6) htl inlX0 (htl (.instantiable RX0 6) (by decide +kernel))
  obtain ⟨c1, i1, k1⟩ := u_known (C := RX2) (T := TX2) (N := 1) (n := 1) htl inlX2 (htl (.instantiable RX2 1) (by decide +kernel))
  obtain ⟨c2, i2, k2⟩ := u_known (C := RX3) (T := TX3) (N := 2) (n := 2) htl inlX3 (htl (.instantiable RX3 2) (by decide +kernel))
  obtain ⟨c3, i3, k3⟩ := u_known (C := RX4) (T := TX4) (N := 4) (n := 4) htl inlX4 (htl (.instantiable RX4 4) (by decide +kernel))
  obtain ⟨c4, i4, k4⟩ := u_known (C := RX5) (T := TX5) (N := 2) (n := 2) htl inlX5 (htl (.instantiable RX5 2) (by decide +kernel))
  obtain ⟨c5, i5, k5⟩ := u_known (C := RX6) (T := TX6) (N := 2) (n := 2) htl inlX6 (htl (.instantiable RX6 2) (by decide +kernel))
  obtain ⟨c6, i6, k6⟩ := u_known (C := RX7) (T := TX7) (N := 10) (n := 10) htl inlX7 (htl (.instantiable RX7 10) (by decide +kernel))
  obtain ⟨c7, i7, k7⟩ := u_known (C := RX8) (T := TX8) (N := 35) (n := 35) htl inlX8 (htl (.instantiable RX8 35) (by decide +kernel))
  obtain ⟨t0, z0⟩ := tab_0 (A := fun q : Nat => s.heap.size ≤ q) hts hF hAn
  obtain ⟨t1, z1⟩ := tab_1 (A := fun q : Nat => s.heap.size ≤ q) hts hF hAn
  obtain ⟨t2, z2⟩ := tab_2 (A := fun q : Nat => s.heap.size ≤ q) hts hF hAn
  obtain ⟨t3, z3⟩ := tab_3 (A := fun q : Nat => s.heap.size ≤ q) hts hF hAn
  obtain ⟨t4, z4⟩ := tab_4 (A := fun q : Nat => s.heap.size ≤ q) hts hF hAn
  obtain ⟨t5, z5⟩ := tab_5 (A := fun q : Nat => s.heap.size ≤ q) hts hF hAn
  obtain ⟨t6, z6⟩ := tab_6 (A := fun q : Nat => s.heap.size ≤ q) hts hF hAn
  obtain ⟨t7, z7⟩ := tab_7 (A := fun q : Nat => s.heap.size ≤ q) hts hF hAn
  obtain ⟨t8, z8⟩ := tab_8 (A := fun q : Nat => s.heap.size ≤ q) hts hF hAn
  obtain ⟨t9, z9⟩ := tab_9 (A := fun q : Nat => s.heap.size ≤ q) hts hF hAn
  obtain ⟨cI, kI, cpI, fI, gI, eI⟩ := Cond.arrayClass_spec (htl (.arrayClass .int) (by decide +kernel))
  obtain ⟨cB, kB, cpB, fB, gB, eB⟩ := Cond.arrayClass_spec (htl (.arrayClass .byte) (by decide +kernel))
  obtain ⟨dC, dI, hKc⟩ : ∃ (dC : Nat → ClassId) (dI : Nat → Nat → Nat), ∀ (k : Nat) (q : vw_C), vwCl[k]? = some q → u_Kn s q.1 q.2.1 q.2.2 (dC k) (dI k) := by
    refine ⟨fun k => match k with | 0 => c0 | 1 => c1 | 2 => c2 | 3 => c3 | 4 => c4 | 5 => c5 | 6 => c6 | _ => c7, fun k => match k with | 0 => i0 | 1 => i1 | 2 => i2 | 3 => i3 | 4 => i4 | 5 => i5 | 6 => i6 | _ => i7, ?_⟩
    intro k q hq
    match k, hq with
    | 0, hq => cases hq; exact k0
    | 1, hq => cases hq; exact k1
    | 2, hq => cases hq; exact k2
    | 3, hq => cases hq; exact k3
    | 4, hq => cases hq; exact k4
    | 5, hq => cases hq; exact k5
    | 6, hq => cases hq; exact k6
    | 7, hq => cases hq; exact k7
    | k + 8, hq => simp [vwCl] at hq
  have hK : va_K (dC, dI) vwCl [(cI, .int), (cB, .byte)] s := by
    refine ⟨hKc, ?_⟩
    intro k q hq
    match k, hq with
    | 0, hq => cases hq; exact ⟨fun n z => ⟨fun k h => (by cases h), kI, gI, cpI, eI⟩, fI⟩
    | 1, hq => cases hq; exact ⟨fun n z => ⟨fun k h => (by cases h), kB, gB, cpB, eB⟩, fB⟩
    | k + 2, hq => simp at hq
  have hT : wTab ((dC, dI), cI, cB, fun k => match k with | 0 => t0 | 1 => t1 | 2 => t2 | 3 => t3 | 4 => t4 | 5 => t5 | 6 => t6 | 7 => t7 | 8 => t8 | _ => t9) (fun q : Nat => s.heap.size ≤ q) s := by
    refine ⟨?_, hts (.methodLinkNest "CipherBox" 46 yX2_init "CipherBox") (List.mem_of_getElem? (i := 154) rfl), hts (.methodLinkNest "CipherBox" 53 yX6_init "CipherBox") (List.mem_of_getElem? (i := 164) rfl), hts (.methodLinkNest "CipherBox$Aes" 36 yX7_turnRight "CipherBox") (List.mem_of_getElem? (i := 309) rfl), hts (.methodLinkNest "CipherBox$Sha256" 58 yX7_turnRight "CipherBox") (List.mem_of_getElem? (i := 605) rfl), hts (.declares ⟨"CipherBox$BlockCipher", "codeThere", "()V"⟩) (by decide +kernel), hts (.declares ⟨"CipherBox$BlockCipher", "codeBack", "()V"⟩) (by decide +kernel)⟩
    intro i hi
    match i, hi with
    | 0, _ => exact z0
    | 1, _ => exact z1
    | 2, _ => exact z2
    | 3, _ => exact z3
    | 4, _ => exact z4
    | 5, _ => exact z5
    | 6, _ => exact z6
    | 7, _ => exact z7
    | 8, _ => exact z8
    | 9, _ => exact z9
    | i + 10, hi => exact absurd hi (by omega)
  have hl := lv_entry ([.ref b]) (n := 4) (Nat.le_of_ble_eq_true rfl)
  rw [lg_entry_eq]
  generalize (lg_sl ([.ref b]) ++ List.replicate (4 - (lg_sl ([.ref b])).length) Slot.unset).toArray = ls at hl ⊢
  exact law_start hr hlocks (fun _ h => h) ⟨hx, hb, hml, hown, htl, hX, hbl, Nat.not_le.mpr hbl, hK, hT, fun _ h => h, hL⟩ hl
-- ===== YOUR PART ENDS =====
set_option maxHeartbeats 4000000 in
theorem lw_walk (l : Launch) (b : Addr) (xs : List Int32) : MetFree l x (headSpec (Jvm.Cond.code x code maxLocals ret :: tables_1) room_1) (lw_P b xs) (fun _ _ _ _ _ => True) lw_Q := by
  refine MetFree.of_bodyS (code := code) (maxLocals := maxLocals) (ret := ret) (by decide) ?_ ?_
  · intro args s m h hn
    obtain ⟨meth, c, h1, h2, h3, h4, h5, h6, -, -⟩ := Cond.code_spec hn (atoms_spec (ws := Jvm.Cond.code x code maxLocals ret :: tables_1) h _ List.mem_cons_self)
    exact ⟨meth, c, h1, h2, h3, h4, h5, h6⟩
  · intro p e s m args below meth c s₁ B hml0 hP _
    obtain ⟨rfl, hx, hbd, hgv⟩ := hP
    obtain ⟨scr, harrAt, hlist, hof, hsmall⟩ := hx
    obtain ⟨hcb, hkn, -, -⟩ := State.arrayAt?_spec harrAt
    have hown : s.vm.findClass R_law = some m.cls := findClass_of_methodNamed B.named
    have hts0 : ∀ c ∈ (Jvm.Cond.code x code maxLocals ret :: tables_1), c.before #[Value.ref b] s = true := atoms_spec (ws := Jvm.Cond.code x code maxLocals ret :: tables_1) B.pre
    have hts : ∀ w ∈ lw_tbl, w.before #[Value.ref b] s = true := k2_hts_sels lw_privs (fun w hw => hts0 w (List.mem_cons_of_mem _ hw)) lw_privs_ok
    have hml : c.maxLocals = 4 := B.maxLocals_eq (hts0 _ List.mem_cons_self)
    have X₀ : Stand p l e room_1 s m #[Value.ref b] below meth c s₁ [] 0 0 := Stand.of_body B
    have hh0 : s₁.heap = s.heap := by rw [B.state]; rfl
    have hsz : scr.slots.size = xs.length := by rw [← Array.length_toList, hlist, List.length_map]
    have hval : ∀ j : Nat, j < xs.length → scr.slots[j]? = some (.int (xs.getD j 0)) := fun j hj => by
      rw [← Array.getElem?_toList, hlist]
      simp [hj]
    have hbl : b < s.heap.size := (Array.getElem?_eq_some_iff.mp hcb).1
    have hX : va_X b xs.length (fun j => xs.getD j 0) s s.heap := ⟨scr, hcb, hof, hkn, hsz, hval⟩
    have K : W p l e room_1 s m #[Value.ref b] below meth c s₁.heap [] 0 0 (lw_Z below #[Value.ref b] s) (entryFrame m ([Value.ref b] : List Value).toArray 4) := by
      rw [hh0]
      exact whole_start l hbd ⟨B.exec, B.bytes, B.returns, hml, hown, hts, hX, hbl, B.notSynchronized, hgv⟩
    obtain ⟨t, a1, o, b1, b2, b3⟩ := K s₁ rfl X₀
    exact ⟨t, o, a1, b1, b2, b3⟩
theorem lw_pre_spec {args : Array Value} {s : State} (h : (Jvm.Cond.and given_1 narrow_1).before args s = true) (hr : rest_1_c.before args s = true) : ∃ (b : Addr) (xs : List Int32), lw_P b xs args s := by
  have hs := flat_of_before _ h
  have hq := flat_of_before _ hr
  have hc : (Cond.count 1).before args s = true := hs _ (by decide +kernel)
  have harr : (Cond.arrayOf (.arg 0) .int).before args s = true := hs _ (by decide +kernel)
  have hle : (Cond.le (.length (.arg 0)) (.int 3072)).before args s = true := hs _ (by decide +kernel)
  have hlen : (Cond.isInt (.length (.arg 0))).before args s = true := hq _ (by decide +kernel)
  have hall : (Cond.all (.arg 0) (.isInt (.elem (.arg 0) (.index 0)))).before args s = true := hq _ (by decide +kernel)
  obtain ⟨b, xs, hb, hx⟩ := State.ints_of_pre rfl harr hlen hall
  have hsm : xs.length < 2 ^ 31 := hx.choose_spec.2.2.2
  have hev : (Term.length (.arg 0)).eval args s none [] s = some (.int xs.length.toInt32) := hx.length_eval hb
  have hv := Cond.le_ints hev (show (Term.int 3072).eval args s none [] s = some (.int 3072) from rfl)
  have hd : xs.length.toInt32 ≤ 3072 := by
    simpa [Cond.before, Cond.holds, hv] using hle
  have hN : xs.length ≤ 3072 := (Int32.ofNat_le_ofNat hsm (by decide)).mp (show Int32.ofNat xs.length ≤ Int32.ofNat 3072 from hd)
  exact ⟨b, xs, Cond.one_arg hc (show args[0]? = some (.ref b) from hb), hx, hN, h⟩
theorem lw_comes (l : Launch) : Comes l x (Jvm.Cond.code x code maxLocals ret :: tables_1) room_1 (fun tb e args s => Calls_1 tb e args s ∧ rest_1 tb e args s ∧ Pre_1 tb e args s)
    (fun _ _ args s o t => lw_Q args s o t) := by
  intro p e ha hc hk s m args below hf hfit hheap happ hpre
  obtain ⟨b, xs, hP⟩ := lw_pre_spec hpre.2.2 hpre.2.1
  obtain ⟨k, o, h1, h2, h3, hQ⟩ := lw_walk l b xs p e ha hc hk s m args below hf ((Spec.applies_iff_loose hf).mp happ).1 hP trivial
  exact ⟨k, o, h1, h2, h3, hQ⟩
theorem lw_frame {s t : State} {o : Outcome} {args : Array Value} (h : Framed s o t [] 600000 7302250) :
    Framed s o t (fieldLocs frame_1_writes args s ++ arrayLocs frame_1_arrays args s ++ staticLocs frame_1_statics s) 600000 7302250 := h
theorem lw_limb (L : Cond) (hL : ∀ (args : Array Value) (s t : State), L.after args s (.returned (some (.int 1))) t = true) :
    ArmFor flags0 classFile x code maxLocals ret World_1 tables_1 room_1 Calls_1 rest_1 Pre_1
      (fun tb e a s o t => postC L tb e a s o t ∧ Framed s o t (fieldLocs frame_1_writes a s ++ arrayLocs frame_1_arrays a s ++ staticLocs frame_1_statics s) 600000 7302250) := by
  intro l _ _ _ p e ha hc hk s m args below hf hfit hheap happ hpre
  obtain ⟨k, o, h1, h2, h3, rfl, hF⟩ := lw_comes l p e ha hc hk s m args below hf hfit hheap happ hpre
  exact ⟨k, _, h1, h2, h3, hL args s _, lw_frame hF⟩
theorem i_vc : Claimed_1_1 ∧ Claimed_1_2 := ⟨lw_limb limb_1_1 (fun args s t => by simp [limb_1_1, Cond.after, Cond.holds, Cond.value]), lw_limb limb_1_2 (fun args s t => Cond.after_iff.mpr (by
  first | (rw [show limb_1_2 = Cond.eq .result (.int 1) from rfl, Cond.eq_ints (x := 1) (y := 1) rfl rfl]; simp; done) | (simp [limb_1_2, Cond.value, Term.eval]; done)))⟩
