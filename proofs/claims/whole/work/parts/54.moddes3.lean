/-! the model's DES: a block that lies at d in a row, as eight bytes X: fa d 8 X f -/
theorem pkA_eq {bt : Nat → Nat} {f : Nat → Int32} {d : Nat} : ∀ k, k ≤ 64 → pkA bt f d k = fa d 8 (fun j_ => pkA bt (fun _ => 0) 0 k j_) f := by
  intro k
  induction k with
  | zero =>
    intro _
    simp only [pkA]
    exact fa_eq (fun j hj => by rw [fa_in (Nat.zero_le _) (by omega)])
  | succ k ih =>
    intro hk
    have hp := tb1_in k (by omega)
    have e := ih (by omega)
    simp only [pkA]
    rw [e]
    have e2 : fa d 8 (fun j_ => pkA bt (fun _ => 0) 0 k j_) f (d + (tbV 1 k - 1) / 8) = pkA bt (fun _ => 0) 0 k (0 + (tbV 1 k - 1) / 8) := by
      rw [fa_at (by omega), Nat.zero_add]
    rw [e2]
    funext j
    simp only [upd, fa]
    by_cases h : d ≤ j ∧ j < d + 8
    · simp only [if_pos h]
      by_cases h1 : j = d + (tbV 1 k - 1) / 8
      · rw [if_pos h1, if_pos (by omega)]
      · rw [if_neg h1, if_neg (by omega)]
    · simp only [if_neg h]
      rw [if_neg (by omega)]
theorem bI_fa {x f : Nat → Int32} {d : Nat} : bI (fa d 8 x f) d = bI x 0 := by
  funext k
  have hp : (tbV 1 k - 1) / 8 < 8 := by
    by_cases h : k < 64
    · have := tb1_in k h; omega
    · have e : tbV 1 k = 0 := by
        have hl : tb1.length = 64 := by decide +kernel
        show (tb1[k]?).getD 0 = 0
        rw [List.getElem?_eq_none (by omega)]
        rfl
      rw [e]; decide
  simp only [bI, bitN]
  rw [fa_at hp, Nat.zero_add]
theorem rdN_fa {x f : Nat → Int32} {d : Nat} {sk ix : Nat → Nat} : ∀ r, rdN (fa d 8 x f) d sk ix r = rdN x 0 sk ix r := by
  intro r
  induction r with
  | zero => exact bI_fa
  | succ r ih => simp only [rdN]; rw [ih]
/-- a block of eight bytes by DES; sk: its round keys, ix: which of them when -/
def dsX (sk ix : Nat → Nat) (x : Nat → Int32) : Nat → Int32 := fun j_ => pkA (rdN x 0 sk ix 16) (fun _ => 0) 0 64 j_
set_option maxHeartbeats 4000000 in
theorem c_m_dsX0 (l : Launch) (G : wG) (h : Nat) (a : Nat → Nat) (rd mn tp os : Nat) (ty : Int32) (sz : Nat) (b bn d b8 n8 e0 : Nat) (X fb fk fc fq ft fw fh0 fu : Nat → Int32) (hd : d + 8 ≤ bn) (hbn : bn < 2 ^ 20) (he : e0 + 8 ≤ n8) (hn8 : n8 < 2 ^ 20) : CMv l G yX8_des wsX8_des 1 28 0 0 [.ref h, .ref b, .int (nI d), .ref b8, .int (nI e0), .int (nI 0)] [(h, .inr (7, mO a rd mn tp os ty sz)), (a 3, .inl (G.2.1, 56, .inl (fun j_ => nI (tbV 3 j_)))), (a 4, .inl (G.2.1, 48, .inl (fun j_ => nI (tbV 4 j_)))), (a 0, .inl (G.2.1, 64, .inl (fun j_ => nI (tbV 1 j_)))), (a 1, .inl (G.2.1, 48, .inl (fun j_ => nI (spV j_)))), (a 2, .inl (G.2.1, 32, .inl (fun j_ => nI (tbV 6 j_)))), (a 5, .inl (G.2.1, 512, .inl (fun j_ => nI (tbV 7 j_)))), (a 12, .inl (G.2.1, 56, .inl fc)), (a 13, .inl (G.2.1, 768, .inl fq)), (a 10, .inl (G.2.1, 64, .inl ft)), (a 15, .inl (G.2.1, 48, .inl fw)), (a 14, .inl (G.2.1, 32, .inl fh0)), (a 11, .inl (G.2.1, 64, .inl fu)), (b, .inl (G.2.2.1, bn, .inl (fa d 8 X fb))), (b8, .inl (G.2.2.1, n8, .inl fk))] (fun (u : (Nat → Int32) × (Nat → Int32) × (Nat → Int32)) => True) (fun u => match u with | (w2, h2, u2) => [(h, .inr (7, mO a rd mn tp os ty sz)), (a 3, .inl (G.2.1, 56, .inl (fun j_ => nI (tbV 3 j_)))), (a 4, .inl (G.2.1, 48, .inl (fun j_ => nI (tbV 4 j_)))), (a 0, .inl (G.2.1, 64, .inl (fun j_ => nI (tbV 1 j_)))), (a 1, .inl (G.2.1, 48, .inl (fun j_ => nI (spV j_)))), (a 2, .inl (G.2.1, 32, .inl (fun j_ => nI (tbV 6 j_)))), (a 5, .inl (G.2.1, 512, .inl (fun j_ => nI (tbV 7 j_)))), (a 12, .inl (G.2.1, 56, .inl (nF (cdR fk e0 16)))), (a 13, .inl (G.2.1, 768, .inl (nF (skB fk e0)))), (a 10, .inl (G.2.1, 64, .inl (nF (rdN X 0 (skB fk e0) (fun i_ => i_) 16)))), (a 15, .inl (G.2.1, 48, .inl w2)), (a 14, .inl (G.2.1, 32, .inl h2)), (a 11, .inl (G.2.1, 64, .inl u2)), (b, .inl (G.2.2.1, bn, .inl (fa d 8 (dsX (skB fk e0) (fun i_ => i_) X) fb))), (b8, .inl (G.2.2.1, n8, .inl fk))]) := by
  have h9 := c_m_des0 l G h a rd mn tp os ty sz b bn d b8 n8 e0 (fa d 8 X fb) fk fc fq ft fw fh0 fu hd hbn he hn8
  rw [rdN_fa, pkA_eq 64 (Nat.le_refl _), fa_fa] at h9
  exact h9

set_option maxHeartbeats 4000000 in
theorem c_m_dsX1 (l : Launch) (G : wG) (h : Nat) (a : Nat → Nat) (rd mn tp os : Nat) (ty : Int32) (sz : Nat) (b bn d b8 n8 e0 : Nat) (X fb fk fc fq ft fw fh0 fu : Nat → Int32) (hd : d + 8 ≤ bn) (hbn : bn < 2 ^ 20) (he : e0 + 8 ≤ n8) (hn8 : n8 < 2 ^ 20) : CMv l G yX8_des wsX8_des 1 28 0 0 [.ref h, .ref b, .int (nI d), .ref b8, .int (nI e0), .int (nI 1)] [(h, .inr (7, mO a rd mn tp os ty sz)), (a 3, .inl (G.2.1, 56, .inl (fun j_ => nI (tbV 3 j_)))), (a 4, .inl (G.2.1, 48, .inl (fun j_ => nI (tbV 4 j_)))), (a 0, .inl (G.2.1, 64, .inl (fun j_ => nI (tbV 1 j_)))), (a 1, .inl (G.2.1, 48, .inl (fun j_ => nI (spV j_)))), (a 2, .inl (G.2.1, 32, .inl (fun j_ => nI (tbV 6 j_)))), (a 5, .inl (G.2.1, 512, .inl (fun j_ => nI (tbV 7 j_)))), (a 12, .inl (G.2.1, 56, .inl fc)), (a 13, .inl (G.2.1, 768, .inl fq)), (a 10, .inl (G.2.1, 64, .inl ft)), (a 15, .inl (G.2.1, 48, .inl fw)), (a 14, .inl (G.2.1, 32, .inl fh0)), (a 11, .inl (G.2.1, 64, .inl fu)), (b, .inl (G.2.2.1, bn, .inl (fa d 8 X fb))), (b8, .inl (G.2.2.1, n8, .inl fk))] (fun (u : (Nat → Int32) × (Nat → Int32) × (Nat → Int32)) => True) (fun u => match u with | (w2, h2, u2) => [(h, .inr (7, mO a rd mn tp os ty sz)), (a 3, .inl (G.2.1, 56, .inl (fun j_ => nI (tbV 3 j_)))), (a 4, .inl (G.2.1, 48, .inl (fun j_ => nI (tbV 4 j_)))), (a 0, .inl (G.2.1, 64, .inl (fun j_ => nI (tbV 1 j_)))), (a 1, .inl (G.2.1, 48, .inl (fun j_ => nI (spV j_)))), (a 2, .inl (G.2.1, 32, .inl (fun j_ => nI (tbV 6 j_)))), (a 5, .inl (G.2.1, 512, .inl (fun j_ => nI (tbV 7 j_)))), (a 12, .inl (G.2.1, 56, .inl (nF (cdR fk e0 16)))), (a 13, .inl (G.2.1, 768, .inl (nF (skB fk e0)))), (a 10, .inl (G.2.1, 64, .inl (nF (rdN X 0 (skB fk e0) (fun i_ => 15 - i_) 16)))), (a 15, .inl (G.2.1, 48, .inl w2)), (a 14, .inl (G.2.1, 32, .inl h2)), (a 11, .inl (G.2.1, 64, .inl u2)), (b, .inl (G.2.2.1, bn, .inl (fa d 8 (dsX (skB fk e0) (fun i_ => 15 - i_) X) fb))), (b8, .inl (G.2.2.1, n8, .inl fk))]) := by
  have h9 := c_m_des1 l G h a rd mn tp os ty sz b bn d b8 n8 e0 (fa d 8 X fb) fk fc fq ft fw fh0 fu hd hbn he hn8
  rw [rdN_fa, pkA_eq 64 (Nat.le_refl _), fa_fa] at h9
  exact h9

set_option maxHeartbeats 4000000 in
set_option maxRecDepth 100000 in
theorem c_m_des3_0 (l : Launch) (G : wG) (h : Nat) (a : Nat → Nat) (rd mn tp os : Nat) (ty : Int32) (sz : Nat) (b bn d b8 n8 e0 : Nat) (X fb fk fc fq ft fw fh0 fu : Nat → Int32) (hd : d + 8 ≤ bn) (hbn : bn < 2 ^ 20) (he : e0 + 16 ≤ n8) (hn8 : n8 < 2 ^ 20) : CMv l G yX8_des3 wsX8_des3 2 60 0 0 [.ref h, .ref b, .int (nI d), .ref b8, .int (nI e0), .int (nI 0)] [(h, .inr (7, mO a rd mn tp os ty sz)), (a 3, .inl (G.2.1, 56, .inl (fun j_ => nI (tbV 3 j_)))), (a 4, .inl (G.2.1, 48, .inl (fun j_ => nI (tbV 4 j_)))), (a 0, .inl (G.2.1, 64, .inl (fun j_ => nI (tbV 1 j_)))), (a 1, .inl (G.2.1, 48, .inl (fun j_ => nI (spV j_)))), (a 2, .inl (G.2.1, 32, .inl (fun j_ => nI (tbV 6 j_)))), (a 5, .inl (G.2.1, 512, .inl (fun j_ => nI (tbV 7 j_)))), (a 12, .inl (G.2.1, 56, .inl fc)), (a 13, .inl (G.2.1, 768, .inl fq)), (a 10, .inl (G.2.1, 64, .inl ft)), (a 15, .inl (G.2.1, 48, .inl fw)), (a 14, .inl (G.2.1, 32, .inl fh0)), (a 11, .inl (G.2.1, 64, .inl fu)), (b, .inl (G.2.2.1, bn, .inl (fa d 8 X fb))), (b8, .inl (G.2.2.1, n8, .inl fk))] (fun (u : (Nat → Int32) × (Nat → Int32) × (Nat → Int32) × (Nat → Int32) × (Nat → Int32) × (Nat → Int32)) => True) (fun u => match u with | (y1, y2, y3, y4, y5, y6) => [(h, .inr (7, mO a rd mn tp os ty sz)), (a 3, .inl (G.2.1, 56, .inl (fun j_ => nI (tbV 3 j_)))), (a 4, .inl (G.2.1, 48, .inl (fun j_ => nI (tbV 4 j_)))), (a 0, .inl (G.2.1, 64, .inl (fun j_ => nI (tbV 1 j_)))), (a 1, .inl (G.2.1, 48, .inl (fun j_ => nI (spV j_)))), (a 2, .inl (G.2.1, 32, .inl (fun j_ => nI (tbV 6 j_)))), (a 5, .inl (G.2.1, 512, .inl (fun j_ => nI (tbV 7 j_)))), (a 12, .inl (G.2.1, 56, .inl y1)), (a 13, .inl (G.2.1, 768, .inl y2)), (a 10, .inl (G.2.1, 64, .inl y3)), (a 15, .inl (G.2.1, 48, .inl y4)), (a 14, .inl (G.2.1, 32, .inl y5)), (a 11, .inl (G.2.1, 64, .inl y6)), (b, .inl (G.2.2.1, bn, .inl (fa d 8 (dsX (skB fk e0) (fun i_ => i_) (dsX (skB fk (e0 + 8)) (fun i_ => 15 - i_) (dsX (skB fk e0) (fun i_ => i_) X))) fb))), (b8, .inl (G.2.2.1, n8, .inl fk))]) := by
  refine CMv.start cX8_des3 6 (by decide) rfl (Nat.le_of_ble_eq_true rfl) ?_
  intro p e s m below meth c A Q ls H locs hx hb hml hown hnm hts hK hT hA hP hD hS hl hret
  have hl : lv_has ls 6 [(0, .ref h), (1, .ref b), (2, .int (nI d)), (3, .ref b8), (4, .int (nI e0)), (5, .int (nI 0))] := hl
  refine lv_aload_n hx hb dX8_des3_0 rfl (lv_at hl 0 rfl) ?_
  refine lv_aload_n hx hb dX8_des3_1 rfl (lv_at hl 1 rfl) ?_
  refine lv_iload_n hx hb dX8_des3_2 rfl (lv_at hl 2 rfl) ?_
  refine lv_aload_n hx hb dX8_des3_3 rfl (lv_at hl 3 rfl) ?_
  refine lv_iload hx hb dX8_des3_4 (lv_at hl 4 rfl) ?_
  refine lv_iload hx hb dX8_des3_6 (lv_at hl 5 rfl) ?_
  refine w_finv (wr := []) (va_runV (As := [.ref b, .int (nI d), .ref b8, .int (nI e0), .int (nI 0)]) (rest := []) ⟨hx, hb, hml, hown, hts⟩ (c_m_dsX0 l G h a rd mn tp os ty sz b bn d b8 n8 e0 X fb fk fc fq ft fw fh0 fu (by omega) (by omega) (by omega) (by omega) H.size) (cwV 5 hts gX8_des3_X8_des rfl rfl rfl (by decide +kernel) ⟨Nat.le_of_ble_eq_true rfl, Nat.le_of_ble_eq_true rfl⟩) ⟨wPre.blind, (va_recv hK hP (ci := 7) (q0 := 0) rfl rfl), (fun U hU hW => ⟨rfl, w_pre hK hT hA hP hD hS (isC := [0, 1, 2, 3, 4, 5, 6, 7, 8, 9, 10, 11, 12, 13, 14]) (by decide) rfl U hU hW⟩)⟩ rfl rfl hl.1 rfl (lv_room (Nat.le_of_ble_eq_true rfl)) dX8_des3_8 ⟨Nat.le_of_ble_eq_true rfl, Nat.le_of_ble_eq_true rfl⟩) hA hP hD hS [0, 1, 2, 3, 4, 5, 6, 7, 8, 9, 10, 11, 12, 13, 14] [] rfl rfl (by decide) (by decide) (fun u H locs hpost hP hD hS => ?_)
  obtain ⟨z1, z2, z3⟩ := u
  try dsimp only at hpost hP hD
  have hP : va_P G.1 vwCl [(h, .inr (7, mO a rd mn tp os ty sz)), (a 3, .inl (G.2.1, 56, .inl (fun j_ => nI (tbV 3 j_)))), (a 4, .inl (G.2.1, 48, .inl (fun j_ => nI (tbV 4 j_)))), (a 0, .inl (G.2.1, 64, .inl (fun j_ => nI (tbV 1 j_)))), (a 1, .inl (G.2.1, 48, .inl (fun j_ => nI (spV j_)))), (a 2, .inl (G.2.1, 32, .inl (fun j_ => nI (tbV 6 j_)))), (a 5, .inl (G.2.1, 512, .inl (fun j_ => nI (tbV 7 j_)))), (a 12, .inl (G.2.1, 56, .inl (nF (cdR fk e0 16)))), (a 13, .inl (G.2.1, 768, .inl (nF (skB fk e0)))), (a 10, .inl (G.2.1, 64, .inl (nF (rdN X 0 (skB fk e0) (fun i_ => i_) 16)))), (a 15, .inl (G.2.1, 48, .inl z1)), (a 14, .inl (G.2.1, 32, .inl z2)), (a 11, .inl (G.2.1, 64, .inl z3)), (b, .inl (G.2.2.1, bn, .inl (fa d 8 (dsX (skB fk e0) (fun i_ => i_) X) fb))), (b8, .inl (G.2.2.1, n8, .inl fk))] H := hP
  have hD : va_D A [(h, .inr (7, mO a rd mn tp os ty sz)), (a 3, .inl (G.2.1, 56, .inl (fun j_ => nI (tbV 3 j_)))), (a 4, .inl (G.2.1, 48, .inl (fun j_ => nI (tbV 4 j_)))), (a 0, .inl (G.2.1, 64, .inl (fun j_ => nI (tbV 1 j_)))), (a 1, .inl (G.2.1, 48, .inl (fun j_ => nI (spV j_)))), (a 2, .inl (G.2.1, 32, .inl (fun j_ => nI (tbV 6 j_)))), (a 5, .inl (G.2.1, 512, .inl (fun j_ => nI (tbV 7 j_)))), (a 12, .inl (G.2.1, 56, .inl (nF (cdR fk e0 16)))), (a 13, .inl (G.2.1, 768, .inl (nF (skB fk e0)))), (a 10, .inl (G.2.1, 64, .inl (nF (rdN X 0 (skB fk e0) (fun i_ => i_) 16)))), (a 15, .inl (G.2.1, 48, .inl z1)), (a 14, .inl (G.2.1, 32, .inl z2)), (a 11, .inl (G.2.1, 64, .inl z3)), (b, .inl (G.2.2.1, bn, .inl (fa d 8 (dsX (skB fk e0) (fun i_ => i_) X) fb))), (b8, .inl (G.2.2.1, n8, .inl fk))] := hD
  refine lv_aload_n hx hb dX8_des3_11 rfl (lv_at hl 0 rfl) ?_
  refine lv_aload_n hx hb dX8_des3_12 rfl (lv_at hl 1 rfl) ?_
  refine lv_iload_n hx hb dX8_des3_13 rfl (lv_at hl 2 rfl) ?_
  refine lv_aload_n hx hb dX8_des3_14 rfl (lv_at hl 3 rfl) ?_
  refine lv_iload hx hb dX8_des3_15 (lv_at hl 4 rfl) ?_
  refine lv_bipush (v := nI 8) hx hb dX8_des3_17 (by decide) ?_
  refine w_iaddN hx hb dX8_des3_19 ?_
  refine lv_iload hx hb dX8_des3_20 (lv_at hl 5 rfl) ?_
  refine w_ifN_ne (tgt := 29) hx hb (by omega) dX8_des3_22 (by decide) (fun h1 => ?_) (fun h1 => ?_)
  · exact absurd rfl h1
  · refine lv_iconst (v := nI 1) hx hb dX8_des3_25 (by decide) ?_
    refine lv_goto (tgt := 30) hx hb dX8_des3_26 (by decide) ?_
    refine w_finv (wr := []) (va_runV (As := [.ref b, .int (nI d), .ref b8, .int (nI (e0 + 8)), .int (nI 1)]) (rest := []) ⟨hx, hb, hml, hown, hts⟩ (c_m_dsX1 l G h a rd mn tp os ty sz b bn d b8 n8 (e0 + 8) (dsX (skB fk e0) (fun i_ => i_) X) fb fk (nF (cdR fk e0 16)) (nF (skB fk e0)) (nF (rdN X 0 (skB fk e0) (fun i_ => i_) 16)) z1 z2 z3 (by omega) (by omega) (by omega) (by omega) H.size) (cwV 5 hts gX8_des3_X8_des rfl rfl rfl (by decide +kernel) ⟨Nat.le_of_ble_eq_true rfl, Nat.le_of_ble_eq_true rfl⟩) ⟨wPre.blind, (va_recv hK hP (ci := 7) (q0 := 0) rfl rfl), (fun U hU hW => ⟨rfl, w_pre hK hT hA hP hD hS (isC := [0, 1, 2, 3, 4, 5, 6, 7, 8, 9, 10, 11, 12, 13, 14]) (by decide) rfl U hU hW⟩)⟩ rfl rfl hl.1 rfl (lv_room (Nat.le_of_ble_eq_true rfl)) dX8_des3_30 ⟨Nat.le_of_ble_eq_true rfl, Nat.le_of_ble_eq_true rfl⟩) hA hP hD hS [0, 1, 2, 3, 4, 5, 6, 7, 8, 9, 10, 11, 12, 13, 14] [] rfl rfl (by decide) (by decide) (fun u H locs hpost hP hD hS => ?_)
    obtain ⟨z1, z2, z3⟩ := u
    try dsimp only at hpost hP hD
    have hP : va_P G.1 vwCl [(h, .inr (7, mO a rd mn tp os ty sz)), (a 3, .inl (G.2.1, 56, .inl (fun j_ => nI (tbV 3 j_)))), (a 4, .inl (G.2.1, 48, .inl (fun j_ => nI (tbV 4 j_)))), (a 0, .inl (G.2.1, 64, .inl (fun j_ => nI (tbV 1 j_)))), (a 1, .inl (G.2.1, 48, .inl (fun j_ => nI (spV j_)))), (a 2, .inl (G.2.1, 32, .inl (fun j_ => nI (tbV 6 j_)))), (a 5, .inl (G.2.1, 512, .inl (fun j_ => nI (tbV 7 j_)))), (a 12, .inl (G.2.1, 56, .inl (nF (cdR fk (e0 + 8) 16)))), (a 13, .inl (G.2.1, 768, .inl (nF (skB fk (e0 + 8))))), (a 10, .inl (G.2.1, 64, .inl (nF (rdN (dsX (skB fk e0) (fun i_ => i_) X) 0 (skB fk (e0 + 8)) (fun i_ => 15 - i_) 16)))), (a 15, .inl (G.2.1, 48, .inl z1)), (a 14, .inl (G.2.1, 32, .inl z2)), (a 11, .inl (G.2.1, 64, .inl z3)), (b, .inl (G.2.2.1, bn, .inl (fa d 8 (dsX (skB fk (e0 + 8)) (fun i_ => 15 - i_) (dsX (skB fk e0) (fun i_ => i_) X)) fb))), (b8, .inl (G.2.2.1, n8, .inl fk))] H := hP
    have hD : va_D A [(h, .inr (7, mO a rd mn tp os ty sz)), (a 3, .inl (G.2.1, 56, .inl (fun j_ => nI (tbV 3 j_)))), (a 4, .inl (G.2.1, 48, .inl (fun j_ => nI (tbV 4 j_)))), (a 0, .inl (G.2.1, 64, .inl (fun j_ => nI (tbV 1 j_)))), (a 1, .inl (G.2.1, 48, .inl (fun j_ => nI (spV j_)))), (a 2, .inl (G.2.1, 32, .inl (fun j_ => nI (tbV 6 j_)))), (a 5, .inl (G.2.1, 512, .inl (fun j_ => nI (tbV 7 j_)))), (a 12, .inl (G.2.1, 56, .inl (nF (cdR fk (e0 + 8) 16)))), (a 13, .inl (G.2.1, 768, .inl (nF (skB fk (e0 + 8))))), (a 10, .inl (G.2.1, 64, .inl (nF (rdN (dsX (skB fk e0) (fun i_ => i_) X) 0 (skB fk (e0 + 8)) (fun i_ => 15 - i_) 16)))), (a 15, .inl (G.2.1, 48, .inl z1)), (a 14, .inl (G.2.1, 32, .inl z2)), (a 11, .inl (G.2.1, 64, .inl z3)), (b, .inl (G.2.2.1, bn, .inl (fa d 8 (dsX (skB fk (e0 + 8)) (fun i_ => 15 - i_) (dsX (skB fk e0) (fun i_ => i_) X)) fb))), (b8, .inl (G.2.2.1, n8, .inl fk))] := hD
    refine lv_aload_n hx hb dX8_des3_33 rfl (lv_at hl 0 rfl) ?_
    refine lv_aload_n hx hb dX8_des3_34 rfl (lv_at hl 1 rfl) ?_
    refine lv_iload_n hx hb dX8_des3_35 rfl (lv_at hl 2 rfl) ?_
    refine lv_aload_n hx hb dX8_des3_36 rfl (lv_at hl 3 rfl) ?_
    refine lv_iload hx hb dX8_des3_37 (lv_at hl 4 rfl) ?_
    refine lv_iload hx hb dX8_des3_39 (lv_at hl 5 rfl) ?_
    refine w_finv (wr := []) (va_runV (As := [.ref b, .int (nI d), .ref b8, .int (nI e0), .int (nI 0)]) (rest := []) ⟨hx, hb, hml, hown, hts⟩ (c_m_dsX0 l G h a rd mn tp os ty sz b bn d b8 n8 e0 (dsX (skB fk (e0 + 8)) (fun i_ => 15 - i_) (dsX (skB fk e0) (fun i_ => i_) X)) fb fk (nF (cdR fk (e0 + 8) 16)) (nF (skB fk (e0 + 8))) (nF (rdN (dsX (skB fk e0) (fun i_ => i_) X) 0 (skB fk (e0 + 8)) (fun i_ => 15 - i_) 16)) z1 z2 z3 (by omega) (by omega) (by omega) (by omega) H.size) (cwV 5 hts gX8_des3_X8_des rfl rfl rfl (by decide +kernel) ⟨Nat.le_of_ble_eq_true rfl, Nat.le_of_ble_eq_true rfl⟩) ⟨wPre.blind, (va_recv hK hP (ci := 7) (q0 := 0) rfl rfl), (fun U hU hW => ⟨rfl, w_pre hK hT hA hP hD hS (isC := [0, 1, 2, 3, 4, 5, 6, 7, 8, 9, 10, 11, 12, 13, 14]) (by decide) rfl U hU hW⟩)⟩ rfl rfl hl.1 rfl (lv_room (Nat.le_of_ble_eq_true rfl)) dX8_des3_41 ⟨Nat.le_of_ble_eq_true rfl, Nat.le_of_ble_eq_true rfl⟩) hA hP hD hS [0, 1, 2, 3, 4, 5, 6, 7, 8, 9, 10, 11, 12, 13, 14] [] rfl rfl (by decide) (by decide) (fun u H locs hpost hP hD hS => ?_)
    obtain ⟨z1, z2, z3⟩ := u
    try dsimp only at hpost hP hD
    have hP : va_P G.1 vwCl [(h, .inr (7, mO a rd mn tp os ty sz)), (a 3, .inl (G.2.1, 56, .inl (fun j_ => nI (tbV 3 j_)))), (a 4, .inl (G.2.1, 48, .inl (fun j_ => nI (tbV 4 j_)))), (a 0, .inl (G.2.1, 64, .inl (fun j_ => nI (tbV 1 j_)))), (a 1, .inl (G.2.1, 48, .inl (fun j_ => nI (spV j_)))), (a 2, .inl (G.2.1, 32, .inl (fun j_ => nI (tbV 6 j_)))), (a 5, .inl (G.2.1, 512, .inl (fun j_ => nI (tbV 7 j_)))), (a 12, .inl (G.2.1, 56, .inl (nF (cdR fk e0 16)))), (a 13, .inl (G.2.1, 768, .inl (nF (skB fk e0)))), (a 10, .inl (G.2.1, 64, .inl (nF (rdN (dsX (skB fk (e0 + 8)) (fun i_ => 15 - i_) (dsX (skB fk e0) (fun i_ => i_) X)) 0 (skB fk e0) (fun i_ => i_) 16)))), (a 15, .inl (G.2.1, 48, .inl z1)), (a 14, .inl (G.2.1, 32, .inl z2)), (a 11, .inl (G.2.1, 64, .inl z3)), (b, .inl (G.2.2.1, bn, .inl (fa d 8 (dsX (skB fk e0) (fun i_ => i_) (dsX (skB fk (e0 + 8)) (fun i_ => 15 - i_) (dsX (skB fk e0) (fun i_ => i_) X))) fb))), (b8, .inl (G.2.2.1, n8, .inl fk))] H := hP
    have hD : va_D A [(h, .inr (7, mO a rd mn tp os ty sz)), (a 3, .inl (G.2.1, 56, .inl (fun j_ => nI (tbV 3 j_)))), (a 4, .inl (G.2.1, 48, .inl (fun j_ => nI (tbV 4 j_)))), (a 0, .inl (G.2.1, 64, .inl (fun j_ => nI (tbV 1 j_)))), (a 1, .inl (G.2.1, 48, .inl (fun j_ => nI (spV j_)))), (a 2, .inl (G.2.1, 32, .inl (fun j_ => nI (tbV 6 j_)))), (a 5, .inl (G.2.1, 512, .inl (fun j_ => nI (tbV 7 j_)))), (a 12, .inl (G.2.1, 56, .inl (nF (cdR fk e0 16)))), (a 13, .inl (G.2.1, 768, .inl (nF (skB fk e0)))), (a 10, .inl (G.2.1, 64, .inl (nF (rdN (dsX (skB fk (e0 + 8)) (fun i_ => 15 - i_) (dsX (skB fk e0) (fun i_ => i_) X)) 0 (skB fk e0) (fun i_ => i_) 16)))), (a 15, .inl (G.2.1, 48, .inl z1)), (a 14, .inl (G.2.1, 32, .inl z2)), (a 11, .inl (G.2.1, 64, .inl z3)), (b, .inl (G.2.2.1, bn, .inl (fa d 8 (dsX (skB fk e0) (fun i_ => i_) (dsX (skB fk (e0 + 8)) (fun i_ => 15 - i_) (dsX (skB fk e0) (fun i_ => i_) X))) fb))), (b8, .inl (G.2.2.1, n8, .inl fk))] := hD
    exact hret ⟨_, _, _, _, _, _⟩ H _ 44 ls dX8_des3_44 (trivial) (hP.sub [0, 1, 2, 3, 4, 5, 6, 7, 8, 9, 10, 11, 12, 13, 14] rfl) (hD.sub [0, 1, 2, 3, 4, 5, 6, 7, 8, 9, 10, 11, 12, 13, 14] (by decide) rfl) hS

set_option maxHeartbeats 4000000 in
set_option maxRecDepth 100000 in
theorem c_m_des3_1 (l : Launch) (G : wG) (h : Nat) (a : Nat → Nat) (rd mn tp os : Nat) (ty : Int32) (sz : Nat) (b bn d b8 n8 e0 : Nat) (X fb fk fc fq ft fw fh0 fu : Nat → Int32) (hd : d + 8 ≤ bn) (hbn : bn < 2 ^ 20) (he : e0 + 16 ≤ n8) (hn8 : n8 < 2 ^ 20) : CMv l G yX8_des3 wsX8_des3 2 60 0 0 [.ref h, .ref b, .int (nI d), .ref b8, .int (nI e0), .int (nI 1)] [(h, .inr (7, mO a rd mn tp os ty sz)), (a 3, .inl (G.2.1, 56, .inl (fun j_ => nI (tbV 3 j_)))), (a 4, .inl (G.2.1, 48, .inl (fun j_ => nI (tbV 4 j_)))), (a 0, .inl (G.2.1, 64, .inl (fun j_ => nI (tbV 1 j_)))), (a 1, .inl (G.2.1, 48, .inl (fun j_ => nI (spV j_)))), (a 2, .inl (G.2.1, 32, .inl (fun j_ => nI (tbV 6 j_)))), (a 5, .inl (G.2.1, 512, .inl (fun j_ => nI (tbV 7 j_)))), (a 12, .inl (G.2.1, 56, .inl fc)), (a 13, .inl (G.2.1, 768, .inl fq)), (a 10, .inl (G.2.1, 64, .inl ft)), (a 15, .inl (G.2.1, 48, .inl fw)), (a 14, .inl (G.2.1, 32, .inl fh0)), (a 11, .inl (G.2.1, 64, .inl fu)), (b, .inl (G.2.2.1, bn, .inl (fa d 8 X fb))), (b8, .inl (G.2.2.1, n8, .inl fk))] (fun (u : (Nat → Int32) × (Nat → Int32) × (Nat → Int32) × (Nat → Int32) × (Nat → Int32) × (Nat → Int32)) => True) (fun u => match u with | (y1, y2, y3, y4, y5, y6) => [(h, .inr (7, mO a rd mn tp os ty sz)), (a 3, .inl (G.2.1, 56, .inl (fun j_ => nI (tbV 3 j_)))), (a 4, .inl (G.2.1, 48, .inl (fun j_ => nI (tbV 4 j_)))), (a 0, .inl (G.2.1, 64, .inl (fun j_ => nI (tbV 1 j_)))), (a 1, .inl (G.2.1, 48, .inl (fun j_ => nI (spV j_)))), (a 2, .inl (G.2.1, 32, .inl (fun j_ => nI (tbV 6 j_)))), (a 5, .inl (G.2.1, 512, .inl (fun j_ => nI (tbV 7 j_)))), (a 12, .inl (G.2.1, 56, .inl y1)), (a 13, .inl (G.2.1, 768, .inl y2)), (a 10, .inl (G.2.1, 64, .inl y3)), (a 15, .inl (G.2.1, 48, .inl y4)), (a 14, .inl (G.2.1, 32, .inl y5)), (a 11, .inl (G.2.1, 64, .inl y6)), (b, .inl (G.2.2.1, bn, .inl (fa d 8 (dsX (skB fk e0) (fun i_ => 15 - i_) (dsX (skB fk (e0 + 8)) (fun i_ => i_) (dsX (skB fk e0) (fun i_ => 15 - i_) X))) fb))), (b8, .inl (G.2.2.1, n8, .inl fk))]) := by
  refine CMv.start cX8_des3 6 (by decide) rfl (Nat.le_of_ble_eq_true rfl) ?_
  intro p e s m below meth c A Q ls H locs hx hb hml hown hnm hts hK hT hA hP hD hS hl hret
  have hl : lv_has ls 6 [(0, .ref h), (1, .ref b), (2, .int (nI d)), (3, .ref b8), (4, .int (nI e0)), (5, .int (nI 1))] := hl
  refine lv_aload_n hx hb dX8_des3_0 rfl (lv_at hl 0 rfl) ?_
  refine lv_aload_n hx hb dX8_des3_1 rfl (lv_at hl 1 rfl) ?_
  refine lv_iload_n hx hb dX8_des3_2 rfl (lv_at hl 2 rfl) ?_
  refine lv_aload_n hx hb dX8_des3_3 rfl (lv_at hl 3 rfl) ?_
  refine lv_iload hx hb dX8_des3_4 (lv_at hl 4 rfl) ?_
  refine lv_iload hx hb dX8_des3_6 (lv_at hl 5 rfl) ?_
  refine w_finv (wr := []) (va_runV (As := [.ref b, .int (nI d), .ref b8, .int (nI e0), .int (nI 1)]) (rest := []) ⟨hx, hb, hml, hown, hts⟩ (c_m_dsX1 l G h a rd mn tp os ty sz b bn d b8 n8 e0 X fb fk fc fq ft fw fh0 fu (by omega) (by omega) (by omega) (by omega) H.size) (cwV 5 hts gX8_des3_X8_des rfl rfl rfl (by decide +kernel) ⟨Nat.le_of_ble_eq_true rfl, Nat.le_of_ble_eq_true rfl⟩) ⟨wPre.blind, (va_recv hK hP (ci := 7) (q0 := 0) rfl rfl), (fun U hU hW => ⟨rfl, w_pre hK hT hA hP hD hS (isC := [0, 1, 2, 3, 4, 5, 6, 7, 8, 9, 10, 11, 12, 13, 14]) (by decide) rfl U hU hW⟩)⟩ rfl rfl hl.1 rfl (lv_room (Nat.le_of_ble_eq_true rfl)) dX8_des3_8 ⟨Nat.le_of_ble_eq_true rfl, Nat.le_of_ble_eq_true rfl⟩) hA hP hD hS [0, 1, 2, 3, 4, 5, 6, 7, 8, 9, 10, 11, 12, 13, 14] [] rfl rfl (by decide) (by decide) (fun u H locs hpost hP hD hS => ?_)
  obtain ⟨z1, z2, z3⟩ := u
  try dsimp only at hpost hP hD
  have hP : va_P G.1 vwCl [(h, .inr (7, mO a rd mn tp os ty sz)), (a 3, .inl (G.2.1, 56, .inl (fun j_ => nI (tbV 3 j_)))), (a 4, .inl (G.2.1, 48, .inl (fun j_ => nI (tbV 4 j_)))), (a 0, .inl (G.2.1, 64, .inl (fun j_ => nI (tbV 1 j_)))), (a 1, .inl (G.2.1, 48, .inl (fun j_ => nI (spV j_)))), (a 2, .inl (G.2.1, 32, .inl (fun j_ => nI (tbV 6 j_)))), (a 5, .inl (G.2.1, 512, .inl (fun j_ => nI (tbV 7 j_)))), (a 12, .inl (G.2.1, 56, .inl (nF (cdR fk e0 16)))), (a 13, .inl (G.2.1, 768, .inl (nF (skB fk e0)))), (a 10, .inl (G.2.1, 64, .inl (nF (rdN X 0 (skB fk e0) (fun i_ => 15 - i_) 16)))), (a 15, .inl (G.2.1, 48, .inl z1)), (a 14, .inl (G.2.1, 32, .inl z2)), (a 11, .inl (G.2.1, 64, .inl z3)), (b, .inl (G.2.2.1, bn, .inl (fa d 8 (dsX (skB fk e0) (fun i_ => 15 - i_) X) fb))), (b8, .inl (G.2.2.1, n8, .inl fk))] H := hP
  have hD : va_D A [(h, .inr (7, mO a rd mn tp os ty sz)), (a 3, .inl (G.2.1, 56, .inl (fun j_ => nI (tbV 3 j_)))), (a 4, .inl (G.2.1, 48, .inl (fun j_ => nI (tbV 4 j_)))), (a 0, .inl (G.2.1, 64, .inl (fun j_ => nI (tbV 1 j_)))), (a 1, .inl (G.2.1, 48, .inl (fun j_ => nI (spV j_)))), (a 2, .inl (G.2.1, 32, .inl (fun j_ => nI (tbV 6 j_)))), (a 5, .inl (G.2.1, 512, .inl (fun j_ => nI (tbV 7 j_)))), (a 12, .inl (G.2.1, 56, .inl (nF (cdR fk e0 16)))), (a 13, .inl (G.2.1, 768, .inl (nF (skB fk e0)))), (a 10, .inl (G.2.1, 64, .inl (nF (rdN X 0 (skB fk e0) (fun i_ => 15 - i_) 16)))), (a 15, .inl (G.2.1, 48, .inl z1)), (a 14, .inl (G.2.1, 32, .inl z2)), (a 11, .inl (G.2.1, 64, .inl z3)), (b, .inl (G.2.2.1, bn, .inl (fa d 8 (dsX (skB fk e0) (fun i_ => 15 - i_) X) fb))), (b8, .inl (G.2.2.1, n8, .inl fk))] := hD
  refine lv_aload_n hx hb dX8_des3_11 rfl (lv_at hl 0 rfl) ?_
  refine lv_aload_n hx hb dX8_des3_12 rfl (lv_at hl 1 rfl) ?_
  refine lv_iload_n hx hb dX8_des3_13 rfl (lv_at hl 2 rfl) ?_
  refine lv_aload_n hx hb dX8_des3_14 rfl (lv_at hl 3 rfl) ?_
  refine lv_iload hx hb dX8_des3_15 (lv_at hl 4 rfl) ?_
  refine lv_bipush (v := nI 8) hx hb dX8_des3_17 (by decide) ?_
  refine w_iaddN hx hb dX8_des3_19 ?_
  refine lv_iload hx hb dX8_des3_20 (lv_at hl 5 rfl) ?_
  refine w_ifN_ne (tgt := 29) hx hb (by omega) dX8_des3_22 (by decide) (fun h1 => ?_) (fun h1 => ?_)
  · refine lv_iconst (v := nI 0) hx hb dX8_des3_29 (by decide) ?_
    refine w_finv (wr := []) (va_runV (As := [.ref b, .int (nI d), .ref b8, .int (nI (e0 + 8)), .int (nI 0)]) (rest := []) ⟨hx, hb, hml, hown, hts⟩ (c_m_dsX0 l G h a rd mn tp os ty sz b bn d b8 n8 (e0 + 8) (dsX (skB fk e0) (fun i_ => 15 - i_) X) fb fk (nF (cdR fk e0 16)) (nF (skB fk e0)) (nF (rdN X 0 (skB fk e0) (fun i_ => 15 - i_) 16)) z1 z2 z3 (by omega) (by omega) (by omega) (by omega) H.size) (cwV 5 hts gX8_des3_X8_des rfl rfl rfl (by decide +kernel) ⟨Nat.le_of_ble_eq_true rfl, Nat.le_of_ble_eq_true rfl⟩) ⟨wPre.blind, (va_recv hK hP (ci := 7) (q0 := 0) rfl rfl), (fun U hU hW => ⟨rfl, w_pre hK hT hA hP hD hS (isC := [0, 1, 2, 3, 4, 5, 6, 7, 8, 9, 10, 11, 12, 13, 14]) (by decide) rfl U hU hW⟩)⟩ rfl rfl hl.1 rfl (lv_room (Nat.le_of_ble_eq_true rfl)) dX8_des3_30 ⟨Nat.le_of_ble_eq_true rfl, Nat.le_of_ble_eq_true rfl⟩) hA hP hD hS [0, 1, 2, 3, 4, 5, 6, 7, 8, 9, 10, 11, 12, 13, 14] [] rfl rfl (by decide) (by decide) (fun u H locs hpost hP hD hS => ?_)
    obtain ⟨z1, z2, z3⟩ := u
    try dsimp only at hpost hP hD
    have hP : va_P G.1 vwCl [(h, .inr (7, mO a rd mn tp os ty sz)), (a 3, .inl (G.2.1, 56, .inl (fun j_ => nI (tbV 3 j_)))), (a 4, .inl (G.2.1, 48, .inl (fun j_ => nI (tbV 4 j_)))), (a 0, .inl (G.2.1, 64, .inl (fun j_ => nI (tbV 1 j_)))), (a 1, .inl (G.2.1, 48, .inl (fun j_ => nI (spV j_)))), (a 2, .inl (G.2.1, 32, .inl (fun j_ => nI (tbV 6 j_)))), (a 5, .inl (G.2.1, 512, .inl (fun j_ => nI (tbV 7 j_)))), (a 12, .inl (G.2.1, 56, .inl (nF (cdR fk (e0 + 8) 16)))), (a 13, .inl (G.2.1, 768, .inl (nF (skB fk (e0 + 8))))), (a 10, .inl (G.2.1, 64, .inl (nF (rdN (dsX (skB fk e0) (fun i_ => 15 - i_) X) 0 (skB fk (e0 + 8)) (fun i_ => i_) 16)))), (a 15, .inl (G.2.1, 48, .inl z1)), (a 14, .inl (G.2.1, 32, .inl z2)), (a 11, .inl (G.2.1, 64, .inl z3)), (b, .inl (G.2.2.1, bn, .inl (fa d 8 (dsX (skB fk (e0 + 8)) (fun i_ => i_) (dsX (skB fk e0) (fun i_ => 15 - i_) X)) fb))), (b8, .inl (G.2.2.1, n8, .inl fk))] H := hP
    have hD : va_D A [(h, .inr (7, mO a rd mn tp os ty sz)), (a 3, .inl (G.2.1, 56, .inl (fun j_ => nI (tbV 3 j_)))), (a 4, .inl (G.2.1, 48, .inl (fun j_ => nI (tbV 4 j_)))), (a 0, .inl (G.2.1, 64, .inl (fun j_ => nI (tbV 1 j_)))), (a 1, .inl (G.2.1, 48, .inl (fun j_ => nI (spV j_)))), (a 2, .inl (G.2.1, 32, .inl (fun j_ => nI (tbV 6 j_)))), (a 5, .inl (G.2.1, 512, .inl (fun j_ => nI (tbV 7 j_)))), (a 12, .inl (G.2.1, 56, .inl (nF (cdR fk (e0 + 8) 16)))), (a 13, .inl (G.2.1, 768, .inl (nF (skB fk (e0 + 8))))), (a 10, .inl (G.2.1, 64, .inl (nF (rdN (dsX (skB fk e0) (fun i_ => 15 - i_) X) 0 (skB fk (e0 + 8)) (fun i_ => i_) 16)))), (a 15, .inl (G.2.1, 48, .inl z1)), (a 14, .inl (G.2.1, 32, .inl z2)), (a 11, .inl (G.2.1, 64, .inl z3)), (b, .inl (G.2.2.1, bn, .inl (fa d 8 (dsX (skB fk (e0 + 8)) (fun i_ => i_) (dsX (skB fk e0) (fun i_ => 15 - i_) X)) fb))), (b8, .inl (G.2.2.1, n8, .inl fk))] := hD
    refine lv_aload_n hx hb dX8_des3_33 rfl (lv_at hl 0 rfl) ?_
    refine lv_aload_n hx hb dX8_des3_34 rfl (lv_at hl 1 rfl) ?_
    refine lv_iload_n hx hb dX8_des3_35 rfl (lv_at hl 2 rfl) ?_
    refine lv_aload_n hx hb dX8_des3_36 rfl (lv_at hl 3 rfl) ?_
    refine lv_iload hx hb dX8_des3_37 (lv_at hl 4 rfl) ?_
    refine lv_iload hx hb dX8_des3_39 (lv_at hl 5 rfl) ?_
    refine w_finv (wr := []) (va_runV (As := [.ref b, .int (nI d), .ref b8, .int (nI e0), .int (nI 1)]) (rest := []) ⟨hx, hb, hml, hown, hts⟩ (c_m_dsX1 l G h a rd mn tp os ty sz b bn d b8 n8 e0 (dsX (skB fk (e0 + 8)) (fun i_ => i_) (dsX (skB fk e0) (fun i_ => 15 - i_) X)) fb fk (nF (cdR fk (e0 + 8) 16)) (nF (skB fk (e0 + 8))) (nF (rdN (dsX (skB fk e0) (fun i_ => 15 - i_) X) 0 (skB fk (e0 + 8)) (fun i_ => i_) 16)) z1 z2 z3 (by omega) (by omega) (by omega) (by omega) H.size) (cwV 5 hts gX8_des3_X8_des rfl rfl rfl (by decide +kernel) ⟨Nat.le_of_ble_eq_true rfl, Nat.le_of_ble_eq_true rfl⟩) ⟨wPre.blind, (va_recv hK hP (ci := 7) (q0 := 0) rfl rfl), (fun U hU hW => ⟨rfl, w_pre hK hT hA hP hD hS (isC := [0, 1, 2, 3, 4, 5, 6, 7, 8, 9, 10, 11, 12, 13, 14]) (by decide) rfl U hU hW⟩)⟩ rfl rfl hl.1 rfl (lv_room (Nat.le_of_ble_eq_true rfl)) dX8_des3_41 ⟨Nat.le_of_ble_eq_true rfl, Nat.le_of_ble_eq_true rfl⟩) hA hP hD hS [0, 1, 2, 3, 4, 5, 6, 7, 8, 9, 10, 11, 12, 13, 14] [] rfl rfl (by decide) (by decide) (fun u H locs hpost hP hD hS => ?_)
    obtain ⟨z1, z2, z3⟩ := u
    try dsimp only at hpost hP hD
    have hP : va_P G.1 vwCl [(h, .inr (7, mO a rd mn tp os ty sz)), (a 3, .inl (G.2.1, 56, .inl (fun j_ => nI (tbV 3 j_)))), (a 4, .inl (G.2.1, 48, .inl (fun j_ => nI (tbV 4 j_)))), (a 0, .inl (G.2.1, 64, .inl (fun j_ => nI (tbV 1 j_)))), (a 1, .inl (G.2.1, 48, .inl (fun j_ => nI (spV j_)))), (a 2, .inl (G.2.1, 32, .inl (fun j_ => nI (tbV 6 j_)))), (a 5, .inl (G.2.1, 512, .inl (fun j_ => nI (tbV 7 j_)))), (a 12, .inl (G.2.1, 56, .inl (nF (cdR fk e0 16)))), (a 13, .inl (G.2.1, 768, .inl (nF (skB fk e0)))), (a 10, .inl (G.2.1, 64, .inl (nF (rdN (dsX (skB fk (e0 + 8)) (fun i_ => i_) (dsX (skB fk e0) (fun i_ => 15 - i_) X)) 0 (skB fk e0) (fun i_ => 15 - i_) 16)))), (a 15, .inl (G.2.1, 48, .inl z1)), (a 14, .inl (G.2.1, 32, .inl z2)), (a 11, .inl (G.2.1, 64, .inl z3)), (b, .inl (G.2.2.1, bn, .inl (fa d 8 (dsX (skB fk e0) (fun i_ => 15 - i_) (dsX (skB fk (e0 + 8)) (fun i_ => i_) (dsX (skB fk e0) (fun i_ => 15 - i_) X))) fb))), (b8, .inl (G.2.2.1, n8, .inl fk))] H := hP
    have hD : va_D A [(h, .inr (7, mO a rd mn tp os ty sz)), (a 3, .inl (G.2.1, 56, .inl (fun j_ => nI (tbV 3 j_)))), (a 4, .inl (G.2.1, 48, .inl (fun j_ => nI (tbV 4 j_)))), (a 0, .inl (G.2.1, 64, .inl (fun j_ => nI (tbV 1 j_)))), (a 1, .inl (G.2.1, 48, .inl (fun j_ => nI (spV j_)))), (a 2, .inl (G.2.1, 32, .inl (fun j_ => nI (tbV 6 j_)))), (a 5, .inl (G.2.1, 512, .inl (fun j_ => nI (tbV 7 j_)))), (a 12, .inl (G.2.1, 56, .inl (nF (cdR fk e0 16)))), (a 13, .inl (G.2.1, 768, .inl (nF (skB fk e0)))), (a 10, .inl (G.2.1, 64, .inl (nF (rdN (dsX (skB fk (e0 + 8)) (fun i_ => i_) (dsX (skB fk e0) (fun i_ => 15 - i_) X)) 0 (skB fk e0) (fun i_ => 15 - i_) 16)))), (a 15, .inl (G.2.1, 48, .inl z1)), (a 14, .inl (G.2.1, 32, .inl z2)), (a 11, .inl (G.2.1, 64, .inl z3)), (b, .inl (G.2.2.1, bn, .inl (fa d 8 (dsX (skB fk e0) (fun i_ => 15 - i_) (dsX (skB fk (e0 + 8)) (fun i_ => i_) (dsX (skB fk e0) (fun i_ => 15 - i_) X))) fb))), (b8, .inl (G.2.2.1, n8, .inl fk))] := hD
    exact hret ⟨_, _, _, _, _, _⟩ H _ 44 ls dX8_des3_44 (trivial) (hP.sub [0, 1, 2, 3, 4, 5, 6, 7, 8, 9, 10, 11, 12, 13, 14] rfl) (hD.sub [0, 1, 2, 3, 4, 5, 6, 7, 8, 9, 10, 11, 12, 13, 14] (by decide) rfl) hS
  · exact absurd h1 (by decide)

def shfI (f : Nat → Int32) : Nat → Int32 := fun j => bN ((f j <<< (nI 1 &&& 31)) ||| (if j < 15 then (f (j + 1) >>> (nI 7 &&& 31)) &&& nI 1 else nI 0))
def shfO (f : Nat → Int32) : Nat → Int32 := if (f 0 >>> (nI 7 &&& 31)) &&& nI 1 = nI 1 then upd (shfI f) 15 (bN (shfI f 15 ^^^ (-121))) else shfI f
set_option maxHeartbeats 4000000 in
set_option maxRecDepth 100000 in
theorem c_m_shift (l : Launch) (G : wG) (b : Nat) (f : Nat → Int32)  : CMv l G yX8_shift wsX8_shift 0 0 0 0 [.ref b] [(b, .inl (G.2.2.1, 16, .inl f))] (fun (_ : Unit) => True) (fun _ => [(b, .inl (G.2.2.1, 16, .inl (shfO f)))]) := by
  refine CMv.start cX8_shift 3 (by decide) rfl (Nat.le_of_ble_eq_true rfl) ?_
  intro p e s m below meth c A Q ls H locs hx hb hml hown hnm hts hK hT hA hP hD hS hl hret
  have hl : lv_has ls 3 [(0, .ref b)] := hl
  refine lv_aload_n hx hb dX8_shift_0 rfl (lv_at hl 0 rfl) ?_
  refine lv_iconst (v := nI 0) hx hb dX8_shift_1 (by decide) ?_
  refine w_bald hx hb hK hP 0 rfl (by omega) (by omega) dX8_shift_2 ?_
  refine lv_bipush (v := nI 7) hx hb dX8_shift_3 (by decide) ?_
  refine lv_ishr hx hb dX8_shift_5 ?_
  refine lv_iconst (v := nI 1) hx hb dX8_shift_6 (by decide) ?_
  refine lv_iand hx hb dX8_shift_7 ?_
  refine lv_istore_n (lv' := [(1, .int (((f 0) >>> ((nI 7) &&& 31)) &&& (nI 1))), (0, .ref b)]) hx hb dX8_shift_8 rfl hl (by decide) rfl (fun ls hl => ?_)
  refine lv_iconst (v := nI 0) hx hb dX8_shift_9 (by decide) ?_
  refine lv_istore_n (lv' := [(2, .int (nI 0)), (1, .int (((f 0) >>> ((nI 7) &&& 31)) &&& (nI 1))), (0, .ref b)]) hx hb dX8_shift_10 rfl hl (by decide) rfl (fun ls hl => ?_)
  refine w_loop (ι := Nat) (fun k => 16 - k) (fun k => k ≤ 16) (fun k => [(b, .inl (G.2.2.1, 16, .inl (fl k (shfI f) f)))]) (fun k => [(2, .int (nI k)), (1, .int (((f 0) >>> ((nI 7) &&& 31)) &&& (nI 1))), (0, .ref b)]) 0 (by omega) (by simp only [fl_0]; exact hP) (by simp only [fl_0]; exact hD) hS hl ?_
  intro k H locs ls hk hP hD hS hl ih
  have hk : k ≤ 16 := hk
  have hP : va_P G.1 vwCl [(b, .inl (G.2.2.1, 16, .inl (fl k (shfI f) f)))] H := hP
  have hD : va_D A [(b, .inl (G.2.2.1, 16, .inl (fl k (shfI f) f)))] := hD
  have hl : lv_has ls 3 [(2, .int (nI k)), (1, .int (((f 0) >>> ((nI 7) &&& 31)) &&& (nI 1))), (0, .ref b)] := hl
  refine lv_iload_n hx hb dX8_shift_11 rfl (lv_at hl 0 rfl) ?_
  refine lv_bipush (v := nI 16) hx hb dX8_shift_12 (by decide) ?_
  refine w_icmpN_ge (tgt := 53) hx hb (by omega) (by omega) dX8_shift_14 (by decide) (fun h1 => ?_) (fun h1 => ?_)
  · obtain rfl : 16 = k := Eq.symm (show k = 16 from by omega)
    have hP := w_ext (fl 16 (shfI f) f) (shfI f) 0 hP rfl (fun j hj => fl_in hj)
    have hD := hD.set (p := 0) (e := .inl (G.2.2.1, 16, .inl (shfI f))) rfl
    have hP : va_P G.1 vwCl [(b, .inl (G.2.2.1, 16, .inl (shfI f)))] H := hP
    have hD : va_D A [(b, .inl (G.2.2.1, 16, .inl (shfI f)))] := hD
    refine lv_iload_n hx hb dX8_shift_53 rfl (lv_at hl 1 rfl) ?_
    refine lv_iconst (v := nI 1) hx hb dX8_shift_54 (by decide) ?_
    refine lv_icmp_ne (tgt := 68) hx hb dX8_shift_55 (by decide) (fun h2 => ?_) (fun h2 => ?_)
    · exact hret () H _ 68 ls dX8_shift_68 (trivial) (by rw [show shfO f = shfI f by unfold shfO; rw [if_neg (by assumption)]]; exact (hP.sub [0] rfl)) (by rw [show shfO f = shfI f by unfold shfO; rw [if_neg (by assumption)]]; exact (hD.sub [0] (by decide) rfl)) hS
    · refine lv_aload_n hx hb dX8_shift_58 rfl (lv_at hl 2 rfl) ?_
      refine lv_bipush (v := nI 15) hx hb dX8_shift_59 (by decide) ?_
      refine lv_dup2_11 hx hb dX8_shift_61 rfl rfl ?_
      refine w_bald hx hb hK hP 0 rfl (by omega) (by omega) dX8_shift_62 ?_
      refine lv_bipush (v := (-121)) hx hb dX8_shift_63 (by decide) ?_
      refine lv_ixor hx hb dX8_shift_65 ?_
      refine lv_i2b (v := bN (((shfI f) 15) ^^^ (-121))) hx hb dX8_shift_66 rfl ?_
      refine w_bast hx hb hK hP hD hS 0 rfl (by omega) (by omega) (upd (shfI f) 15 (bN (((shfI f) 15) ^^^ (-121)))) (by rw [bN_bN]) dX8_shift_67 (fun H locs hP hD hS => ?_)
      have hP : va_P G.1 vwCl [(b, .inl (G.2.2.1, 16, .inl (upd (shfI f) 15 (bN (((shfI f) 15) ^^^ (-121))))))] H := hP
      have hD : va_D A [(b, .inl (G.2.2.1, 16, .inl (upd (shfI f) 15 (bN (((shfI f) 15) ^^^ (-121))))))] := hD
      exact hret () H _ 68 ls dX8_shift_68 (trivial) (by rw [show shfO f = upd (shfI f) 15 (bN (shfI f 15 ^^^ (-121))) by unfold shfO; rw [if_pos (by assumption)]]; exact (hP.sub [0] rfl)) (by rw [show shfO f = upd (shfI f) 15 (bN (shfI f 15 ^^^ (-121))) by unfold shfO; rw [if_pos (by assumption)]]; exact (hD.sub [0] (by decide) rfl)) hS
  · refine lv_aload_n hx hb dX8_shift_17 rfl (lv_at hl 2 rfl) ?_
    refine lv_iload_n hx hb dX8_shift_18 rfl (lv_at hl 0 rfl) ?_
    refine lv_aload_n hx hb dX8_shift_19 rfl (lv_at hl 2 rfl) ?_
    refine lv_iload_n hx hb dX8_shift_20 rfl (lv_at hl 0 rfl) ?_
    refine w_bald hx hb hK hP 0 rfl (by omega) (by omega) dX8_shift_21 ?_
    refine lv_iconst (v := nI 1) hx hb dX8_shift_22 (by decide) ?_
    refine lv_ishl hx hb dX8_shift_23 ?_
    refine lv_iload_n hx hb dX8_shift_24 rfl (lv_at hl 0 rfl) ?_
    refine lv_bipush (v := nI 15) hx hb dX8_shift_25 (by decide) ?_
    refine w_icmpN_ge (tgt := 43) hx hb (by omega) (by omega) dX8_shift_27 (by decide) (fun h3 => ?_) (fun h3 => ?_)
    · refine lv_iconst (v := nI 0) hx hb dX8_shift_43 (by decide) ?_
      refine lv_ior hx hb dX8_shift_44 ?_
      refine lv_i2b (v := bN ((((fl k (shfI f) f) k) <<< ((nI 1) &&& 31)) ||| (nI 0))) hx hb dX8_shift_45 rfl ?_
      refine w_bast hx hb hK hP hD hS 0 rfl (by omega) (by omega) (fl (k + 1) (shfI f) f) (by rw [bN_bN]; exact fl_s (by simp only [shfI]; rw [fl_out (Nat.le_refl _)]; first | rw [if_pos (by assumption), fl_out (by omega)] | rw [if_neg (by omega)])) dX8_shift_46 (fun H locs hP hD hS => ?_)
      have hP : va_P G.1 vwCl [(b, .inl (G.2.2.1, 16, .inl (fl (k + 1) (shfI f) f)))] H := hP
      have hD : va_D A [(b, .inl (G.2.2.1, 16, .inl (fl (k + 1) (shfI f) f)))] := hD
      refine lv_iinc (v := nI (k + 1)) (lv' := [(2, .int (nI (k + 1))), (1, .int (((f 0) >>> ((nI 7) &&& 31)) &&& (nI 1))), (0, .ref b)]) hx hb dX8_shift_47 hl (k := 0) rfl (nI_add k 1) (by decide) rfl (fun ls hl => ?_)
      refine lv_goto (tgt := 11) hx hb dX8_shift_50 (by decide) ?_
      exact ih (k + 1) H _ _ (by omega) (by omega) hP hD hS (lv_sub hl [0, 1, 2] rfl)
    · refine lv_aload_n hx hb dX8_shift_30 rfl (lv_at hl 2 rfl) ?_
      refine lv_iload_n hx hb dX8_shift_31 rfl (lv_at hl 0 rfl) ?_
      refine lv_iconst (v := nI 1) hx hb dX8_shift_32 (by decide) ?_
      refine w_iaddN hx hb dX8_shift_33 ?_
      refine w_bald hx hb hK hP 0 rfl (by omega) (by omega) dX8_shift_34 ?_
      refine lv_bipush (v := nI 7) hx hb dX8_shift_35 (by decide) ?_
      refine lv_ishr hx hb dX8_shift_37 ?_
      refine lv_iconst (v := nI 1) hx hb dX8_shift_38 (by decide) ?_
      refine lv_iand hx hb dX8_shift_39 ?_
      refine lv_goto (tgt := 44) hx hb dX8_shift_40 (by decide) ?_
      refine lv_ior hx hb dX8_shift_44 ?_
      refine lv_i2b (v := bN ((((fl k (shfI f) f) k) <<< ((nI 1) &&& 31)) ||| ((((fl k (shfI f) f) (k + 1)) >>> ((nI 7) &&& 31)) &&& (nI 1)))) hx hb dX8_shift_45 rfl ?_
      refine w_bast hx hb hK hP hD hS 0 rfl (by omega) (by omega) (fl (k + 1) (shfI f) f) (by rw [bN_bN]; exact fl_s (by simp only [shfI]; rw [fl_out (Nat.le_refl _)]; first | rw [if_pos (by assumption), fl_out (by omega)] | rw [if_neg (by omega)])) dX8_shift_46 (fun H locs hP hD hS => ?_)
      have hP : va_P G.1 vwCl [(b, .inl (G.2.2.1, 16, .inl (fl (k + 1) (shfI f) f)))] H := hP
      have hD : va_D A [(b, .inl (G.2.2.1, 16, .inl (fl (k + 1) (shfI f) f)))] := hD
      refine lv_iinc (v := nI (k + 1)) (lv' := [(2, .int (nI (k + 1))), (1, .int (((f 0) >>> ((nI 7) &&& 31)) &&& (nI 1))), (0, .ref b)]) hx hb dX8_shift_47 hl (k := 0) rfl (nI_add k 1) (by decide) rfl (fun ls hl => ?_)
      refine lv_goto (tgt := 11) hx hb dX8_shift_50 (by decide) ?_
      exact ih (k + 1) H _ _ (by omega) (by omega) hP hD hS (lv_sub hl [0, 1, 2] rfl)
