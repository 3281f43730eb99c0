/-! the law: class and model bonded, and each call keeps the bond -/
abbrev lwKY (x : LwS) : Prop := x.ty = (-1) ∨ (x.ty = nI 0 ∧ KD x.f1 x.my 0 ∧ KD x.f2 x.my (0 + 8)) ∨ (x.ty = nI 1 ∧ ∃ nw, (nw = 4 ∨ nw = 6 ∨ nw = 8) ∧ x.kz = 4 * nw ∧ x.rd = nw + 6 ∧ ∀ v : Nat → Int32, RK (nw + 6) x.fr (mkA (fun j_ => nI (tbV 0 j_)) (fl (4 * nw) (fun j_ => bN (x.my j_)) v) nw (3 * nw + 28)))
abbrev lwB (x : LwS) : Prop := x.T ≤ 400 ∧ x.O ≤ 400 ∧ x.wz ≤ 448 ∧ x.kz ≤ 32 ∧ RB x.T x.ft x.mt ∧ RB x.O x.fo x.mo ∧ RB x.kz x.fk x.my ∧ RB 16 x.fg x.mg ∧ lwKY x
theorem RB_0 (f x : Nat → Int32) : RB 0 f x := fun j hj => absurd hj (Nat.not_lt_zero _)
theorem RB.B {n : Nat} {f x : Nat → Int32} (h : RB n f x) : ∀ j, j < n → f j &&& nI 255 = f j := fun j hj => (h j hj).1
theorem nn_ex {v : Int32} (h : ¬ v < 0) : ∃ q, q < 2 ^ 31 ∧ v = nI q := by
  have h1 : 0 ≤ v.toInt := by
    rcases Int.lt_or_le v.toInt 0 with q | q
    · exact absurd (Int32.lt_iff_toInt_lt.mpr q) h
    · exact q
  have h2 : v.toInt < 2 ^ 31 := Int32.toInt_lt v
  refine ⟨v.toInt.toNat, by omega, ?_⟩
  apply Int32.toInt_inj.mp
  rw [nI_toInt (by omega)]
  omega
theorem nI_leJ {a b : Nat} (ha : a < 2 ^ 31) (hb : b < 2 ^ 31) (h : ¬ nI b < nI a) : a ≤ b := Nat.le_of_not_lt (fun q => h ((nI_ltI hb ha).mpr q))
theorem ld_feed {p : Program} {l : Launch} {e : Env} {s : State} {m : MethodId} {below : List Frame} {meth : Method} {c : Code} {G : wG} {A : Nat → Prop} {b L : Nat} {xs : Nat → Int32} {Q : State → Prop} {h : Nat} {ca : Nat → Nat} {hm : Nat} {a : Nat → Nat} {i : Nat} {H : Heap} {locs : List Loc} {ls : Array Slot} (x : LwS) (C : lw_C p s m c G A b L xs) (hi : i + 6 ≤ L) (hbd : lwB x) (hP : va_P G.1 vwCl (lwW G h ca hm a x) H) (hD : va_D A (lwW G h ca hm a x)) (hS : va_S A s.heap H locs) (hl : lv_has ls 4 [(3, .int (nI i)), (2, .ref hm), (1, .ref h), (0, .ref b)])
    (kk : ∀ (y : LwS) (H : Heap) (locs : List Loc) (ls : Array Slot), lwB y → va_P G.1 vwCl (lwW G h ca hm a y) H → va_D A (lwW G h ca hm a y) → va_S A s.heap H locs → lv_has ls 4 [(3, .int (nI i)), (2, .ref hm), (1, .ref h), (0, .ref b)] → W p l e room_1 s m #[Value.ref b] below meth c H locs 70 9000 Q (F0 m 468 ls [])) : W p l e room_1 s m #[Value.ref b] below meth c H locs 70 9000 Q (F0 m 104 ls []) := by
  obtain ⟨hT, hO, hw, hk, rT, rO, rK, rG, hky⟩ := hbd
  by_cases ht : x.T + 20 ≤ 400
  · exact lc_feed_ok x C hi ht hP hD hS hl (fun z H locs ls pP pD pS pl => kk _ H locs ls (by exact ⟨ht, hO, hw, hk, feed_R _ _ _ _ _ rT, rO, rK, rG, hky⟩) pP pD pS pl)
  · exact lc_feed_no x C hi (by omega) hT hP hD hS hl (fun z H locs ls pP pD pS pl => kk _ H locs ls (by exact ⟨hT, hO, hw, hk, rT, rO, rK, rG, hky⟩) pP pD pS pl)
theorem ld_end {p : Program} {l : Launch} {e : Env} {s : State} {m : MethodId} {below : List Frame} {meth : Method} {c : Code} {G : wG} {A : Nat → Prop} {b L : Nat} {xs : Nat → Int32} {Q : State → Prop} {h : Nat} {ca : Nat → Nat} {hm : Nat} {a : Nat → Nat} {i : Nat} {H : Heap} {locs : List Loc} {ls : Array Slot} (x : LwS) (C : lw_C p s m c G A b L xs) (hi : i + 6 ≤ L) (hbd : lwB x) (hP : va_P G.1 vwCl (lwW G h ca hm a x) H) (hD : va_D A (lwW G h ca hm a x)) (hS : va_S A s.heap H locs) (hl : lv_has ls 4 [(3, .int (nI i)), (2, .ref hm), (1, .ref h), (0, .ref b)])
    (kk : ∀ (y : LwS) (H : Heap) (locs : List Loc) (ls : Array Slot), lwB y → va_P G.1 vwCl (lwW G h ca hm a y) H → va_D A (lwW G h ca hm a y) → va_S A s.heap H locs → lv_has ls 4 [(3, .int (nI i)), (2, .ref hm), (1, .ref h), (0, .ref b)] → W p l e room_1 s m #[Value.ref b] below meth c H locs 70 9000 Q (F0 m 468 ls [])) : W p l e room_1 s m #[Value.ref b] below meth c H locs 70 9000 Q (F0 m 167 ls []) := by
  obtain ⟨hT, hO, hw, hk, rT, rO, rK, rG, hky⟩ := hbd
  by_cases hv : xs (i + 1) < 0
  · exact lc_end_neg x C hi hv hP hD hS hl (fun z H locs ls pP pD pS pl => kk _ H locs ls (by exact ⟨hT, hO, hw, hk, rT, rO, rK, rG, hky⟩) pP pD pS pl)
  · obtain ⟨q, hq, e⟩ := nn_ex hv
    by_cases ht : q ≤ x.T
    · exact lc_end_ok x q C hi e ht hT hP hD hS hl (fun z H locs ls pP pD pS pl => kk _ H locs ls (by exact ⟨Nat.le_trans ht hT, hO, hw, hk, rT.le ht, rO, rK, rG, hky⟩) pP pD pS pl)
    · exact lc_end_big x q C hi e (by omega) hq hP hD hS hl (fun z H locs ls pP pD pS pl => kk _ H locs ls (by exact ⟨hT, hO, hw, hk, rT, rO, rK, rG, hky⟩) pP pD pS pl)
theorem ld_out {p : Program} {l : Launch} {e : Env} {s : State} {m : MethodId} {below : List Frame} {meth : Method} {c : Code} {G : wG} {A : Nat → Prop} {b L : Nat} {xs : Nat → Int32} {Q : State → Prop} {h : Nat} {ca : Nat → Nat} {hm : Nat} {a : Nat → Nat} {i : Nat} {H : Heap} {locs : List Loc} {ls : Array Slot} (x : LwS) (C : lw_C p s m c G A b L xs) (hi : i + 6 ≤ L) (hbd : lwB x) (hP : va_P G.1 vwCl (lwW G h ca hm a x) H) (hD : va_D A (lwW G h ca hm a x)) (hS : va_S A s.heap H locs) (hl : lv_has ls 4 [(3, .int (nI i)), (2, .ref hm), (1, .ref h), (0, .ref b)])
    (kk : ∀ (y : LwS) (H : Heap) (locs : List Loc) (ls : Array Slot), lwB y → va_P G.1 vwCl (lwW G h ca hm a y) H → va_D A (lwW G h ca hm a y) → va_S A s.heap H locs → lv_has ls 4 [(3, .int (nI i)), (2, .ref hm), (1, .ref h), (0, .ref b)] → W p l e room_1 s m #[Value.ref b] below meth c H locs 70 9000 Q (F0 m 468 ls [])) : W p l e room_1 s m #[Value.ref b] below meth c H locs 70 9000 Q (F0 m 190 ls []) := by
  obtain ⟨hT, hO, hw, hk, rT, rO, rK, rG, hky⟩ := hbd
  by_cases hv : xs (i + 1) < 0
  · exact lc_out_neg x C hi hv hP hD hS hl (fun z H locs ls pP pD pS pl => kk _ H locs ls (by exact ⟨hT, hO, hw, hk, rT, rO, rK, rG, hky⟩) pP pD pS pl)
  · obtain ⟨q, hq, e⟩ := nn_ex hv
    by_cases ht : q < x.O
    · exact lc_out_ok x q C hi e ht hO (by rw [(rO q ht).2, bN_B (rO q ht).1]) hP hD hS hl (fun z H locs ls pP pD pS pl => kk _ H locs ls (by exact ⟨hT, hO, hw, hk, rT, rO, rK, rG, hky⟩) pP pD pS pl)
    · exact lc_out_big x q C hi e (by omega) hq hP hD hS hl (fun z H locs ls pP pD pS pl => kk _ H locs ls (by exact ⟨hT, hO, hw, hk, rT, rO, rK, rG, hky⟩) pP pD pS pl)
theorem ld_take {p : Program} {l : Launch} {e : Env} {s : State} {m : MethodId} {below : List Frame} {meth : Method} {c : Code} {G : wG} {A : Nat → Prop} {b L : Nat} {xs : Nat → Int32} {Q : State → Prop} {h : Nat} {ca : Nat → Nat} {hm : Nat} {a : Nat → Nat} {i : Nat} {H : Heap} {locs : List Loc} {ls : Array Slot} (x : LwS) (C : lw_C p s m c G A b L xs) (hi : i + 6 ≤ L) (hbd : lwB x) (hP : va_P G.1 vwCl (lwW G h ca hm a x) H) (hD : va_D A (lwW G h ca hm a x)) (hS : va_S A s.heap H locs) (hl : lv_has ls 4 [(3, .int (nI i)), (2, .ref hm), (1, .ref h), (0, .ref b)])
    (kk : ∀ (y : LwS) (H : Heap) (locs : List Loc) (ls : Array Slot), lwB y → va_P G.1 vwCl (lwW G h ca hm a y) H → va_D A (lwW G h ca hm a y) → va_S A s.heap H locs → lv_has ls 4 [(3, .int (nI i)), (2, .ref hm), (1, .ref h), (0, .ref b)] → W p l e room_1 s m #[Value.ref b] below meth c H locs 70 9000 Q (F0 m 468 ls [])) : W p l e room_1 s m #[Value.ref b] below meth c H locs 70 9000 Q (F0 m 213 ls []) := by
  obtain ⟨hT, hO, hw, hk, rT, rO, rK, rG, hky⟩ := hbd
  by_cases ht : x.T + x.O ≤ 400
  · exact lc_take_ok x C hi ht rO.B hP hD hS hl (fun z H locs ls pP pD pS pl => kk _ H locs ls (by exact ⟨ht, hO, hw, hk, rT.fa rO.bN, rO, rK, rG, hky⟩) pP pD pS pl)
  · exact lc_take_no x C hi (by omega) hT hO hP hD hS hl (fun z H locs ls pP pD pS pl => kk _ H locs ls (by exact ⟨hT, hO, hw, hk, rT, rO, rK, rG, hky⟩) pP pD pS pl)
theorem ld_key {p : Program} {l : Launch} {e : Env} {s : State} {m : MethodId} {below : List Frame} {meth : Method} {c : Code} {G : wG} {A : Nat → Prop} {b L : Nat} {xs : Nat → Int32} {Q : State → Prop} {h : Nat} {ca : Nat → Nat} {hm : Nat} {a : Nat → Nat} {i : Nat} {H : Heap} {locs : List Loc} {ls : Array Slot} (x : LwS) (C : lw_C p s m c G A b L xs) (hi : i + 6 ≤ L) (hbd : lwB x) (hP : va_P G.1 vwCl (lwW G h ca hm a x) H) (hD : va_D A (lwW G h ca hm a x)) (hS : va_S A s.heap H locs) (hl : lv_has ls 4 [(3, .int (nI i)), (2, .ref hm), (1, .ref h), (0, .ref b)])
    (kk : ∀ (y : LwS) (H : Heap) (locs : List Loc) (ls : Array Slot), lwB y → va_P G.1 vwCl (lwW G h ca hm a y) H → va_D A (lwW G h ca hm a y) → va_S A s.heap H locs → lv_has ls 4 [(3, .int (nI i)), (2, .ref hm), (1, .ref h), (0, .ref b)] → W p l e room_1 s m #[Value.ref b] below meth c H locs 70 9000 Q (F0 m 468 ls [])) : W p l e room_1 s m #[Value.ref b] below meth c H locs 70 9000 Q (F0 m 226 ls []) := by
  obtain ⟨hT, hO, hw, hk, rT, rO, rK, rG, hky⟩ := hbd
  by_cases c0 : xs (i + 1) = 0 ∧ x.T = 16
  · have r16 : RB 16 x.ft x.mt := rT.le (Nat.le_of_eq c0.2.symm)
    have rk : RB 16 (fa 0 16 x.ft x.fk) (fl 16 (fun j_ => bN (x.mt j_)) x.my) := r16.bN.fl0
    exact lc_key0 x C hi c0.1 c0.2 r16.B hk hP hD hS hl (fun z H locs ls pP pD pS pl => kk _ H locs ls (by exact ⟨Nat.zero_le _, hO, hw, (by show (16 : Nat) ≤ 32; decide), RB_0 _ _, rO, rk, rG, Or.inr (Or.inl ⟨rfl, KD_key rk (by decide), KD_key rk (by decide)⟩)⟩) pP pD pS pl)
  · by_cases c1 : xs (i + 1) = nI 1 ∧ (x.T = 16 ∨ x.T = 24 ∨ x.T = 32)
    · obtain ⟨nw, hn, e⟩ : ∃ nw, (nw = 4 ∨ nw = 6 ∨ nw = 8) ∧ x.T = 4 * nw := ⟨x.T / 4, by omega, by omega⟩
      have r16 : RB (4 * nw) x.ft x.mt := rT.le (Nat.le_of_eq e.symm)
      have rk : RB (4 * nw) (fa 0 (4 * nw) x.ft x.fk) (fl (4 * nw) (fun j_ => bN (x.mt j_)) x.my) := r16.bN.fl0
      exact lc_key1 x nw C hi c1.1 e hn r16.B hk hP hD hS hl (fun z H locs ls pP pD pS pl => kk _ H locs ls (by exact ⟨Nat.zero_le _, hO, hw, (by show 4 * nw ≤ 32; omega), RB_0 _ _, rO, rk, rG, Or.inr (Or.inr ⟨rfl, nw, hn, rfl, rfl, fun v => key_R hn rk⟩)⟩) pP pD pS pl)
    · exact lc_key_no x C hi ⟨c0, c1⟩ hT hP hD hS hl (fun z H locs ls pP pD pS pl => kk _ H locs ls (by exact ⟨Nat.zero_le _, hO, hw, hk, RB_0 _ _, rO, rK, rG, hky⟩) pP pD pS pl)
theorem ld_begin {p : Program} {l : Launch} {e : Env} {s : State} {m : MethodId} {below : List Frame} {meth : Method} {c : Code} {G : wG} {A : Nat → Prop} {b L : Nat} {xs : Nat → Int32} {Q : State → Prop} {h : Nat} {ca : Nat → Nat} {hm : Nat} {a : Nat → Nat} {i : Nat} {H : Heap} {locs : List Loc} {ls : Array Slot} (x : LwS) (C : lw_C p s m c G A b L xs) (hi : i + 6 ≤ L) (hbd : lwB x) (hP : va_P G.1 vwCl (lwW G h ca hm a x) H) (hD : va_D A (lwW G h ca hm a x)) (hS : va_S A s.heap H locs) (hl : lv_has ls 4 [(3, .int (nI i)), (2, .ref hm), (1, .ref h), (0, .ref b)])
    (kk : ∀ (y : LwS) (H : Heap) (locs : List Loc) (ls : Array Slot), lwB y → va_P G.1 vwCl (lwW G h ca hm a y) H → va_D A (lwW G h ca hm a y) → va_S A s.heap H locs → lv_has ls 4 [(3, .int (nI i)), (2, .ref hm), (1, .ref h), (0, .ref b)] → W p l e room_1 s m #[Value.ref b] below meth c H locs 70 9000 Q (F0 m 468 ls [])) : W p l e room_1 s m #[Value.ref b] below meth c H locs 70 9000 Q (F0 m 249 ls []) := by
  obtain ⟨hT, hO, hw, hk, rT, rO, rK, rG, hky⟩ := hbd
  by_cases ht : x.T = 16
  · have r16 : RB 16 x.ft x.mt := rT.le (Nat.le_of_eq ht.symm)
    exact lc_begin_ok x C hi ht r16.B hP hD hS hl (fun z H locs ls pP pD pS pl => kk _ H locs ls (by exact ⟨Nat.zero_le _, hO, hw, hk, RB_0 _ _, rO, rK, r16.bN.c (fun j hj => fa0_at hj) (fun _ _ => rfl), hky⟩) pP pD pS pl)
  · exact lc_begin_no x C hi ht hT hP hD hS hl (fun z H locs ls pP pD pS pl => kk _ H locs ls (by exact ⟨Nat.zero_le _, hO, hw, hk, RB_0 _ _, rO, rK, rG, hky⟩) pP pD pS pl)
theorem ld_pad {p : Program} {l : Launch} {e : Env} {s : State} {m : MethodId} {below : List Frame} {meth : Method} {c : Code} {G : wG} {A : Nat → Prop} {b L : Nat} {xs : Nat → Int32} {Q : State → Prop} {h : Nat} {ca : Nat → Nat} {hm : Nat} {a : Nat → Nat} {i : Nat} {H : Heap} {locs : List Loc} {ls : Array Slot} (x : LwS) (C : lw_C p s m c G A b L xs) (hi : i + 6 ≤ L) (hbd : lwB x) (hP : va_P G.1 vwCl (lwW G h ca hm a x) H) (hD : va_D A (lwW G h ca hm a x)) (hS : va_S A s.heap H locs) (hl : lv_has ls 4 [(3, .int (nI i)), (2, .ref hm), (1, .ref h), (0, .ref b)])
    (kk : ∀ (y : LwS) (H : Heap) (locs : List Loc) (ls : Array Slot), lwB y → va_P G.1 vwCl (lwW G h ca hm a y) H → va_D A (lwW G h ca hm a y) → va_S A s.heap H locs → lv_has ls 4 [(3, .int (nI i)), (2, .ref hm), (1, .ref h), (0, .ref b)] → W p l e room_1 s m #[Value.ref b] below meth c H locs 70 9000 Q (F0 m 468 ls [])) : W p l e room_1 s m #[Value.ref b] below meth c H locs 70 9000 Q (F0 m 327 ls []) := by
  obtain ⟨hT, hO, hw, hk, rT, rO, rK, rG, hky⟩ := hbd
  by_cases h8 : xs (i + 1) = nI 8 ∨ xs (i + 1) = nI 16
  · obtain ⟨B, hB, e⟩ : ∃ B, (B = 8 ∨ B = 16) ∧ xs (i + 1) = nI B := by
      rcases h8 with q | q
      · exact ⟨8, Or.inl rfl, q⟩
      · exact ⟨16, Or.inr rfl, q⟩
    have hp := pd_mod (q := x.T + 1) hB
    have hp16 : pdN B (x.T + 1) < 16 := by rcases hB with q | q <;> omega
    by_cases ht : (x.T + 1) + pdN B (x.T + 1) ≤ 400
    · have q := padO_R (fw := x.sc.fw) (fo := x.fo) (mo := x.mo) hB rT
      rw [← pad_len hB] at q
      exact lc_pad_ok x B C hi e hB ht hT hO hw rT.B hP hD hS hl (fun z H locs ls pP pD pS pl => kk _ H locs ls (by exact ⟨Nat.zero_le _, ht, (by show (x.T + 1) + pdN B (x.T + 1) ≤ 448; omega), hk, RB_0 _ _, q, rK, rG, hky⟩) pP pD pS pl)
    · exact lc_pad_big x B C hi e hB (by omega) hT hO hw rT.B hP hD hS hl (fun z H locs ls pP pD pS pl => kk _ H locs ls (by exact ⟨Nat.zero_le _, hO, (by show (x.T + 1) + pdN B (x.T + 1) ≤ 448; omega), hk, RB_0 _ _, rO, rK, rG, hky⟩) pP pD pS pl)
  · exact lc_pad_no x C hi ⟨fun q => h8 (Or.inl q), fun q => h8 (Or.inr q)⟩ hT hP hD hS hl (fun z H locs ls pP pD pS pl => kk _ H locs ls (by exact ⟨Nat.zero_le _, hO, hw, hk, RB_0 _ _, rO, rK, rG, hky⟩) pP pD pS pl)
theorem ld_unpad {p : Program} {l : Launch} {e : Env} {s : State} {m : MethodId} {below : List Frame} {meth : Method} {c : Code} {G : wG} {A : Nat → Prop} {b L : Nat} {xs : Nat → Int32} {Q : State → Prop} {h : Nat} {ca : Nat → Nat} {hm : Nat} {a : Nat → Nat} {i : Nat} {H : Heap} {locs : List Loc} {ls : Array Slot} (x : LwS) (C : lw_C p s m c G A b L xs) (hi : i + 6 ≤ L) (hbd : lwB x) (hP : va_P G.1 vwCl (lwW G h ca hm a x) H) (hD : va_D A (lwW G h ca hm a x)) (hS : va_S A s.heap H locs) (hl : lv_has ls 4 [(3, .int (nI i)), (2, .ref hm), (1, .ref h), (0, .ref b)])
    (kk : ∀ (y : LwS) (H : Heap) (locs : List Loc) (ls : Array Slot), lwB y → va_P G.1 vwCl (lwW G h ca hm a y) H → va_D A (lwW G h ca hm a y) → va_S A s.heap H locs → lv_has ls 4 [(3, .int (nI i)), (2, .ref hm), (1, .ref h), (0, .ref b)] → W p l e room_1 s m #[Value.ref b] below meth c H locs 70 9000 Q (F0 m 468 ls [])) : W p l e room_1 s m #[Value.ref b] below meth c H locs 70 9000 Q (F0 m 350 ls []) := by
  obtain ⟨hT, hO, hw, hk, rT, rO, rK, rG, hky⟩ := hbd
  have hle := lnz_le x.ft x.T
  have hln := lnz_R x.T rT
  by_cases hq : ∃ q, lnz x.ft x.T = q + 1 ∧ x.ft q = nI 128
  · obtain ⟨q, h1, h2⟩ := hq
    have hqT : q < x.T := by omega
    exact lc_unpad_ok x q C hi h1 h2 hqT hT hO rT.B (by rw [hln]; exact h1) (by rw [(rT q hqT).2]; exact (bN_128 (rT q hqT).1).mpr h2) hP hD hS hl (fun z H locs ls pP pD pS pl => kk _ H locs ls (by exact ⟨Nat.zero_le _, (by show q ≤ 400; omega), hw, hk, RB_0 _ _, (rT.le (Nat.le_of_lt hqT)).bN.fl0, rK, rG, hky⟩) pP pD pS pl)
  · refine lc_unpad_no x C hi (fun q h1 => ⟨by omega, fun h2 => hq ⟨q, h1, h2⟩⟩) hT (fun q h1 h2 => ?_) hP hD hS hl (fun z H locs ls pP pD pS pl => kk _ H locs ls (by exact ⟨Nat.zero_le _, hO, hw, hk, RB_0 _ _, rO, rK, rG, hky⟩) pP pD pS pl)
    rw [hln] at h1
    have hqT : q < x.T := by omega
    rw [(rT q hqT).2] at h2
    exact hq ⟨q, h1, (bN_128 (rT q hqT).1).mp h2⟩
theorem ld_hash {p : Program} {l : Launch} {e : Env} {s : State} {m : MethodId} {below : List Frame} {meth : Method} {c : Code} {G : wG} {A : Nat → Prop} {b L : Nat} {xs : Nat → Int32} {Q : State → Prop} {h : Nat} {ca : Nat → Nat} {hm : Nat} {a : Nat → Nat} {i : Nat} {H : Heap} {locs : List Loc} {ls : Array Slot} (x : LwS) (C : lw_C p s m c G A b L xs) (hi : i + 6 ≤ L) (hbd : lwB x) (hP : va_P G.1 vwCl (lwW G h ca hm a x) H) (hD : va_D A (lwW G h ca hm a x)) (hS : va_S A s.heap H locs) (hl : lv_has ls 4 [(3, .int (nI i)), (2, .ref hm), (1, .ref h), (0, .ref b)])
    (kk : ∀ (y : LwS) (H : Heap) (locs : List Loc) (ls : Array Slot), lwB y → va_P G.1 vwCl (lwW G h ca hm a y) H → va_D A (lwW G h ca hm a y) → va_S A s.heap H locs → lv_has ls 4 [(3, .int (nI i)), (2, .ref hm), (1, .ref h), (0, .ref b)] → W p l e room_1 s m #[Value.ref b] below meth c H locs 70 9000 Q (F0 m 468 ls [])) : W p l e room_1 s m #[Value.ref b] below meth c H locs 70 9000 Q (F0 m 419 ls []) := by
  obtain ⟨hT, hO, hw, hk, rT, rO, rK, rG, hky⟩ := hbd
  have hp := p56_m x.T hT
  exact lc_hash x C hi hT hO hw rT.B hP hD hS hl (fun z H locs ls pP pD pS pl => kk _ H locs ls (by exact ⟨Nat.zero_le _, (by show (32 : Nat) ≤ 400; decide), (by show shL x.T ≤ 448; omega), hk, RB_0 _ _, (hash_R hT rT).fl0, rK, rG, hky⟩) pP pD pS pl)
theorem ld_same {p : Program} {l : Launch} {e : Env} {s : State} {m : MethodId} {below : List Frame} {meth : Method} {c : Code} {G : wG} {A : Nat → Prop} {b L : Nat} {xs : Nat → Int32} {Q : State → Prop} {h : Nat} {ca : Nat → Nat} {hm : Nat} {a : Nat → Nat} {i : Nat} {H : Heap} {locs : List Loc} {ls : Array Slot} (x : LwS) (C : lw_C p s m c G A b L xs) (hi : i + 6 ≤ L) (hbd : lwB x) (hP : va_P G.1 vwCl (lwW G h ca hm a x) H) (hD : va_D A (lwW G h ca hm a x)) (hS : va_S A s.heap H locs) (hl : lv_has ls 4 [(3, .int (nI i)), (2, .ref hm), (1, .ref h), (0, .ref b)])
    (kk : ∀ (y : LwS) (H : Heap) (locs : List Loc) (ls : Array Slot), lwB y → va_P G.1 vwCl (lwW G h ca hm a y) H → va_D A (lwW G h ca hm a y) → va_S A s.heap H locs → lv_has ls 4 [(3, .int (nI i)), (2, .ref hm), (1, .ref h), (0, .ref b)] → W p l e room_1 s m #[Value.ref b] below meth c H locs 70 9000 Q (F0 m 468 ls [])) : W p l e room_1 s m #[Value.ref b] below meth c H locs 70 9000 Q (F0 m 432 ls []) := by
  obtain ⟨hT, hO, hw, hk, rT, rO, rK, rG, hky⟩ := hbd
  by_cases he : x.T = x.O
  · have rO2 : RB x.T x.fo x.mo := rO.le (Nat.le_of_eq he)
    have hs := same_R rT rO2
    by_cases hf : ∀ j, j < x.T → x.ft j = x.fo j
    · exact lc_same_y x C hi hT hO ⟨he, hf⟩ (hs.mp hf) hP hD hS hl (fun z H locs ls pP pD pS pl => kk _ H locs ls (by exact ⟨Nat.zero_le _, hO, hw, hk, RB_0 _ _, rO, rK, rG, hky⟩) pP pD pS pl)
    · exact lc_same_n2 x C hi hT hO (fun q => hf q.2) he (fun q => hf (hs.mpr q)) hP hD hS hl (fun z H locs ls pP pD pS pl => kk _ H locs ls (by exact ⟨Nat.zero_le _, hO, hw, hk, RB_0 _ _, rO, rK, rG, hky⟩) pP pD pS pl)
  · exact lc_same_n1 x C hi hT hO (fun q => he q.1) he hP hD hS hl (fun z H locs ls pP pD pS pl => kk _ H locs ls (by exact ⟨Nat.zero_le _, hO, hw, hk, RB_0 _ _, rO, rK, rG, hky⟩) pP pD pS pl)
theorem ld_about {p : Program} {l : Launch} {e : Env} {s : State} {m : MethodId} {below : List Frame} {meth : Method} {c : Code} {G : wG} {A : Nat → Prop} {b L : Nat} {xs : Nat → Int32} {Q : State → Prop} {h : Nat} {ca : Nat → Nat} {hm : Nat} {a : Nat → Nat} {i : Nat} {H : Heap} {locs : List Loc} {ls : Array Slot} (x : LwS) (C : lw_C p s m c G A b L xs) (hi : i + 6 ≤ L) (hbd : lwB x) (hP : va_P G.1 vwCl (lwW G h ca hm a x) H) (hD : va_D A (lwW G h ca hm a x)) (hS : va_S A s.heap H locs) (hl : lv_has ls 4 [(3, .int (nI i)), (2, .ref hm), (1, .ref h), (0, .ref b)])
    (kk : ∀ (y : LwS) (H : Heap) (locs : List Loc) (ls : Array Slot), lwB y → va_P G.1 vwCl (lwW G h ca hm a y) H → va_D A (lwW G h ca hm a y) → va_S A s.heap H locs → lv_has ls 4 [(3, .int (nI i)), (2, .ref hm), (1, .ref h), (0, .ref b)] → W p l e room_1 s m #[Value.ref b] below meth c H locs 70 9000 Q (F0 m 468 ls [])) : W p l e room_1 s m #[Value.ref b] below meth c H locs 70 9000 Q (F0 m 445 ls []) := by
  obtain ⟨hT, hO, hw, hk, rT, rO, rK, rG, hky⟩ := hbd
  by_cases h0 : xs (i + 1) = nI 0
  · exact lc_about0 x C hi h0 hT hO hk hP hD hS hl (fun z H locs ls pP pD pS pl => kk _ H locs ls (by exact ⟨hT, hO, hw, hk, rT, rO, rK, rG, hky⟩) pP pD pS pl)
  by_cases h1 : xs (i + 1) = nI 1
  · exact lc_about1 x C hi h1 hT hO hk hP hD hS hl (fun z H locs ls pP pD pS pl => kk _ H locs ls (by exact ⟨hT, hO, hw, hk, rT, rO, rK, rG, hky⟩) pP pD pS pl)
  by_cases h2 : xs (i + 1) = nI 2
  · exact lc_about2 x C hi h2 hT hO hk hP hD hS hl (fun z H locs ls pP pD pS pl => kk _ H locs ls (by exact ⟨hT, hO, hw, hk, rT, rO, rK, rG, hky⟩) pP pD pS pl)
  by_cases h3 : xs (i + 1) = nI 3
  · exact lc_about3 x C hi h3 hT hO hk hP hD hS hl (fun z H locs ls pP pD pS pl => kk _ H locs ls (by exact ⟨hT, hO, hw, hk, rT, rO, rK, rG, hky⟩) pP pD pS pl)
  by_cases h4 : xs (i + 1) = nI 4
  · exact lc_about4 x C hi h4 hk (odd_R rK x.kz (Nat.le_refl _)).symm hP hD hS hl (fun z H locs ls pP pD pS pl => kk _ H locs ls (by exact ⟨hT, hO, hw, hk, rT, rO, rK, rG, hky⟩) pP pD pS pl)
  refine lc_about_no x C hi ?_ hP hD hS hl (fun z H locs ls pP pD pS pl => kk _ H locs ls (by exact ⟨hT, hO, hw, hk, rT, rO, rK, rG, hky⟩) pP pD pS pl)
  by_cases hv : xs (i + 1) < 0
  · exact Or.inl (Int32.lt_iff_toInt_lt.mp hv)
  · obtain ⟨q, hq, e⟩ := nn_ex hv
    right
    rw [e, nI_toInt hq]
    rw [e] at h0 h1 h2 h3 h4
    have g : ∀ k, ¬ nI q = nI k → q ≠ k := fun k hh e2 => hh (by rw [e2])
    have := g 0 h0
    have := g 1 h1
    have := g 2 h2
    have := g 3 h3
    have := g 4 h4
    omega
theorem ld_code {p : Program} {l : Launch} {e : Env} {s : State} {m : MethodId} {below : List Frame} {meth : Method} {c : Code} {G : wG} {A : Nat → Prop} {b L : Nat} {xs : Nat → Int32} {Q : State → Prop} {h : Nat} {ca : Nat → Nat} {hm : Nat} {a : Nat → Nat} {i : Nat} {H : Heap} {locs : List Loc} {ls : Array Slot} (x : LwS) (C : lw_C p s m c G A b L xs) (hi : i + 6 ≤ L) (hbd : lwB x) (hP : va_P G.1 vwCl (lwW G h ca hm a x) H) (hD : va_D A (lwW G h ca hm a x)) (hS : va_S A s.heap H locs) (hl : lv_has ls 4 [(3, .int (nI i)), (2, .ref hm), (1, .ref h), (0, .ref b)])
    (kk : ∀ (y : LwS) (H : Heap) (locs : List Loc) (ls : Array Slot), lwB y → va_P G.1 vwCl (lwW G h ca hm a y) H → va_D A (lwW G h ca hm a y) → va_S A s.heap H locs → lv_has ls 4 [(3, .int (nI i)), (2, .ref hm), (1, .ref h), (0, .ref b)] → W p l e room_1 s m #[Value.ref b] below meth c H locs 70 9000 Q (F0 m 468 ls [])) : W p l e room_1 s m #[Value.ref b] below meth c H locs 70 9000 Q (F0 m 262 ls []) := by
  obtain ⟨hT, hO, hw, hk, rT, rO, rK, rG, hky⟩ := hbd
  by_cases hb1 : xs (i + 1) = 0
  · by_cases hb2 : xs (i + 2) = 0
    · rcases hky with hty | ⟨hty, k1, k2⟩ | ⟨hty, nw, hn, hkz, hrd, hRK⟩
      · exact lc_codeN00 x C hi hb1 hb2 hty hT hP hD hS hl (fun z H locs ls pP pD pS pl => kk _ H locs ls (by exact ⟨Nat.zero_le _, hO, hw, hk, RB_0 _ _, rO, rK, rG, Or.inl rfl⟩) pP pD pS pl)
      · by_cases hw9 : 0 < x.T ∧ x.T % 8 = 0
        · have hBN : 8 * (x.T / 8) = x.T := by omega
          have hcp : CP 8 (d3T x.f1 x.f2 mbI) (d3X x.my 0) := fun y x' hh => d3_R k1 k2 hh
          have q := code_e (B := 8) (by decide) hBN hcp rT (fo := x.fo) (mo := fl x.T (fun j_ => bN (x.mt j_)) x.mo)
          rw [hBN] at q
          exact lc_codeD00 x C hi hb1 hb2 hty hT hO hw9 hP hD hS hl (fun z H locs ls pP pD pS pl => kk _ H locs ls (by exact ⟨Nat.zero_le _, hT, hw, hk, RB_0 _ _, q, rK, rG, Or.inr (Or.inl ⟨rfl, k1, k2⟩)⟩) pP pD pS pl)
        · exact lc_code0n00 x C hi hb1 hb2 hty hT hw9 hP hD hS hl (fun z H locs ls pP pD pS pl => kk _ H locs ls (by exact ⟨Nat.zero_le _, hO, hw, hk, RB_0 _ _, rO, rK, rG, Or.inr (Or.inl ⟨rfl, k1, k2⟩)⟩) pP pD pS pl)
      · by_cases hw9 : 0 < x.T ∧ x.T % 16 = 0
        · have hBN : 16 * (x.T / 16) = x.T := by omega
          have hcp : CP 16 (aeT x.fr x.rd) (mT (mkA (fun j_ => nI (tbV 0 j_)) (fl (4 * nw) (fun j_ => bN (x.my j_)) x.sc.n16) nw (3 * nw + 28)) (fun j_ => nI (tbV 0 j_)) (nw + 6)) := fun y x' hh => by rw [hrd]; exact ae_R (hRK _) (by omega) hh
          have q := code_e (B := 16) (by decide) hBN hcp rT (fo := x.fo) (mo := fl x.T (fun j_ => bN (x.mt j_)) x.mo)
          rw [hBN] at q
          exact lc_codeA00 x nw C hi hb1 hb2 hty hkz hn (by omega) hT hO hw9 hP hD hS hl (fun z H locs ls pP pD pS pl => kk _ H locs ls (by exact ⟨Nat.zero_le _, hT, hw, (by show 4 * nw ≤ 32; omega), RB_0 _ _, q, (by show RB (4 * nw) x.fk x.my; rw [← hkz]; exact rK), rG, Or.inr (Or.inr ⟨rfl, nw, hn, rfl, hrd, hRK⟩)⟩) pP pD pS pl)
        · exact lc_code1n00 x C hi hb1 hb2 hty hT hw9 hP hD hS hl (fun z H locs ls pP pD pS pl => kk _ H locs ls (by exact ⟨Nat.zero_le _, hO, hw, hk, RB_0 _ _, rO, rK, rG, Or.inr (Or.inr ⟨rfl, nw, hn, hkz, hrd, hRK⟩)⟩) pP pD pS pl)
    · rcases hky with hty | ⟨hty, k1, k2⟩ | ⟨hty, nw, hn, hkz, hrd, hRK⟩
      · exact lc_codeN01 x C hi hb1 hb2 hty hT hP hD hS hl (fun z H locs ls pP pD pS pl => kk _ H locs ls (by exact ⟨Nat.zero_le _, hO, hw, hk, RB_0 _ _, rO, rK, rG, Or.inl rfl⟩) pP pD pS pl)
      · by_cases hw9 : 0 < x.T ∧ x.T % 8 = 0
        · have hBN : 8 * (x.T / 8) = x.T := by omega
          have hcp : CP 8 (d3B x.f1 x.f2 mbI) (d3Y x.my 0) := fun y x' hh => d3b_R k1 k2 hh
          have q := code_e (B := 8) (by decide) hBN hcp rT (fo := x.fo) (mo := fl x.T (fun j_ => bN (x.mt j_)) x.mo)
          rw [hBN] at q
          exact lc_codeD01 x C hi hb1 hb2 hty hT hO hw9 hP hD hS hl (fun z H locs ls pP pD pS pl => kk _ H locs ls (by exact ⟨Nat.zero_le _, hT, hw, hk, RB_0 _ _, q, rK, rG, Or.inr (Or.inl ⟨rfl, k1, k2⟩)⟩) pP pD pS pl)
        · exact lc_code0n01 x C hi hb1 hb2 hty hT hw9 hP hD hS hl (fun z H locs ls pP pD pS pl => kk _ H locs ls (by exact ⟨Nat.zero_le _, hO, hw, hk, RB_0 _ _, rO, rK, rG, Or.inr (Or.inl ⟨rfl, k1, k2⟩)⟩) pP pD pS pl)
      · by_cases hw9 : 0 < x.T ∧ x.T % 16 = 0
        · have hBN : 16 * (x.T / 16) = x.T := by omega
          have hcp : CP 16 (aeB x.fr (orR 256) x.rd) (mBa (mkA (fun j_ => nI (tbV 0 j_)) (fl (4 * nw) (fun j_ => bN (x.my j_)) x.sc.n16) nw (3 * nw + 28)) (orR 256) (nw + 6)) := fun y x' hh => by rw [hrd]; exact ab_R (hRK _) (by omega) hh
          have q := code_e (B := 16) (by decide) hBN hcp rT (fo := x.fo) (mo := fl x.T (fun j_ => bN (x.mt j_)) x.mo)
          rw [hBN] at q
          exact lc_codeA01 x nw C hi hb1 hb2 hty hkz hn (by omega) hT hO hw9 hP hD hS hl (fun z H locs ls pP pD pS pl => kk _ H locs ls (by exact ⟨Nat.zero_le _, hT, hw, (by show 4 * nw ≤ 32; omega), RB_0 _ _, q, (by show RB (4 * nw) x.fk x.my; rw [← hkz]; exact rK), rG, Or.inr (Or.inr ⟨rfl, nw, hn, rfl, hrd, hRK⟩)⟩) pP pD pS pl)
        · exact lc_code1n01 x C hi hb1 hb2 hty hT hw9 hP hD hS hl (fun z H locs ls pP pD pS pl => kk _ H locs ls (by exact ⟨Nat.zero_le _, hO, hw, hk, RB_0 _ _, rO, rK, rG, Or.inr (Or.inr ⟨rfl, nw, hn, hkz, hrd, hRK⟩)⟩) pP pD pS pl)
  · by_cases hb2 : xs (i + 2) = 0
    · rcases hky with hty | ⟨hty, k1, k2⟩ | ⟨hty, nw, hn, hkz, hrd, hRK⟩
      · exact lc_codeN10 x C hi hb1 hb2 hty hT hP hD hS hl (fun z H locs ls pP pD pS pl => kk _ H locs ls (by exact ⟨Nat.zero_le _, hO, hw, hk, RB_0 _ _, rO, rK, rG, Or.inl rfl⟩) pP pD pS pl)
      · by_cases hw9 : 0 < x.T ∧ x.T % 8 = 0
        · have hBN : 8 * (x.T / 8) = x.T := by omega
          have hcp : CP 8 (d3T x.f1 x.f2 mbI) (d3X x.my 0) := fun y x' hh => d3_R k1 k2 hh
          have q := code_c (B := 8) (by decide) hBN hcp rT (ldI_0 (by decide) rG) (fo := x.fo) (mo := fl x.T (fun j_ => bN (x.mt j_)) x.mo)
          rw [hBN] at q
          exact lc_codeD10 x C hi hb1 hb2 hty hT hO hw9 hP hD hS hl (fun z H locs ls pP pD pS pl => kk _ H locs ls (by exact ⟨Nat.zero_le _, hT, hw, hk, RB_0 _ _, q, rK, rG, Or.inr (Or.inl ⟨rfl, k1, k2⟩)⟩) pP pD pS pl)
        · exact lc_code0n10 x C hi hb1 hb2 hty hT hw9 hP hD hS hl (fun z H locs ls pP pD pS pl => kk _ H locs ls (by exact ⟨Nat.zero_le _, hO, hw, hk, RB_0 _ _, rO, rK, rG, Or.inr (Or.inl ⟨rfl, k1, k2⟩)⟩) pP pD pS pl)
      · by_cases hw9 : 0 < x.T ∧ x.T % 16 = 0
        · have hBN : 16 * (x.T / 16) = x.T := by omega
          have hcp : CP 16 (aeT x.fr x.rd) (mT (mkA (fun j_ => nI (tbV 0 j_)) (fl (4 * nw) (fun j_ => bN (x.my j_)) x.sc.n16) nw (3 * nw + 28)) (fun j_ => nI (tbV 0 j_)) (nw + 6)) := fun y x' hh => by rw [hrd]; exact ae_R (hRK _) (by omega) hh
          have q := code_c (B := 16) (by decide) hBN hcp rT (ldI_0 (by decide) rG) (fo := x.fo) (mo := fl x.T (fun j_ => bN (x.mt j_)) x.mo)
          rw [hBN] at q
          exact lc_codeA10 x nw C hi hb1 hb2 hty hkz hn (by omega) hT hO hw9 hP hD hS hl (fun z H locs ls pP pD pS pl => kk _ H locs ls (by exact ⟨Nat.zero_le _, hT, hw, (by show 4 * nw ≤ 32; omega), RB_0 _ _, q, (by show RB (4 * nw) x.fk x.my; rw [← hkz]; exact rK), rG, Or.inr (Or.inr ⟨rfl, nw, hn, rfl, hrd, hRK⟩)⟩) pP pD pS pl)
        · exact lc_code1n10 x C hi hb1 hb2 hty hT hw9 hP hD hS hl (fun z H locs ls pP pD pS pl => kk _ H locs ls (by exact ⟨Nat.zero_le _, hO, hw, hk, RB_0 _ _, rO, rK, rG, Or.inr (Or.inr ⟨rfl, nw, hn, hkz, hrd, hRK⟩)⟩) pP pD pS pl)
    · rcases hky with hty | ⟨hty, k1, k2⟩ | ⟨hty, nw, hn, hkz, hrd, hRK⟩
      · exact lc_codeN11 x C hi hb1 hb2 hty hT hP hD hS hl (fun z H locs ls pP pD pS pl => kk _ H locs ls (by exact ⟨Nat.zero_le _, hO, hw, hk, RB_0 _ _, rO, rK, rG, Or.inl rfl⟩) pP pD pS pl)
      · by_cases hw9 : 0 < x.T ∧ x.T % 8 = 0
        · have hBN : 8 * (x.T / 8) = x.T := by omega
          have hcp : CP 8 (d3B x.f1 x.f2 mbI) (d3Y x.my 0) := fun y x' hh => d3b_R k1 k2 hh
          have q := code_b (B := 8) (by decide) (by decide) hBN hcp rT rG (fo := x.fo) (mo := fl x.T (fun j_ => bN (x.mt j_)) x.mo)
          rw [hBN] at q
          exact lc_codeD11 x C hi hb1 hb2 hty hT hO hw9 hP hD hS hl (fun z H locs ls pP pD pS pl => kk _ H locs ls (by exact ⟨Nat.zero_le _, hT, hw, hk, RB_0 _ _, q, rK, rG, Or.inr (Or.inl ⟨rfl, k1, k2⟩)⟩) pP pD pS pl)
        · exact lc_code0n11 x C hi hb1 hb2 hty hT hw9 hP hD hS hl (fun z H locs ls pP pD pS pl => kk _ H locs ls (by exact ⟨Nat.zero_le _, hO, hw, hk, RB_0 _ _, rO, rK, rG, Or.inr (Or.inl ⟨rfl, k1, k2⟩)⟩) pP pD pS pl)
      · by_cases hw9 : 0 < x.T ∧ x.T % 16 = 0
        · have hBN : 16 * (x.T / 16) = x.T := by omega
          have hcp : CP 16 (aeB x.fr (orR 256) x.rd) (mBa (mkA (fun j_ => nI (tbV 0 j_)) (fl (4 * nw) (fun j_ => bN (x.my j_)) x.sc.n16) nw (3 * nw + 28)) (orR 256) (nw + 6)) := fun y x' hh => by rw [hrd]; exact ab_R (hRK _) (by omega) hh
          have q := code_b (B := 16) (by decide) (by decide) hBN hcp rT rG (fo := x.fo) (mo := fl x.T (fun j_ => bN (x.mt j_)) x.mo)
          rw [hBN] at q
          exact lc_codeA11 x nw C hi hb1 hb2 hty hkz hn (by omega) hT hO hw9 hP hD hS hl (fun z H locs ls pP pD pS pl => kk _ H locs ls (by exact ⟨Nat.zero_le _, hT, hw, (by show 4 * nw ≤ 32; omega), RB_0 _ _, q, (by show RB (4 * nw) x.fk x.my; rw [← hkz]; exact rK), rG, Or.inr (Or.inr ⟨rfl, nw, hn, rfl, hrd, hRK⟩)⟩) pP pD pS pl)
        · exact lc_code1n11 x C hi hb1 hb2 hty hT hw9 hP hD hS hl (fun z H locs ls pP pD pS pl => kk _ H locs ls (by exact ⟨Nat.zero_le _, hO, hw, hk, RB_0 _ _, rO, rK, rG, Or.inr (Or.inr ⟨rfl, nw, hn, hkz, hrd, hRK⟩)⟩) pP pD pS pl)
theorem ld_mac {p : Program} {l : Launch} {e : Env} {s : State} {m : MethodId} {below : List Frame} {meth : Method} {c : Code} {G : wG} {A : Nat → Prop} {b L : Nat} {xs : Nat → Int32} {Q : State → Prop} {h : Nat} {ca : Nat → Nat} {hm : Nat} {a : Nat → Nat} {i : Nat} {H : Heap} {locs : List Loc} {ls : Array Slot} (x : LwS) (C : lw_C p s m c G A b L xs) (hi : i + 6 ≤ L) (hbd : lwB x) (hP : va_P G.1 vwCl (lwW G h ca hm a x) H) (hD : va_D A (lwW G h ca hm a x)) (hS : va_S A s.heap H locs) (hl : lv_has ls 4 [(3, .int (nI i)), (2, .ref hm), (1, .ref h), (0, .ref b)])
    (kk : ∀ (y : LwS) (H : Heap) (locs : List Loc) (ls : Array Slot), lwB y → va_P G.1 vwCl (lwW G h ca hm a y) H → va_D A (lwW G h ca hm a y) → va_S A s.heap H locs → lv_has ls 4 [(3, .int (nI i)), (2, .ref hm), (1, .ref h), (0, .ref b)] → W p l e room_1 s m #[Value.ref b] below meth c H locs 70 9000 Q (F0 m 468 ls [])) : W p l e room_1 s m #[Value.ref b] below meth c H locs 70 9000 Q (F0 m 363 ls []) := by
  obtain ⟨hT, hO, hw, hk, rT, rO, rK, rG, hky⟩ := hbd
  have hp := pd_mod (B := 8) (q := x.T + 1) (Or.inl rfl)
  by_cases c : (x.ty = 0 ∧ (xs (i + 1) = 0 ∨ xs (i + 1) = nI 1)) ∨ (x.ty = nI 1 ∧ xs (i + 1) = nI 2)
  · rcases hky with hty | ⟨hty, k1, k2⟩ | ⟨hty, nw, hn, hkz, hrd, hRK⟩
    · exact absurd c (by rw [hty]; rintro (q | q) <;> exact absurd q.1 (by decide))
    · have c2 : xs (i + 1) = 0 ∨ xs (i + 1) = nI 1 := by
        rcases c with q | q
        · exact q.2
        · exact absurd (hty.symm.trans q.1) (by decide)
      rcases c2 with hv | hv
      · exact lc_mac0 x C hi hv hty hT hO hw rT.B hP hD hS hl (fun z H locs ls pP pD pS pl => kk _ H locs ls (by exact ⟨Nat.zero_le _, (by show (8 : Nat) ≤ 400; decide), (by show (x.T + 1) + pdN 8 (x.T + 1) ≤ 448; omega), hk, RB_0 _ _, mac0_R k1 k2 rT, rK, rG, Or.inr (Or.inl ⟨rfl, k1, k2⟩)⟩) pP pD pS pl)
      · exact lc_mac1 x C hi hv hty hT hO hw rT.B hP hD hS hl (fun z H locs ls pP pD pS pl => kk _ H locs ls (by exact ⟨Nat.zero_le _, (by show (8 : Nat) ≤ 400; decide), (by show (x.T + 1) + pdN 8 (x.T + 1) ≤ 448; omega), hk, RB_0 _ _, mac1_R k1 k2 rT rG, rK, rG, Or.inr (Or.inl ⟨rfl, k1, k2⟩)⟩) pP pD pS pl)
    · have hv : xs (i + 1) = nI 2 := by
        rcases c with q | q
        · exact absurd (hty.symm.trans q.1) (by decide)
        · exact q.2
      have hcp : CP 16 (aeT x.fr x.rd) (mT (mkA (fun j_ => nI (tbV 0 j_)) (fl (4 * nw) (fun j_ => bN (x.my j_)) x.sc.n16) nw (3 * nw + 28)) (fun j_ => nI (tbV 0 j_)) (nw + 6)) := fun y x' hh => by rw [hrd]; exact ae_R (hRK _) (by omega) hh
      have rM : RB x.T x.ft (fa 0 x.T (fun j_ => bN (x.mt j_)) x.sc.n22) := rT.bN.c (fun _ _ => rfl) (fun j hj => fa0_at hj)
      by_cases hw9 : 0 < x.T ∧ x.T % 16 = 0
      · have q := (tgW_R hcp rM hw9).b255.bN.fl0 (f := x.fo) (g := x.mo)
        exact lc_mac2W x nw C hi hv hty hkz hn (by omega) hT hO hw9 hP hD hS hl (fun z H locs ls pP pD pS pl => kk _ H locs ls (by exact ⟨Nat.zero_le _, (by show (16 : Nat) ≤ 400; decide), hw, (by show 4 * nw ≤ 32; omega), RB_0 _ _, q, (by show RB (4 * nw) x.fk x.my; rw [← hkz]; exact rK), rG, Or.inr (Or.inr ⟨rfl, nw, hn, rfl, hrd, hRK⟩)⟩) pP pD pS pl)
      · have q := (tgN_R hcp rM).b255.bN.fl0 (f := x.fo) (g := x.mo)
        exact lc_mac2N x nw C hi hv hty hkz hn (by omega) hT hO hw9 hP hD hS hl (fun z H locs ls pP pD pS pl => kk _ H locs ls (by exact ⟨Nat.zero_le _, (by show (16 : Nat) ≤ 400; decide), hw, (by show 4 * nw ≤ 32; omega), RB_0 _ _, q, (by show RB (4 * nw) x.fk x.my; rw [← hkz]; exact rK), rG, Or.inr (Or.inr ⟨rfl, nw, hn, rfl, hrd, hRK⟩)⟩) pP pD pS pl)
  · exact lc_mac_no x C hi ⟨fun q => c (Or.inl q), fun q => c (Or.inr q)⟩ hT hP hD hS hl (fun z H locs ls pP pD pS pl => kk _ H locs ls (by exact ⟨Nat.zero_le _, hO, hw, hk, RB_0 _ _, rO, rK, rG, hky⟩) pP pD pS pl)
theorem ld_derive {p : Program} {l : Launch} {e : Env} {s : State} {m : MethodId} {below : List Frame} {meth : Method} {c : Code} {G : wG} {A : Nat → Prop} {b L : Nat} {xs : Nat → Int32} {Q : State → Prop} {h : Nat} {ca : Nat → Nat} {hm : Nat} {a : Nat → Nat} {i : Nat} {H : Heap} {locs : List Loc} {ls : Array Slot} (x : LwS) (C : lw_C p s m c G A b L xs) (hi : i + 6 ≤ L) (hbd : lwB x) (hP : va_P G.1 vwCl (lwW G h ca hm a x) H) (hD : va_D A (lwW G h ca hm a x)) (hS : va_S A s.heap H locs) (hl : lv_has ls 4 [(3, .int (nI i)), (2, .ref hm), (1, .ref h), (0, .ref b)])
    (kk : ∀ (y : LwS) (H : Heap) (locs : List Loc) (ls : Array Slot), lwB y → va_P G.1 vwCl (lwW G h ca hm a y) H → va_D A (lwW G h ca hm a y) → va_S A s.heap H locs → lv_has ls 4 [(3, .int (nI i)), (2, .ref hm), (1, .ref h), (0, .ref b)] → W p l e room_1 s m #[Value.ref b] below meth c H locs 70 9000 Q (F0 m 468 ls [])) : W p l e room_1 s m #[Value.ref b] below meth c H locs 70 9000 Q (F0 m 386 ls []) := by
  obtain ⟨hT, hO, hw, hk, rT, rO, rK, rG, hky⟩ := hbd
  by_cases c : x.ty = nI 1 ∧ ¬ xs (i + 1) < 0 ∧ ¬ nI 255 < xs (i + 1) ∧ ¬ xs (i + 2) < nI 1 ∧ ¬ nI 64 < xs (i + 2) ∧ x.T ≤ 100
  · obtain ⟨hty9, c1, c2, c3, c4, c5⟩ := c
    obtain ⟨cv, hcv, e1⟩ := nn_ex c1
    have h0 : ¬ xs (i + 2) < 0 := fun q => c3 (Int32.lt_trans q (by decide))
    obtain ⟨n, hn9, e2⟩ := nn_ex h0
    rw [e1] at c2
    rw [e2] at c3 c4
    have d1 : cv ≤ 255 := nI_leJ hcv (by decide) c2
    have d2 : 1 ≤ n := nI_leJ (by decide) hn9 c3
    have d3 : n ≤ 64 := nI_leJ hn9 (by decide) c4
    rcases hky with hty | ⟨hty, k1, k2⟩ | ⟨hty, nw, hn, hkz, hrd, hRK⟩
    · exact absurd (hty.symm.trans hty9) (by decide)
    · exact absurd (hty.symm.trans hty9) (by decide)
    · have hcp : CP 16 (aeT x.fr x.rd) (mT (mkA (fun j_ => nI (tbV 0 j_)) (fl (4 * nw) (fun j_ => bN (x.my j_)) x.sc.n16) nw (3 * nw + 28)) (fun j_ => nI (tbV 0 j_)) (nw + 6)) := fun y x' hh => by rw [hrd]; exact ae_R (hRK _) (by omega) hh
      by_cases hw9 : x.T % 16 = 0
      · have q := kd_R (tg := cTgW (aeT x.fr x.rd)) (tg' := mTgW (mT (mkA (fun j_ => nI (tbV 0 j_)) (fl (4 * nw) (fun j_ => bN (x.my j_)) x.sc.n16) nw (3 * nw + 28)) (fun j_ => nI (tbV 0 j_)) (nw + 6))) (c := cv) (n := n) (fo := x.fo) (mo := x.mo) (fun g M hh => tgW_R hcp hh (by omega)) d1 d3 rT x.sc.n26
        exact lc_deriveW x nw cv n C hi e1 e2 hty hkz hn (by omega) c5 hO hw rT.B d1 ⟨d2, d3⟩ hw9 hP hD hS hl (fun z H locs ls pP pD pS pl => kk _ H locs ls (by exact ⟨Nat.zero_le _, (by show n ≤ 400; omega), (by show 16 + x.T ≤ 448; omega), (by show 4 * nw ≤ 32; omega), RB_0 _ _, q, (by show RB (4 * nw) x.fk x.my; rw [← hkz]; exact rK), rG, Or.inr (Or.inr ⟨rfl, nw, hn, rfl, hrd, hRK⟩)⟩) pP pD pS pl)
      · have q := kd_R (tg := cTgN (aeT x.fr x.rd)) (tg' := mTgN (mT (mkA (fun j_ => nI (tbV 0 j_)) (fl (4 * nw) (fun j_ => bN (x.my j_)) x.sc.n16) nw (3 * nw + 28)) (fun j_ => nI (tbV 0 j_)) (nw + 6))) (c := cv) (n := n) (fo := x.fo) (mo := x.mo) (fun g M hh => tgN_R hcp hh) d1 d3 rT x.sc.n26
        exact lc_deriveN x nw cv n C hi e1 e2 hty hkz hn (by omega) c5 hO hw rT.B d1 ⟨d2, d3⟩ hw9 hP hD hS hl (fun z H locs ls pP pD pS pl => kk _ H locs ls (by exact ⟨Nat.zero_le _, (by show n ≤ 400; omega), (by show 16 + x.T ≤ 448; omega), (by show 4 * nw ≤ 32; omega), RB_0 _ _, q, (by show RB (4 * nw) x.fk x.my; rw [← hkz]; exact rK), rG, Or.inr (Or.inr ⟨rfl, nw, hn, rfl, hrd, hRK⟩)⟩) pP pD pS pl)
  · exact lc_derive_no x C hi c hT hP hD hS hl (fun z H locs ls pP pD pS pl => kk _ H locs ls (by exact ⟨Nat.zero_le _, hO, hw, hk, RB_0 _ _, rO, rK, rG, hky⟩) pP pD pS pl)