/-! the law: its world, and a theorem for each case of each call -/
abbrev LwC : Type := (Nat → Int32) × (Nat → Int32) × (Nat → Int32) × (Nat → Int32) × (Nat → Int32) × (Nat → Int32) × (Nat → Int32) × Nat × Nat × (Nat → Int32) × (Nat → Int32) × (Nat → Int32) × (Nat → Int32) × (Nat → Int32) × (Nat → Int32) × (Nat → Int32) × (Nat → Int32) × (Nat → Int32) × (Nat → Int32) × (Nat → Int32) × (Nat → Int32) × (Nat → Int32) × (Nat → Int32) × (Nat → Int32)
abbrev LwC.fw (z : LwC) : (Nat → Int32) := z.1
abbrev LwC.fb (z : LwC) : (Nat → Int32) := z.2.1
abbrev LwC.ga (z : LwC) : (Nat → Int32) := z.2.2.1
abbrev LwC.fv (z : LwC) : (Nat → Int32) := z.2.2.2.1
abbrev LwC.fc (z : LwC) : (Nat → Int32) := z.2.2.2.2.1
abbrev LwC.zs (z : LwC) : (Nat → Int32) := z.2.2.2.2.2.1
abbrev LwC.zw (z : LwC) : (Nat → Int32) := z.2.2.2.2.2.2.1
abbrev LwC.xr (z : LwC) : Nat := z.2.2.2.2.2.2.2.1
abbrev LwC.xm (z : LwC) : Nat := z.2.2.2.2.2.2.2.2.1
abbrev LwC.n10 (z : LwC) : (Nat → Int32) := z.2.2.2.2.2.2.2.2.2.1
abbrev LwC.n11 (z : LwC) : (Nat → Int32) := z.2.2.2.2.2.2.2.2.2.2.1
abbrev LwC.n12 (z : LwC) : (Nat → Int32) := z.2.2.2.2.2.2.2.2.2.2.2.1
abbrev LwC.n13 (z : LwC) : (Nat → Int32) := z.2.2.2.2.2.2.2.2.2.2.2.2.1
abbrev LwC.n14 (z : LwC) : (Nat → Int32) := z.2.2.2.2.2.2.2.2.2.2.2.2.2.1
abbrev LwC.n15 (z : LwC) : (Nat → Int32) := z.2.2.2.2.2.2.2.2.2.2.2.2.2.2.1
abbrev LwC.n16 (z : LwC) : (Nat → Int32) := z.2.2.2.2.2.2.2.2.2.2.2.2.2.2.2.1
abbrev LwC.n18 (z : LwC) : (Nat → Int32) := z.2.2.2.2.2.2.2.2.2.2.2.2.2.2.2.2.1
abbrev LwC.n19 (z : LwC) : (Nat → Int32) := z.2.2.2.2.2.2.2.2.2.2.2.2.2.2.2.2.2.1
abbrev LwC.n20 (z : LwC) : (Nat → Int32) := z.2.2.2.2.2.2.2.2.2.2.2.2.2.2.2.2.2.2.1
abbrev LwC.n21 (z : LwC) : (Nat → Int32) := z.2.2.2.2.2.2.2.2.2.2.2.2.2.2.2.2.2.2.2.1
abbrev LwC.n22 (z : LwC) : (Nat → Int32) := z.2.2.2.2.2.2.2.2.2.2.2.2.2.2.2.2.2.2.2.2.1
abbrev LwC.n24 (z : LwC) : (Nat → Int32) := z.2.2.2.2.2.2.2.2.2.2.2.2.2.2.2.2.2.2.2.2.2.1
abbrev LwC.n25 (z : LwC) : (Nat → Int32) := z.2.2.2.2.2.2.2.2.2.2.2.2.2.2.2.2.2.2.2.2.2.2.1
abbrev LwC.n26 (z : LwC) : (Nat → Int32) := z.2.2.2.2.2.2.2.2.2.2.2.2.2.2.2.2.2.2.2.2.2.2.2
abbrev LwS : Type := Int32 × Nat × Nat × Nat × Nat × Nat × (Nat → Int32) × (Nat → Int32) × (Nat → Int32) × (Nat → Int32) × (Nat → Int32) × (Nat → Int32) × (Nat → Int32) × (Nat → Int32) × (Nat → Int32) × (Nat → Int32) × (Nat → Int32) × LwC
abbrev LwS.ty (z : LwS) : Int32 := z.1
abbrev LwS.T (z : LwS) : Nat := z.2.1
abbrev LwS.O (z : LwS) : Nat := z.2.2.1
abbrev LwS.wz (z : LwS) : Nat := z.2.2.2.1
abbrev LwS.kz (z : LwS) : Nat := z.2.2.2.2.1
abbrev LwS.rd (z : LwS) : Nat := z.2.2.2.2.2.1
abbrev LwS.ft (z : LwS) : (Nat → Int32) := z.2.2.2.2.2.2.1
abbrev LwS.fo (z : LwS) : (Nat → Int32) := z.2.2.2.2.2.2.2.1
abbrev LwS.fk (z : LwS) : (Nat → Int32) := z.2.2.2.2.2.2.2.2.1
abbrev LwS.fg (z : LwS) : (Nat → Int32) := z.2.2.2.2.2.2.2.2.2.1
abbrev LwS.f1 (z : LwS) : (Nat → Int32) := z.2.2.2.2.2.2.2.2.2.2.1
abbrev LwS.f2 (z : LwS) : (Nat → Int32) := z.2.2.2.2.2.2.2.2.2.2.2.1
abbrev LwS.fr (z : LwS) : (Nat → Int32) := z.2.2.2.2.2.2.2.2.2.2.2.2.1
abbrev LwS.mt (z : LwS) : (Nat → Int32) := z.2.2.2.2.2.2.2.2.2.2.2.2.2.1
abbrev LwS.mo (z : LwS) : (Nat → Int32) := z.2.2.2.2.2.2.2.2.2.2.2.2.2.2.1
abbrev LwS.my (z : LwS) : (Nat → Int32) := z.2.2.2.2.2.2.2.2.2.2.2.2.2.2.2.1
abbrev LwS.mg (z : LwS) : (Nat → Int32) := z.2.2.2.2.2.2.2.2.2.2.2.2.2.2.2.2.1
abbrev LwS.sc (z : LwS) : LwC := z.2.2.2.2.2.2.2.2.2.2.2.2.2.2.2.2.2
abbrev lwS (v_ty : Int32) (v_T : Nat) (v_O : Nat) (v_wz : Nat) (v_kz : Nat) (v_rd : Nat) (v_ft : (Nat → Int32)) (v_fo : (Nat → Int32)) (v_fk : (Nat → Int32)) (v_fg : (Nat → Int32)) (v_f1 : (Nat → Int32)) (v_f2 : (Nat → Int32)) (v_fr : (Nat → Int32)) (v_mt : (Nat → Int32)) (v_mo : (Nat → Int32)) (v_my : (Nat → Int32)) (v_mg : (Nat → Int32)) (v_sc : LwC) : LwS := (v_ty, v_T, v_O, v_wz, v_kz, v_rd, v_ft, v_fo, v_fk, v_fg, v_f1, v_f2, v_fr, v_mt, v_mo, v_my, v_mg, v_sc)
/-- all cells that the law holds between two calls -/
def lwW (G : wG) (h : Nat) (ca : Nat → Nat) (hm : Nat) (a : Nat → Nat) (x : LwS) : va_W := [(h, .inr (6, [.ref (ca 0), .ref (ca 2), .ref (ca 4), .ref (ca 6), .ref (ca 8), .ref (ca 10), .ref (ca 17), .ref (ca 22), .ref (ca 24), .int x.ty])), (ca 0, .inr (4, [.ref (ca 1), .int (nI x.T)])), (ca 1, .inl (G.2.1, 400, .inl x.ft)), (ca 2, .inr (4, [.ref (ca 3), .int (nI x.O)])), (ca 3, .inl (G.2.1, 400, .inl x.fo)), (ca 4, .inr (4, [.ref (ca 5), .int (nI x.wz)])), (ca 5, .inl (G.2.1, 448, .inl x.sc.fw)), (ca 6, .inr (4, [.ref (ca 7), .int (nI x.kz)])), (ca 7, .inl (G.2.1, 32, .inl x.fk)), (ca 8, .inr (4, [.ref (ca 9), .int (nI 16)])), (ca 9, .inl (G.2.1, 16, .inl x.fg)), (ca 10, .inr (3, [.ref (ca 11), .int (nI 3), .ref (ca 12), .ref (ca 13)])), (ca 11, .inl (G.2.1, 8, .inl x.sc.fb)), (ca 12, .inr (2, [.ref (ca 14), .ref (ca 15)])), (ca 13, .inr (2, [.ref (ca 14), .ref (ca 16)])), (ca 14, .inl (G.2.1, 512, .inl mbI)), (ca 15, .inl (G.2.1, 128, .inl x.f1)), (ca 16, .inl (G.2.1, 128, .inl x.f2)), (ca 17, .inr (0, [.ref (ca 18), .int (nI 4), .ref (ca 19), .ref (ca 20), .ref (ca 21), .int (nI x.rd)])), (ca 18, .inl (G.2.1, 16, .inl x.sc.ga)), (ca 19, .inl (G.2.1, 256, .inl (orR 256))), (ca 20, .inl (G.2.1, 60, .inl x.fr)), (ca 21, .inl (G.2.1, 16, .inl x.sc.fv)), (ca 22, .inr (1, [.ref (ca 23)])), (ca 23, .inl (G.2.1, 16, .inl x.sc.fc)), (ca 24, .inr (5, [.ref (ca 25), .ref (ca 26)])), (ca 25, .inl (G.2.1, 8, .inl x.sc.zs)), (ca 26, .inl (G.2.1, 64, .inl x.sc.zw)), (hm, .inr (7, mO a x.sc.xr x.sc.xm x.T x.O x.ty x.kz)), (a 0, .inl (G.2.1, 64, .inl (fun j_ => nI (tbV 1 j_)))), (a 1, .inl (G.2.1, 48, .inl (fun j_ => nI (spV j_)))), (a 2, .inl (G.2.1, 32, .inl (fun j_ => nI (tbV 6 j_)))), (a 3, .inl (G.2.1, 56, .inl (fun j_ => nI (tbV 3 j_)))), (a 4, .inl (G.2.1, 48, .inl (fun j_ => nI (tbV 4 j_)))), (a 5, .inl (G.2.1, 512, .inl (fun j_ => nI (tbV 7 j_)))), (a 6, .inl (G.2.1, 64, .inl (fun j_ => nI (tbV 9 j_)))), (a 7, .inl (G.2.1, 8, .inl (fun j_ => nI (tbV 8 j_)))), (a 8, .inl (G.2.1, 256, .inl (fun j_ => nI (tbV 0 j_)))), (a 9, .inl (G.2.1, 256, .inl (orR 256))), (a 10, .inl (G.2.1, 64, .inl x.sc.n10)), (a 11, .inl (G.2.1, 64, .inl x.sc.n11)), (a 12, .inl (G.2.1, 56, .inl x.sc.n12)), (a 13, .inl (G.2.1, 768, .inl x.sc.n13)), (a 14, .inl (G.2.1, 32, .inl x.sc.n14)), (a 15, .inl (G.2.1, 48, .inl x.sc.n15)), (a 16, .inl (G.2.2.1, 240, .inl x.sc.n16)), (a 18, .inl (G.2.2.1, 16, .inl x.sc.n18)), (a 19, .inl (G.2.1, 64, .inl x.sc.n19)), (a 20, .inl (G.2.1, 8, .inl x.sc.n20)), (a 21, .inl (G.2.2.1, 32, .inl x.sc.n21)), (a 22, .inl (G.2.2.1, 700, .inl x.sc.n22)), (a 24, .inl (G.2.2.1, 16, .inl x.sc.n24)), (a 25, .inl (G.2.2.1, 16, .inl x.sc.n25)), (a 26, .inl (G.2.2.1, 120, .inl x.sc.n26)), (a 27, .inl (G.2.2.1, 400, .inl x.mt)), (a 29, .inl (G.2.2.1, 416, .inl x.mo)), (a 33, .inl (G.2.2.1, 32, .inl x.my)), (a 34, .inl (G.2.2.1, 16, .inl x.mg))]
section SLD
variable {p : Program} {l : Launch} {e : Env} {R : Room} {s : State} {m : MethodId} {args : Array Value} {below : List Frame} {meth : Method} {c : Code} {H : Heap} {locs : List Loc} {cells slots : Nat} {Q : State → Prop}
variable {cc : ByteArray} {pc : Nat} {ls : Array Slot} {rest : List Value} {A : Nat → Prop} {b L k : Nat} {xs : Nat → Int32}
theorem w_sld (hx : p.tables.exec = Jvm.exec) (hb : c.code = cc) (hX : va_X b L xs s s.heap) (hbl : b < s.heap.size) (hbA : ¬ A b) (hS : va_S A s.heap H locs) (hk : k < L) (hL : L ≤ 3072) (hdg : decode cc pc = .ok (.iaload, 1)) (kk : W p l e R s m args below meth c H locs cells slots Q (F0 m (pc + 1) ls (.int (xs k) :: rest))) : W p l e R s m args below meth c H locs cells slots Q (F0 m pc ls (.int (nI k) :: .ref b :: rest)) :=
  va_sld hx hb hX hbl hbA hS (vp_in_nI hk (by omega)) hdg (by rw [nI_clamp (by omega)]; exact kk)
end SLD
/-- what stands for the whole of the law's run -/
def lw_C (p : Program) (s : State) (m : MethodId) (c : Code) (G : wG) (A : Nat → Prop) (b L : Nat) (xs : Nat → Int32) : Prop :=
  p.tables.exec = Jvm.exec ∧ c.code = cL_law ∧ c.maxLocals = 4 ∧ s.vm.findClass RL = some m.cls ∧ (∀ w ∈ wsL_law, w.before #[Value.ref b] s = true) ∧ va_X b L xs s s.heap ∧ b < s.heap.size ∧ ¬ A b ∧ va_K G.1 vwCl (wTys G) s ∧ wTab G A s ∧ (∀ q, s.heap.size ≤ q → A q) ∧ L ≤ 3072