/-! System.arraycopy between rows of ints of the world, and out of a static table of ints: from place 0 to place 0 -/
theorem cpy_fl {g f : Nat → Int32} {q : Nat} : va_cpy g f 0 0 q = fl q g f := by
  funext j
  simp only [va_cpy, fl]
  by_cases h : j < q
  · rw [if_pos (by omega), if_pos h]; congr 1; omega
  · rw [if_neg (by omega), if_neg h]
section WCP
variable {p : Program} {l : Launch} {e : Env} {R : Room} {s : State} {m : MethodId} {args : Array Value} {below : List Frame} {meth : Method} {c : Code} {H : Heap} {locs : List Loc} {cells slots : Nat} {Q : State → Prop}
variable {cc : ByteArray} {pc : Nat} {ls : Array Slot} {rest : List Value} {A : Nat → Prop} {G : wG} {wa : va_W} {k n n2 q : Nat} {f g : Nat → Int32} {ad ad2 : Nat}
theorem w_copyI (hx : p.tables.exec = Jvm.exec) (hb : c.code = cc) (hml : c.maxLocals = ls.size) {own : String} {index : Nat} (hown : s.vm.findClass own = some m.cls) (hlink : (Cond.methodLink own index arraycopyName).before args s = true) (hnat : (Cond.native arraycopyName).before args s = true) (hstat : (Cond.static arraycopyName).before args s = true) (hini : (Cond.initialized "java/lang/System").before args s = true)
    (hK : va_K G.1 vwCl (wTys G) s) (hP : va_P G.1 vwCl wa H) (hD : va_D A wa) (hS : va_S A s.heap H locs) (q0 q1 : Nat) (ha0 : wa[q0]? = some (ad2, .inl (G.2.1, n2, .inl g))) (ha1 : wa[q1]? = some (ad, .inl (G.2.1, n, .inl f))) (h4 : q ≤ n2) (h5 : q ≤ n) (hq : q < 2 ^ 31)
    (hframes : 1 ≤ R.frames) (hlocals : (rest.map fun v => v.category).sum + (nativeFrameWords "java/lang/System" "arraycopy" 5 + 11) ≤ R.locals) (hdg : decode cc pc = .ok (.invokestatic index, 3))
    (kk : ∀ (H1 : Heap) (locs1 : List Loc), va_P G.1 vwCl (wa.set q1 (ad, .inl (G.2.1, n, .inl (fl q g f)))) H1 → va_D A (wa.set q1 (ad, .inl (G.2.1, n, .inl (fl q g f)))) → va_S A s.heap H1 locs1 → W p l e R s m args below meth c H1 locs1 cells slots Q (F0 m (pc + 3) ls rest)) : W p l e R s m args below meth c H locs cells slots Q (F0 m pc ls (.int (nI q) :: .int (nI 0) :: .ref ad :: .int (nI 0) :: .ref ad2 :: rest)) := by
  have e0 : (nI 0).toNatClampNeg = 0 := nI_clamp (by decide)
  have eq : (nI q).toNatClampNeg = q := nI_clamp hq
  refine va_copyi hx hb hml hown hlink hnat hstat hini hK hP hD hS q0 q1 0 0 ha0 ha1 rfl rfl rfl (nI_pos (by decide)) (nI_pos (by decide)) (nI_pos hq) (by rw [e0, eq]; omega) (by rw [e0, eq]; omega) (fun _ _ => rfl) hframes hlocals hdg ?_
  rw [e0, eq, cpy_fl]
  exact kk
theorem w_copyT (hx : p.tables.exec = Jvm.exec) (hb : c.code = cc) (hml : c.maxLocals = ls.size) {own : String} {index : Nat} (hown : s.vm.findClass own = some m.cls) (hlink : (Cond.methodLink own index arraycopyName).before args s = true) (hnat : (Cond.native arraycopyName).before args s = true) (hstat : (Cond.static arraycopyName).before args s = true) (hini : (Cond.initialized "java/lang/System").before args s = true)
    (hK : va_K G.1 vwCl (wTys G) s) (hP : va_P G.1 vwCl wa H) (hD : va_D A wa) (hS : va_S A s.heap H locs) (hT : wTab G A s) (hk : k < 10) (q1 : Nat) (ha1 : wa[q1]? = some (ad, .inl (G.2.1, n, .inl f))) (h4 : q ≤ tbL k) (h5 : q ≤ n) (hq : q < 2 ^ 31)
    (hframes : 1 ≤ R.frames) (hlocals : (rest.map fun v => v.category).sum + (nativeFrameWords "java/lang/System" "arraycopy" 5 + 11) ≤ R.locals) (hdg : decode cc pc = .ok (.invokestatic index, 3))
    (kk : ∀ (H1 : Heap) (locs1 : List Loc), va_P G.1 vwCl (wa.set q1 (ad, .inl (G.2.1, n, .inl (fl q (fun j => nI (tbV k j)) f)))) H1 → va_D A (wa.set q1 (ad, .inl (G.2.1, n, .inl (fl q (fun j => nI (tbV k j)) f)))) → va_S A s.heap H1 locs1 → W p l e R s m args below meth c H1 locs1 cells slots Q (F0 m (pc + 3) ls rest)) : W p l e R s m args below meth c H locs cells slots Q (F0 m pc ls (.int (nI q) :: .int (nI 0) :: .ref ad :: .int (nI 0) :: .ref (G.2.2.2 k) :: rest)) := by
  have e0 : (nI 0).toNatClampNeg = 0 := nI_clamp (by decide)
  have eq : (nI q).toNatClampNeg = q := nI_clamp hq
  have i0 : (nI 0).toInt = 0 := nI_toInt (by decide)
  have iq : (nI q).toInt = (q : Int) := nI_toInt hq
  intro T hT0 X
  obtain ⟨scr, s1, s2, s3, s4, -, s5, s7⟩ := (hT.1 k hk).2
  have hc0 : H[G.2.2.2 k]? = some scr := by rw [hS.2.1 _ (Array.getElem?_eq_some_iff.mp s1).1 s7]; exact s1
  have hc1 : H[ad]? = some (vp_cell G.2.1 (n, .inl f)) := hP q1 _ ha1
  obtain ⟨s6, k0, hk0, cm0, hkk0⟩ := s2
  obtain ⟨-, k1, hk1, cm1, hkk1⟩ := (hK.2 0 _ rfl).1 n (fun j => .int (f j))
  obtain ⟨vm', X', step⟩ := X.arraycopy hx hown hlink hnat hstat hini (src := G.2.2.2 k) (dst := ad) (cs := scr) (cd := vp_cell G.2.1 (n, .inl f)) (srcPos := nI 0) (destPos := nI 0) (n := nI q) (by rw [hT0]; exact hc0) (by rw [hT0]; exact hc1)
    s6 (fun _ h => by cases h) s3 (fun h => by cases h) hk0 hk1 hkk0 hkk1 (by simp [refKind]) (nI_pos (by decide)) (nI_pos (by decide)) (nI_pos hq)
    (by rw [i0, iq]; omega)
    (by rw [i0, iq]; show ¬ _ > ((arrV G.2.1 n (fun j => .int (f j))).slots.size : Int); rw [arrV_size]; omega)
    (fun vm₁ _ i hi => by
      rw [eq] at hi
      have e2 : scr.slots.getD ((nI 0).toNatClampNeg + i) .null = .int (nI (tbV k i)) := by
        rw [e0, Nat.zero_add, Array.getD_eq_getD_getElem?, s5 _ (by omega)]
        rfl
      exact ⟨by rw [e2]; rfl, by rw [e2]; exact trivial⟩)
    (g := F0 m pc ls (.int (nI q) :: .int (nI 0) :: .ref ad :: .int (nI 0) :: .ref (G.2.2.2 k) :: rest)) rfl (by rw [hml]) (rest := rest) rfl (by rw [hb]; exact hdg) hframes (by show 2 * 0 + _ + _ ≤ _; omega)
  have e1 : copied scr (vp_cell G.2.1 (n, .inl f)) (nI 0) (nI 0) (nI q) = vp_cell G.2.1 (n, .inl (fl q (fun j => nI (tbV k j)) f)) := by
    have h9 : copied scr (vp_cell G.2.1 (n, .inl f)) (nI 0) (nI 0) (nI q) = vp_cell G.2.1 (n, .inl (va_cpy (fun j => nI (tbV k j)) f (nI 0).toNatClampNeg (nI 0).toNatClampNeg (nI q).toNatClampNeg)) := va_copiedX (fun z => .int z) scr G.2.1 (fun j => nI (tbV k j)) f s5 (by rw [e0, eq]; omega)
    rw [e0, eq, cpy_fl] at h9
    exact h9
  rw [e1] at X' step
  have hl : ad < H.size := (Array.getElem?_eq_some_iff.mp hc1).1
  have oq : ∀ x : Nat, x ≠ ad → (H.setIfInBounds ad (vp_cell G.2.1 (n, .inl (fl q (fun j => nI (tbV k j)) f))))[x]? = H[x]? := fun x hx2 => by simp [Array.getElem?_setIfInBounds, Ne.symm hx2]
  obtain ⟨t, a1, b1⟩ := kk _ _ (hP.set hD ha1 (show (H.setIfInBounds ad _)[ad]? = some _ by simp [Array.getElem?_setIfInBounds, hl]) oq) (hD.set ha1) ⟨by simp; exact hS.1, fun x g1 g2 => by
      rw [oq x (fun z => g2 (by rw [z]; exact hD.2 q1 _ ha1))]
      exact hS.2.1 x g1 g2, fun x hx2 => by
      rcases List.mem_append.mp hx2 with h | h
      · exact hS.2.2 x h
      · obtain ⟨z, -, hz⟩ := List.mem_map.mp h
        rw [← hz]
        exact hD.2 q1 _ ha1⟩ _ (by rw [← hT0]; rfl) X'
  exact ⟨t, step t a1, b1⟩
/-- a new row of ints, of bytes: its class is the one that is known -/
theorem w_newI (n : Nat) (hx : p.tables.exec = Jvm.exec) (hb : c.code = cc) (harr : (Cond.arrayClass .int).before args s = true) (hK : va_K G.1 vwCl (wTys G) s) (hP : va_P G.1 vwCl wa H) (hD : va_D A wa) (hS : va_S A s.heap H locs) (hA : ∀ q, s.heap.size ≤ q → A q) (hn : n ≤ 100000) (hcells : cells + 1 ≤ R.cells) (hslots : slots + n ≤ R.slots) (hdg : decode cc pc = .ok (.newarray .int, 2))
    (kk : ∀ (x : Nat) (H1 : Heap), va_P G.1 vwCl (wa ++ [(x, .inl (G.2.1, n, .inl (fun _ => 0)))]) H1 → va_D A (wa ++ [(x, .inl (G.2.1, n, .inl (fun _ => 0)))]) → va_S A s.heap H1 locs → W p l e R s m args below meth c H1 locs (cells + 1) (slots + n) Q (F0 m (pc + 2) ls (.ref x :: rest))) : W p l e R s m args below meth c H locs cells slots Q (F0 m pc ls (.int (nI n) :: rest)) := by
  refine va_newa (atype := .int) (ty := .int) (N' := n) (a0 := (n, .inl (fun _ => (0 : Int32)))) hx hb harr rfl hK hP hD hS hA (fun cA => (rfl : vp_cell cA (n, .inl (fun _ => (0 : Int32))) = arrV cA n (fun _ => Value.int 0))) (nI_pos (by omega)) (nI_clamp (by omega)) (by show n * 4 ≤ _; omega) hcells hslots hdg (fun x cA H1 hK1 hP1 hD1 hS1 => ?_)
  have e1 : s.vm.findClass "[I" = some cA := (hK1.2 2 _ rfl).2
  have e2 : s.vm.findClass "[I" = some G.2.1 := (hK.2 0 _ rfl).2
  obtain rfl : cA = G.2.1 := Option.some.inj (e1.symm.trans e2)
  exact kk x H1 hP1 hD1 hS1
theorem w_newB (n : Nat) (hx : p.tables.exec = Jvm.exec) (hb : c.code = cc) (harr : (Cond.arrayClass .byte).before args s = true) (hK : va_K G.1 vwCl (wTys G) s) (hP : va_P G.1 vwCl wa H) (hD : va_D A wa) (hS : va_S A s.heap H locs) (hA : ∀ q, s.heap.size ≤ q → A q) (hn : n ≤ 100000) (hcells : cells + 1 ≤ R.cells) (hslots : slots + n ≤ R.slots) (hdg : decode cc pc = .ok (.newarray .byte, 2))
    (kk : ∀ (x : Nat) (H1 : Heap), va_P G.1 vwCl (wa ++ [(x, .inl (G.2.2.1, n, .inl (fun _ => 0)))]) H1 → va_D A (wa ++ [(x, .inl (G.2.2.1, n, .inl (fun _ => 0)))]) → va_S A s.heap H1 locs → W p l e R s m args below meth c H1 locs (cells + 1) (slots + n) Q (F0 m (pc + 2) ls (.ref x :: rest))) : W p l e R s m args below meth c H locs cells slots Q (F0 m pc ls (.int (nI n) :: rest)) := by
  refine va_newa (atype := .byte) (ty := .byte) (N' := n) (a0 := (n, .inl (fun _ => (0 : Int32)))) hx hb harr rfl hK hP hD hS hA (fun cA => (rfl : vp_cell cA (n, .inl (fun _ => (0 : Int32))) = arrV cA n (fun _ => Value.int 0))) (nI_pos (by omega)) (nI_clamp (by omega)) (by show n * 1 ≤ _; omega) hcells hslots hdg (fun x cA H1 hK1 hP1 hD1 hS1 => ?_)
  have e1 : s.vm.findClass "[B" = some cA := (hK1.2 2 _ rfl).2
  have e2 : s.vm.findClass "[B" = some G.2.2.1 := (hK.2 1 _ rfl).2
  obtain rfl : cA = G.2.2.1 := Option.some.inj (e1.symm.trans e2)
  exact kk x H1 hP1 hD1 hS1
end WCP
/-- a row's places behind its end are nobody's: what is written for them is free -/
theorem cell_ext {cA : ClassId} {n : Nat} {f g : Nat → Int32} (h : ∀ j, j < n → f j = g j) : vp_cell cA (n, .inl f) = vp_cell cA (n, .inl g) := by
  show arrV cA n (fun j => .int (f j)) = arrV cA n (fun j => .int (g j))
  simp only [arrV]
  congr 2
  funext j
  rw [h j.val j.isLt]
theorem w_ext {D : va_G} {cl : List vw_C} {ws : va_W} {H : Heap} {ad n : Nat} {cA : ClassId} (f g : Nat → Int32) (q0 : Nat) (hP : va_P D cl ws H) (ha : ws[q0]? = some (ad, .inl (cA, n, .inl f))) (h : ∀ j, j < n → f j = g j) : va_P D cl (ws.set q0 (ad, .inl (cA, n, .inl g))) H := by
  intro k q hq
  rw [List.getElem?_set] at hq
  by_cases hk : q0 = k
  · subst hk
    have hlt : q0 < ws.length := (List.getElem?_eq_some_iff.mp ha).1
    rw [if_pos rfl, if_pos hlt] at hq
    cases hq
    have h9 := hP q0 _ ha
    show H[ad]? = some (vp_cell cA (n, .inl g))
    rw [← cell_ext h]
    exact h9
  · rw [if_neg hk] at hq
    exact hP k q hq
