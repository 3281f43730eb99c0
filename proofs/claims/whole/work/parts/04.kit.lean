/-! contracts of one shape: what is fixed over a run (class numbers, slots, array classes, tables' addresses) is G -/
abbrev wG : Type := va_G × ClassId × ClassId × (Nat → Nat)
abbrev wTys (G : wG) : List (ClassId × FieldType) := [(G.2.1, .int), (G.2.2.1, .byte)]
def wNst (U : State) : Prop := va_Nw (.methodLinkNest "CipherBox" 46 yX2_init "CipherBox") U ∧ va_Nw (.methodLinkNest "CipherBox" 53 yX6_init "CipherBox") U ∧ va_Nw (.methodLinkNest "CipherBox$Aes" 36 yX7_turnRight "CipherBox") U ∧ va_Nw (.methodLinkNest "CipherBox$Sha256" 58 yX7_turnRight "CipherBox") U ∧ va_Nw (.declares ⟨"CipherBox$BlockCipher", "codeThere", "()V"⟩) U ∧ va_Nw (.declares ⟨"CipherBox$BlockCipher", "codeBack", "()V"⟩) U
def wTab (G : wG) (A : Nat → Prop) (U : State) : Prop := (∀ i, i < 10 → va_Z (tbC i) (tbM i) "[I" (.ref (G.2.2.2 i)) A U U.heap ∧ va_T .int (G.2.2.2 i) (tbL i) (fun j => .int (nI (tbV i j))) A U U.heap) ∧ wNst U
theorem wTab.go {G : wG} {A B : Nat → Prop} {s U : State} {H : Heap} {locs : List Loc} (h : wTab G A s) (hS : va_S A s.heap H locs) (hU : U.heap = H) (hW : s.WarmedH U.vm) (hAB : ∀ q, B q → A q) : wTab G B U := by
  refine ⟨fun i hi => ?_, h.2.1.warmM hW, h.2.2.1.warmM hW, h.2.2.2.1.warmM hW, h.2.2.2.2.1.warmM hW, h.2.2.2.2.2.1.warmD hW, h.2.2.2.2.2.2.warmD hW⟩
  obtain ⟨h1, h2⟩ := h.1 i hi
  rw [hU]
  exact ⟨((h1.kept (fun a h3 h4 => hS.2.1 a h3 h4)).moved hW.alike).narrow hAB, ((h2.kept (fun a h3 h4 => hS.2.1 a h3 h4)).moved hW.alike).narrow hAB⟩
def wPre (G : wG) (w0 : va_W) (sz : Nat) (U : State) : Prop := U.heap.size = sz ∧ va_P G.1 vwCl w0 U.heap ∧ va_K G.1 vwCl (wTys G) U ∧ va_D (fun _ => True) w0 ∧ wTab G (va_A w0 sz) U
def wPost (G : wG) (A : Nat → Prop) (w1 : va_W) (t : State) : Prop := va_P G.1 vwCl w1 t.heap ∧ va_K G.1 vwCl (wTys G) t ∧ va_D A w1
theorem wPre.blind {G : wG} {w0 : va_W} {sz : Nat} {av : List Value} : FrameBlind (va_Pc av (wPre G w0 sz)) := fun a U g mk q => by
  obtain ⟨q0, q1, qP, qK, qD, qT, n1, n2, n3, n4, n5, n6⟩ := q
  exact ⟨q0, q1, qP, va_K.moved (u := U) (U := U.calling g mk a) (Vm.Alike.refl U.vm) qK, qD, fun i hi => ⟨va_Z.moved (u := U) (U := U.calling g mk a) (Vm.Alike.refl U.vm) (qT i hi).1, va_T.moved (u := U) (U := U.calling g mk a) (Vm.Alike.refl U.vm) (qT i hi).2⟩, va_Nw.same (u := U) (U := U.calling g mk a) rfl rfl n1, va_Nw.same (u := U) (U := U.calling g mk a) rfl rfl n2, va_Nw.same (u := U) (U := U.calling g mk a) rfl rfl n3, va_Nw.same (u := U) (U := U.calling g mk a) rfl rfl n4, va_Nw.same (u := U) (U := U.calling g mk a) rfl rfl n5, va_Nw.same (u := U) (U := U.calling g mk a) rfl rfl n6⟩
theorem w_fm {ws wc : va_W} {isC : List Nat} (hC : isC.map (fun i => ws[i]?) = wc.map some) : isC.filterMap (fun i => ws[i]?) = wc := by
  have h : isC.filterMap (fun i => ws[i]?) = (isC.map (fun i => ws[i]?)).filterMap id := by rw [List.filterMap_map]; rfl
  rw [h, hC, List.filterMap_map]
  simp
theorem w_pre {s : State} {H : Heap} {locs : List Loc} {G : wG} {A : Nat → Prop} {wa wc : va_W} (hK : va_K G.1 vwCl (wTys G) s) (hT : wTab G A s) (hA : ∀ q, s.heap.size ≤ q → A q) (hP : va_P G.1 vwCl wa H) (hD : va_D A wa) (hS : va_S A s.heap H locs) {isC : List Nat} (hn : va_nd isC = true) (hC : isC.map (fun i => wa[i]?) = wc.map some) (U : State) (hU : U.heap = H) (hW : s.WarmedH U.vm) : wPre G wc H.size U :=
  ⟨by rw [hU], by rw [hU]; exact hP.sub isC (w_fm hC), va_K.moved hW.alike hK, (hD.sub isC hn hC).weaken (fun _ _ _ _ => trivial), hT.go hS hU hW (va_free hD hS hA isC hC)⟩
/-- contracts: an int, a long, nothing, a reference comes back -/
def CMi (l : Launch) (G : wG) (y : MethodName) (ws : List Cond) (fr lo : Nat) (av : List Value) (w0 : va_W) {S : Type} (post : Int32 → S → Prop) (w1 : S → va_W) : Prop :=
  ∀ sz, Met l y ws { frames := fr, cells := 0, slots := 0, locals := lo } (va_Pc av (wPre G w0 sz)) (va_Qi post (fun u t => wPost G (va_A w0 sz) (w1 u) t) (va_A w0 sz)) 0 0 (va_A w0 sz)
def CMl (l : Launch) (G : wG) (y : MethodName) (ws : List Cond) (fr lo : Nat) (av : List Value) (w0 : va_W) {S : Type} (post : Int64 → S → Prop) (w1 : S → va_W) : Prop :=
  ∀ sz, Met l y ws { frames := fr, cells := 0, slots := 0, locals := lo } (va_Pc av (wPre G w0 sz)) (va_Ql post (fun u t => wPost G (va_A w0 sz) (w1 u) t) (va_A w0 sz)) 0 0 (va_A w0 sz)
def CMv (l : Launch) (G : wG) (y : MethodName) (ws : List Cond) (fr lo mc ms : Nat) (av : List Value) (w0 : va_W) {S : Type} (post : S → Prop) (w1 : S → va_W) : Prop :=
  ∀ sz, Met l y ws { frames := fr, cells := mc, slots := ms, locals := lo } (va_Pc av (wPre G w0 sz)) (va_Qv post (fun u t => wPost G (va_A w0 sz) (w1 u) t) (va_A w0 sz)) mc ms (va_A w0 sz)
def CMr (l : Launch) (G : wG) (y : MethodName) (ws : List Cond) (fr lo mc ms : Nat) (av : List Value) (w0 : va_W) {S : Type} (post : S → Prop) (w1 : S → Nat → va_W) : Prop :=
  ∀ sz, Met l y ws { frames := fr, cells := mc, slots := ms, locals := lo } (va_Pc av (wPre G w0 sz)) (va_Qr post (fun u a t => wPost G (va_A w0 sz) (w1 u a) t) (va_A w0 sz)) mc ms (va_A w0 sz)
section CMS
variable {l : Launch} {G : wG} {y : MethodName} {ws ws' : List Cond} {fr lo mc ms : Nat} {av : List Value} {w0 : va_W} {S : Type}
theorem CMi.start {post : Int32 → S → Prop} {w1 : S → va_W} (cc : ByteArray) (maxL : Nat) (ty : FieldType) (hy : plainName y.cls = true) (hw : ws = Cond.code y cc maxL (some ty) :: ws') (hlen : (lg_sl av).length ≤ maxL)
    (hty : ∀ r u, post r u → narrow ty (.int r) = .int r)
    (body : ∀ (p : Program) (e : Env) (s : State) (m : MethodId) (below : List Frame) (meth : Method) (c : Code) (A : Nat → Prop) (Q : State → Prop) (ls : Array Slot) (H : Heap) (locs : List Loc), p.tables.exec = Jvm.exec → c.code = cc → c.maxLocals = maxL → s.vm.findClass y.cls = some m.cls → (∀ w ∈ ws, w.before av.toArray s = true) → va_K G.1 vwCl (wTys G) s → wTab G A s → (∀ q, s.heap.size ≤ q → A q) → va_P G.1 vwCl w0 H → va_D A w0 → va_S A s.heap H locs → lv_has ls maxL (lv_args 0 av) →
      (∀ (r : Int32) (u : S) (H : Heap) (locs : List Loc) (pc : Nat) (ls : Array Slot), decode cc pc = .ok (.ireturn, 1) → post r u → va_P G.1 vwCl (w1 u) H → va_D A (w1 u) → va_S A s.heap H locs → W p l e { frames := fr, cells := 0, slots := 0, locals := lo } s m av.toArray below meth c H locs 0 0 Q (F0 m pc ls [.int r])) →
      W p l e { frames := fr, cells := 0, slots := 0, locals := lo } s m av.toArray below meth c H locs 0 0 Q (F0 m 0 ls [])) : CMi l G y ws fr lo av w0 post w1 := by
  intro sz
  refine Met.ofW (cc := cc) (maxL := maxL) (ret := some ty) hy hw ?_
  intro p e s m args below meth c s₁ B hml hv
  obtain ⟨rfl, hsz, hP, hK, hD0, hT⟩ := hv
  subst hsz
  have hl := lv_entry av (n := maxL) hlen
  rw [lg_entry_eq]
  exact body p e s m below meth c (va_A w0 s.heap.size) _ _ s.heap [] B.exec B.bytes hml (findClass_of_methodNamed B.named) (atoms_spec (ws := ws) B.pre) hK hT (fun q h => Or.inr h) hP hD0.self va_S.rf hl
    (fun r u H locs pc ls hd hp hP1 hD1 hS => W.zret B.exec B.bytes B.returns (hty r u hp) (fun t ht hW => ⟨⟨r, u, rfl, hp, by rw [ht]; exact hP1, va_K.moved hW.alike hK, hD1⟩, hS.F ht⟩) hS.2.2 hd)
theorem CMl.start {post : Int64 → S → Prop} {w1 : S → va_W} (cc : ByteArray) (maxL : Nat) (hy : plainName y.cls = true) (hw : ws = Cond.code y cc maxL (some .long) :: ws') (hlen : (lg_sl av).length ≤ maxL)
    (body : ∀ (p : Program) (e : Env) (s : State) (m : MethodId) (below : List Frame) (meth : Method) (c : Code) (A : Nat → Prop) (Q : State → Prop) (ls : Array Slot) (H : Heap) (locs : List Loc), p.tables.exec = Jvm.exec → c.code = cc → c.maxLocals = maxL → s.vm.findClass y.cls = some m.cls → (∀ w ∈ ws, w.before av.toArray s = true) → va_K G.1 vwCl (wTys G) s → wTab G A s → (∀ q, s.heap.size ≤ q → A q) → va_P G.1 vwCl w0 H → va_D A w0 → va_S A s.heap H locs → lv_has ls maxL (lv_args 0 av) →
      (∀ (r : Int64) (u : S) (H : Heap) (locs : List Loc) (pc : Nat) (ls : Array Slot), decode cc pc = .ok (.lreturn, 1) → post r u → va_P G.1 vwCl (w1 u) H → va_D A (w1 u) → va_S A s.heap H locs → W p l e { frames := fr, cells := 0, slots := 0, locals := lo } s m av.toArray below meth c H locs 0 0 Q (F0 m pc ls [.long r])) →
      W p l e { frames := fr, cells := 0, slots := 0, locals := lo } s m av.toArray below meth c H locs 0 0 Q (F0 m 0 ls [])) : CMl l G y ws fr lo av w0 post w1 := by
  intro sz
  refine Met.ofW (cc := cc) (maxL := maxL) (ret := some .long) hy hw ?_
  intro p e s m args below meth c s₁ B hml hv
  obtain ⟨rfl, hsz, hP, hK, hD0, hT⟩ := hv
  subst hsz
  have hl := lv_entry av (n := maxL) hlen
  rw [lg_entry_eq]
  exact body p e s m below meth c (va_A w0 s.heap.size) _ _ s.heap [] B.exec B.bytes hml (findClass_of_methodNamed B.named) (atoms_spec (ws := ws) B.pre) hK hT (fun q h => Or.inr h) hP hD0.self va_S.rf hl
    (fun r u H locs pc ls hd hp hP1 hD1 hS => W.lret B.exec B.bytes B.returns (fun t ht hW => ⟨⟨r, u, rfl, hp, by rw [ht]; exact hP1, va_K.moved hW.alike hK, hD1⟩, hS.F ht⟩) hS.2.2 hd)
theorem CMv.start {post : S → Prop} {w1 : S → va_W} (cc : ByteArray) (maxL : Nat) (hy : plainName y.cls = true) (hw : ws = Cond.code y cc maxL none :: ws') (hlen : (lg_sl av).length ≤ maxL)
    (body : ∀ (p : Program) (e : Env) (s : State) (m : MethodId) (below : List Frame) (meth : Method) (c : Code) (A : Nat → Prop) (Q : State → Prop) (ls : Array Slot) (H : Heap) (locs : List Loc), p.tables.exec = Jvm.exec → c.code = cc → c.maxLocals = maxL → s.vm.findClass y.cls = some m.cls → meth.name = y.name → (∀ w ∈ ws, w.before av.toArray s = true) → va_K G.1 vwCl (wTys G) s → wTab G A s → (∀ q, s.heap.size ≤ q → A q) → va_P G.1 vwCl w0 H → va_D A w0 → va_S A s.heap H locs → lv_has ls maxL (lv_args 0 av) →
      (∀ (u : S) (H : Heap) (locs : List Loc) (pc : Nat) (ls : Array Slot), decode cc pc = .ok (.return_, 1) → post u → va_P G.1 vwCl (w1 u) H → va_D A (w1 u) → va_S A s.heap H locs → W p l e { frames := fr, cells := mc, slots := ms, locals := lo } s m av.toArray below meth c H locs mc ms Q (F0 m pc ls [])) →
      W p l e { frames := fr, cells := mc, slots := ms, locals := lo } s m av.toArray below meth c H locs 0 0 Q (F0 m 0 ls [])) : CMv l G y ws fr lo mc ms av w0 post w1 := by
  intro sz
  refine Met.ofW (cc := cc) (maxL := maxL) (ret := none) hy hw ?_
  intro p e s m args below meth c s₁ B hml hv
  obtain ⟨rfl, hsz, hP, hK, hD0, hT⟩ := hv
  subst hsz
  have hl := lv_entry av (n := maxL) hlen
  rw [lg_entry_eq]
  exact body p e s m below meth c (va_A w0 s.heap.size) _ _ s.heap [] B.exec B.bytes hml (findClass_of_methodNamed B.named) (name_of_methodNamed B.named B.method).1 (atoms_spec (ws := ws) B.pre) hK hT (fun q h => Or.inr h) hP hD0.self va_S.rf hl
    (fun u H locs pc ls hd hp hP1 hD1 hS => W.vret B.exec B.bytes B.returns (fun t ht hW => ⟨⟨u, rfl, hp, by rw [ht]; exact hP1, va_K.moved hW.alike hK, hD1⟩, hS.F ht⟩) hS.2.2 hd)
theorem CMr.start {post : S → Prop} {w1 : S → Nat → va_W} (cc : ByteArray) (maxL : Nat) (rt : FieldType) (hy : plainName y.cls = true) (hrt : (∃ n, rt = .object n) ∨ ∃ t, rt = .array t) (hw : ws = Cond.code y cc maxL (some rt) :: ws') (hlen : (lg_sl av).length ≤ maxL)
    (body : ∀ (p : Program) (e : Env) (s : State) (m : MethodId) (below : List Frame) (meth : Method) (c : Code) (A : Nat → Prop) (Q : State → Prop) (ls : Array Slot) (H : Heap) (locs : List Loc), p.tables.exec = Jvm.exec → c.code = cc → c.maxLocals = maxL → s.vm.findClass y.cls = some m.cls → (∀ w ∈ ws, w.before av.toArray s = true) → va_K G.1 vwCl (wTys G) s → wTab G A s → (∀ q, s.heap.size ≤ q → A q) → va_P G.1 vwCl w0 H → va_D A w0 → va_S A s.heap H locs → lv_has ls maxL (lv_args 0 av) →
      (∀ (u : S) (a : Nat) (H : Heap) (locs : List Loc) (pc : Nat) (ls : Array Slot), decode cc pc = .ok (.areturn, 1) → post u → va_P G.1 vwCl (w1 u a) H → va_D A (w1 u a) → va_S A s.heap H locs → W p l e { frames := fr, cells := mc, slots := ms, locals := lo } s m av.toArray below meth c H locs mc ms Q (F0 m pc ls [.ref a])) →
      W p l e { frames := fr, cells := mc, slots := ms, locals := lo } s m av.toArray below meth c H locs 0 0 Q (F0 m 0 ls [])) : CMr l G y ws fr lo mc ms av w0 post w1 := by
  intro sz
  refine Met.ofW (cc := cc) (maxL := maxL) (ret := some rt) hy hw ?_
  intro p e s m args below meth c s₁ B hml hv
  obtain ⟨rfl, hsz, hP, hK, hD0, hT⟩ := hv
  subst hsz
  have hl := lv_entry av (n := maxL) hlen
  rw [lg_entry_eq]
  exact body p e s m below meth c (va_A w0 s.heap.size) _ _ s.heap [] B.exec B.bytes hml (findClass_of_methodNamed B.named) (atoms_spec (ws := ws) B.pre) hK hT (fun q h => Or.inr h) hP hD0.self va_S.rf hl
    (fun u a H locs pc ls hd hp hP1 hD1 hS => W.aret B.exec B.bytes B.returns hrt (Or.inr ⟨a, rfl⟩) (fun t ht hW => ⟨⟨u, a, rfl, hp, by rw [ht]; exact hP1, va_K.moved hW.alike hK, hD1⟩, hS.F ht⟩) hS.2.2 hd)
end CMS
section WCL
variable {p : Program} {l : Launch} {e : Env} {R : Room} {s : State} {m : MethodId} {args : Array Value} {below : List Frame} {meth : Method} {c : Code} {H : Heap} {locs : List Loc} {cells slots mc ms : Nat} {Q : State → Prop}
variable {pc : Nat} {ls : Array Slot} {rest st : List Value} {a : Array Value} {A : Nat → Prop} {G : wG} {wa wc wr : va_W} {S : Type}
theorem w_fini {post : Int32 → S → Prop} {w1 : S → va_W} (hr : va_Run p l e R s m args below meth c H locs cells slots 0 0 (F0 m pc ls st) rest (va_Qi post (fun u t => wPost G (va_A wc H.size) (w1 u) t) (va_A wc H.size) a) (va_A wc H.size)) (hA : ∀ q, s.heap.size ≤ q → A q) (hP : va_P G.1 vwCl wa H) (hD : va_D A wa) (hS : va_S A s.heap H locs) (isC isR : List Nat) (hC : isC.map (fun i => wa[i]?) = wc.map some) (hR : isR.map (fun i => wa[i]?) = wr.map some) (hn : va_nd isR = true) (hdis : ∀ i ∈ isR, i ∉ isC)
    (kk : ∀ (r : Int32) (u : S) (H1 : Heap) (locs1 : List Loc), post r u → va_P G.1 vwCl (wr ++ w1 u) H1 → va_D A (wr ++ w1 u) → va_S A s.heap H1 locs1 → W p l e R s m args below meth c H1 locs1 cells slots Q (F0 m (pc + 3) ls (.int r :: rest))) : W p l e R s m args below meth c H locs cells slots Q (F0 m pc ls st) := by
  have hF := va_free hD hS hA isC hC
  refine va_calli hr hS (fun q _ h => hF q h) hF (fun r u t H1 locs1 ht hvm hw hB hz1 hk1 hS1 => ?_)
  obtain ⟨hP1, hK1, hD1⟩ := hB
  rw [ht] at hP1
  obtain ⟨hP2, hD2⟩ := va_join hP hD isC isR hC hR hn hdis hk1 hF hP1 hD1
  exact kk r u H1 locs1 hw hP2 hD2 hS1
theorem w_finl {post : Int64 → S → Prop} {w1 : S → va_W} (hr : va_Run p l e R s m args below meth c H locs cells slots 0 0 (F0 m pc ls st) rest (va_Ql post (fun u t => wPost G (va_A wc H.size) (w1 u) t) (va_A wc H.size) a) (va_A wc H.size)) (hA : ∀ q, s.heap.size ≤ q → A q) (hP : va_P G.1 vwCl wa H) (hD : va_D A wa) (hS : va_S A s.heap H locs) (isC isR : List Nat) (hC : isC.map (fun i => wa[i]?) = wc.map some) (hR : isR.map (fun i => wa[i]?) = wr.map some) (hn : va_nd isR = true) (hdis : ∀ i ∈ isR, i ∉ isC)
    (kk : ∀ (r : Int64) (u : S) (H1 : Heap) (locs1 : List Loc), post r u → va_P G.1 vwCl (wr ++ w1 u) H1 → va_D A (wr ++ w1 u) → va_S A s.heap H1 locs1 → W p l e R s m args below meth c H1 locs1 cells slots Q (F0 m (pc + 3) ls (.long r :: rest))) : W p l e R s m args below meth c H locs cells slots Q (F0 m pc ls st) := by
  have hF := va_free hD hS hA isC hC
  refine va_calll hr hS (fun q _ h => hF q h) hF (fun r u t H1 locs1 ht hvm hw hB hz1 hk1 hS1 => ?_)
  obtain ⟨hP1, hK1, hD1⟩ := hB
  rw [ht] at hP1
  obtain ⟨hP2, hD2⟩ := va_join hP hD isC isR hC hR hn hdis hk1 hF hP1 hD1
  exact kk r u H1 locs1 hw hP2 hD2 hS1
theorem w_finv {post : S → Prop} {w1 : S → va_W} (hr : va_Run p l e R s m args below meth c H locs cells slots mc ms (F0 m pc ls st) rest (va_Qv post (fun u t => wPost G (va_A wc H.size) (w1 u) t) (va_A wc H.size) a) (va_A wc H.size)) (hA : ∀ q, s.heap.size ≤ q → A q) (hP : va_P G.1 vwCl wa H) (hD : va_D A wa) (hS : va_S A s.heap H locs) (isC isR : List Nat) (hC : isC.map (fun i => wa[i]?) = wc.map some) (hR : isR.map (fun i => wa[i]?) = wr.map some) (hn : va_nd isR = true) (hdis : ∀ i ∈ isR, i ∉ isC)
    (kk : ∀ (u : S) (H1 : Heap) (locs1 : List Loc), post u → va_P G.1 vwCl (wr ++ w1 u) H1 → va_D A (wr ++ w1 u) → va_S A s.heap H1 locs1 → W p l e R s m args below meth c H1 locs1 (cells + mc) (slots + ms) Q (F0 m (pc + 3) ls rest)) : W p l e R s m args below meth c H locs cells slots Q (F0 m pc ls st) := by
  have hF := va_free hD hS hA isC hC
  refine va_callv hr hS (fun q _ h => hF q h) hF (fun u t H1 locs1 ht hvm hw hB hz1 hk1 hS1 => ?_)
  obtain ⟨hP1, hK1, hD1⟩ := hB
  rw [ht] at hP1
  obtain ⟨hP2, hD2⟩ := va_join hP hD isC isR hC hR hn hdis hk1 hF hP1 hD1
  exact kk u H1 locs1 hw hP2 hD2 hS1
theorem w_finr {post : S → Prop} {w1 : S → Nat → va_W} (hr : va_Run p l e R s m args below meth c H locs cells slots mc ms (F0 m pc ls st) rest (va_Qr post (fun u x t => wPost G (va_A wc H.size) (w1 u x) t) (va_A wc H.size) a) (va_A wc H.size)) (hA : ∀ q, s.heap.size ≤ q → A q) (hP : va_P G.1 vwCl wa H) (hD : va_D A wa) (hS : va_S A s.heap H locs) (isC isR : List Nat) (hC : isC.map (fun i => wa[i]?) = wc.map some) (hR : isR.map (fun i => wa[i]?) = wr.map some) (hn : va_nd isR = true) (hdis : ∀ i ∈ isR, i ∉ isC)
    (kk : ∀ (u : S) (ra : Nat) (H1 : Heap) (locs1 : List Loc), post u → va_P G.1 vwCl (wr ++ w1 u ra) H1 → va_D A (wr ++ w1 u ra) → va_S A s.heap H1 locs1 → W p l e R s m args below meth c H1 locs1 (cells + mc) (slots + ms) Q (F0 m (pc + 3) ls (.ref ra :: rest))) : W p l e R s m args below meth c H locs cells slots Q (F0 m pc ls st) := by
  have hF := va_free hD hS hA isC hC
  refine va_callr hr hS (fun q _ h => hF q h) hF (fun u ra t H1 locs1 ht hvm hw hB hz1 hk1 hS1 => ?_)
  obtain ⟨hP1, hK1, hD1⟩ := hB
  rw [ht] at hP1
  obtain ⟨hP2, hD2⟩ := va_join hP hD isC isR hC hR hn hdis hk1 hF hP1 hD1
  exact kk u ra H1 locs1 hw hP2 hD2 hS1
/-- a loop: the world and the locals are functions of what it counts by -/
theorem w_loop {ι : Type} {nL : Nat} (μ : ι → Nat) (φ : ι → Prop) (wf : ι → va_W) (lf : ι → List (Nat × Value)) (i0 : ι) (h0 : φ i0) (hP : va_P G.1 vwCl (wf i0) H) (hD : va_D A (wf i0)) (hS : va_S A s.heap H locs) (hl : lv_has ls nL (lf i0))
    (step : ∀ (i : ι) (H : Heap) (locs : List Loc) (ls : Array Slot), φ i → va_P G.1 vwCl (wf i) H → va_D A (wf i) → va_S A s.heap H locs → lv_has ls nL (lf i) →
      (∀ (j : ι) (H : Heap) (locs : List Loc) (ls : Array Slot), μ j < μ i → φ j → va_P G.1 vwCl (wf j) H → va_D A (wf j) → va_S A s.heap H locs → lv_has ls nL (lf j) → W p l e R s m args below meth c H locs cells slots Q (F0 m pc ls [])) →
      W p l e R s m args below meth c H locs cells slots Q (F0 m pc ls [])) : W p l e R s m args below meth c H locs cells slots Q (F0 m pc ls []) := by
  have key : ∀ (n : Nat) (i : ι) (H : Heap) (locs : List Loc) (ls : Array Slot), μ i < n → φ i → va_P G.1 vwCl (wf i) H → va_D A (wf i) → va_S A s.heap H locs → lv_has ls nL (lf i) → W p l e R s m args below meth c H locs cells slots Q (F0 m pc ls []) := by
    intro n
    induction n with
    | zero => intro i H locs ls h; exact absurd h (Nat.not_lt_zero _)
    | succ n ih =>
      intro i H locs ls h h1 h2 h3 h4 h5
      exact step i H locs ls h1 h2 h3 h4 h5 (fun j H locs ls g1 g2 g3 g4 g5 g6 => ih j H locs ls (by omega) g2 g3 g4 g5 g6)
  exact key (μ i0 + 1) i0 H locs ls (Nat.lt_succ_self _) h0 hP hD hS hl
/-- two ways come together: the goal behind is shown once, for every j of a kind -/
theorem w_cut {ι : Type} {nL pc2 : Nat} (φ : ι → Prop) (wf : ι → va_W) (lf : ι → List (Nat × Value)) (sf : ι → List Value)
    (after : ∀ (j : ι) (H : Heap) (locs : List Loc) (ls : Array Slot), φ j → va_P G.1 vwCl (wf j) H → va_D A (wf j) → va_S A s.heap H locs → lv_has ls nL (lf j) → W p l e R s m args below meth c H locs cells slots Q (F0 m pc2 ls (sf j)))
    (before : (∀ (j : ι) (H : Heap) (locs : List Loc) (ls : Array Slot), φ j → va_P G.1 vwCl (wf j) H → va_D A (wf j) → va_S A s.heap H locs → lv_has ls nL (lf j) → W p l e R s m args below meth c H locs cells slots Q (F0 m pc2 ls (sf j))) → W p l e R s m args below meth c H locs cells slots Q (F0 m pc ls st)) : W p l e R s m args below meth c H locs cells slots Q (F0 m pc ls st) := before after
theorem w_top {x : Int32} (y : Int32) (h : x = y) (kk : W p l e R s m args below meth c H locs cells slots Q (F0 m pc ls (.int y :: rest))) : W p l e R s m args below meth c H locs cells slots Q (F0 m pc ls (.int x :: rest)) := by rw [h]; exact kk
theorem w_topl {x : Int64} (y : Int64) (h : x = y) (kk : W p l e R s m args below meth c H locs cells slots Q (F0 m pc ls (.long y :: rest))) : W p l e R s m args below meth c H locs cells slots Q (F0 m pc ls (.long x :: rest)) := by rw [h]; exact kk
end WCL
