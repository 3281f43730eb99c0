/-! the calls' answers and rows, alike -/
theorem RB.fa0 {n : Nat} {y x f g : Nat → Int32} (h : RB n y x) : RB n (fa 0 n y f) (fa 0 n x g) := h.c (fun j hj => fa0_at hj) (fun j hj => fa0_at hj)
theorem RB.fl0 {n : Nat} {y x f g : Nat → Int32} (h : RB n y x) : RB n (fa 0 n y f) (fl n x g) := h.c (fun j hj => fa0_at hj) (fun j hj => fl_in hj)
theorem RB.b255 {n : Nat} {y x : Nat → Int32} (h : RB n y x) : RB n (b255 y) x := h.c (fun j hj => (h j hj).1) (fun j _ => rfl)
def CP (B : Nat) (cd md : (Nat → Int32) → Nat → Int32) : Prop := ∀ y x, RB B y x → RB B (cd y) (md x)
theorem blkR {B N : Nat} {e e' : Nat → Nat → Int32} (hB : 0 < B) (h : ∀ i, i < N → RB B (e i) (e' i)) : RB (B * N) (blk B (fun k_ => Jvm.Pilot.CCipherBoxLaw_law_r7346_52bd48.b255 (e k_))) (blk B e') := by
  intro j hj
  have h1 : j / B < N := Nat.div_lt_of_lt_mul hj
  exact (h _ h1).b255 (j % B) (Nat.mod_lt _ hB)
theorem ldI_R {T B i : Nat} {f x : Nat → Int32} (h : RB T f x) (hi : B * i + B ≤ T) : RB B (ldI f T (B * i)) (fun j_ => bN (x (B * i + j_))) := by
  intro j hj
  obtain ⟨h1, h2⟩ := h (B * i + j) (by omega)
  simp only [ldI]
  rw [rAt_in (by omega), h2, bN_bN]
  exact ⟨h1, rfl⟩
theorem mul_le1 {B i N : Nat} (h : i < N) : B * i + B ≤ B * N := by
  have : B * (i + 1) ≤ B * N := Nat.mul_le_mul_left B h
  rw [Nat.mul_succ] at this
  exact this
theorem code_e {B N T : Nat} {cd md : (Nat → Int32) → Nat → Int32} {ft mt fo mo : Nat → Int32} (hB : 0 < B) (hT : B * N = T) (hcp : CP B cd md) (h : RB T ft mt) : RB T (fa 0 (B * N) (blk B (fun k_ => b255 (cd (ldI ft T (B * k_))))) fo) (fa 0 T (blk B (fun i_ => md (fun j_ => bN (mt (B * i_ + j_))))) mo) := by
  rw [hT]
  have q := blkR (N := N) (e := fun k_ => cd (ldI ft T (B * k_))) (e' := fun i_ => md (fun j_ => bN (mt (B * i_ + j_)))) hB (fun i hi => hcp _ _ (ldI_R h (by have := mul_le1 (B := B) hi; omega)))
  rw [hT] at q
  exact q.fa0
theorem ct_R {B N T : Nat} {cd md : (Nat → Int32) → Nat → Int32} {ft mt y0 x0 : Nat → Int32} (hT : B * N ≤ T) (hcp : CP B cd md) (h : RB T ft mt) (h0 : RB B y0 x0) : ∀ i, i ≤ N → RB B (ctR cd B ft T y0 i) (mCh md B mt x0 i) := by
  intro i
  induction i with
  | zero => intro _; exact h0
  | succ i ih =>
    intro hi
    refine hcp _ _ (fun j hj => ?_)
    obtain ⟨h1, h2⟩ := ih (by omega) j hj
    have hm := mul_le1 (B := B) (show i < N by omega)
    obtain ⟨h3, h4⟩ := h (B * i + j) (by omega)
    simp only [xrI]
    rw [rAt_in (by omega), h4, h2, bN_bN, bN_xor, Int32.xor_comm (ft _)]
    exact ⟨isB_xor h1 h3, rfl⟩
theorem code_c {B N T : Nat} {cd md : (Nat → Int32) → Nat → Int32} {ft mt fo mo y0 x0 : Nat → Int32} (hB : 0 < B) (hT : B * N = T) (hcp : CP B cd md) (h : RB T ft mt) (h0 : RB B y0 x0) : RB T (fa 0 (B * N) (blk B (fun k_ => b255 (ctR cd B ft T y0 (k_ + 1)))) fo) (fa 0 T (blk B (fun i_ => mCh md B mt x0 (i_ + 1))) mo) := by
  rw [hT]
  have q := blkR (N := N) (e := fun k_ => ctR cd B ft T y0 (k_ + 1)) (e' := fun i_ => mCh md B mt x0 (i_ + 1)) hB (fun i hi => ct_R (Nat.le_of_eq hT) hcp h h0 (i + 1) hi)
  rw [hT] at q
  exact q.fa0
theorem code_b {B N T : Nat} {cd md : (Nat → Int32) → Nat → Int32} {ft mt fo mo fg mg : Nat → Int32} (hB : 0 < B) (hB16 : B ≤ 16) (hT : B * N = T) (hcp : CP B cd md) (h : RB T ft mt) (h0 : RB 16 fg mg) : RB T (fa 0 (B * N) (blk B (fun k_ => b255 (if k_ = 0 then xrI (cd (ldI ft T (B * k_))) fg 16 0 else xrI (cd (ldI ft T (B * k_))) ft T (B * (k_ - 1))))) fo) (fa 0 T (blk B (mCb md B mt mg)) mo) := by
  rw [hT]
  have q := blkR (N := N) (e := fun k_ => if k_ = 0 then xrI (cd (ldI ft T (B * k_))) fg 16 0 else xrI (cd (ldI ft T (B * k_))) ft T (B * (k_ - 1))) (e' := mCb md B mt mg) hB (fun i hi => ?_)
  · rw [hT] at q
    exact q.fa0
  · have hm := mul_le1 (B := B) hi
    have hc := hcp _ _ (ldI_R (B := B) (i := i) h (by omega))
    intro j hj
    obtain ⟨h1, h2⟩ := hc j hj
    simp only [mCb]
    rw [h2]
    by_cases hi0 : i = 0
    · subst hi0
      obtain ⟨h3, h4⟩ := h0 j (by omega)
      rw [if_pos (Nat.mul_zero B), if_pos rfl, h4, bN_xor]
      simp only [xrI]
      rw [Nat.zero_add, rAt_in (by omega)]
      exact ⟨isB_xor h1 h3, rfl⟩
    · obtain ⟨k, rfl⟩ : ∃ k, i = k + 1 := ⟨i - 1, by omega⟩
      have e : B * (k + 1) - B + j = B * k + j := by rw [Nat.mul_succ]; omega
      have hk := mul_le1 (B := B) (show k < N by omega)
      obtain ⟨h3, h4⟩ := h (B * k + j) (by omega)
      rw [if_neg (show ¬ B * (k + 1) = 0 by rw [Nat.mul_succ]; omega), if_neg hi0, e, h4, bN_xor]
      simp only [xrI]
      rw [show k + 1 - 1 = k by omega, rAt_in (by omega)]
      exact ⟨isB_xor h1 h3, rfl⟩
theorem ldI_0 {B : Nat} {fg mg : Nat → Int32} (hB : B ≤ 16) (h : RB 16 fg mg) : RB B (ldI fg 16 0) mg := by
  intro j hj
  simp only [ldI]
  rw [Nat.zero_add, rAt_in (by omega)]
  exact h j (by omega)
/-- a message padded by 128 and 0s -/
theorem pad_R {T B : Nat} {ft mt fw fm : Nat → Int32} (h : RB T ft mt) : RB ((T + 1) + pdN B (T + 1)) (fa (T + 1) (pdN B (T + 1)) (fun _ => 0) (upd (fa 0 T ft fw) T (nI 128))) (fa (T + 1) (pdN B (T + 1)) (fun j_ => bN (nI 0)) (upd (fa 0 T (fun j_ => bN (mt j_)) fm) T (bN (nI 128)))) := by
  intro j hj
  by_cases h1 : T + 1 ≤ j
  · rw [fa_in h1 hj, fa_in h1 hj]; exact ⟨isB_0, rfl⟩
  · rw [fa_out (Or.inl (by omega)), fa_out (Or.inl (by omega))]
    simp only [upd]
    by_cases h2 : j = T
    · rw [if_pos h2, if_pos h2]; exact ⟨isB_nI (by decide), rfl⟩
    · rw [if_neg h2, if_neg h2, fa0_at (by omega), fa0_at (by omega)]
      exact h.bN j (by omega)
theorem mc_R {B N T : Nat} {cd md : (Nat → Int32) → Nat → Int32} {g M y0 x0 : Nat → Int32} (hT : B * N ≤ T) (hcp : CP B cd md) (h : ∀ j, j < B * N → isB (g j) ∧ M j = bN (g j)) (h0 : RB B y0 x0) : ∀ i, i ≤ N → RB B (ctR cd B g T y0 i) (mcR md B M x0 i) := by
  intro i
  induction i with
  | zero => intro _; exact h0
  | succ i ih =>
    intro hi
    refine hcp _ _ (fun j hj => ?_)
    obtain ⟨h1, h2⟩ := ih (by omega) j hj
    have hm := mul_le1 (B := B) (show i < N by omega)
    obtain ⟨h3, h4⟩ := h (B * i + j) (by omega)
    simp only [xrI]
    rw [rAt_in (by omega), h4, h2, bN_xor]
    exact ⟨isB_xor h1 h3, rfl⟩
theorem z_R (B : Nat) : RB B (fun _ => nI 0) (fun _ => bN (nI 0)) := fun j _ => ⟨isB_0, rfl⟩
theorem pd_mod {B q : Nat} (hB : B = 8 ∨ B = 16) : (q + pdN B q) % B = 0 ∧ pdN B q < B := by
  unfold pdN
  rcases hB with rfl | rfl <;> omega
/-- the code of kind 0 -/
theorem mac0_R {T : Nat} {f1 f2 mk ft mt fw fm fo mo : Nat → Int32} (h1 : KD f1 mk 0) (h2 : KD f2 mk (0 + 8)) (h : RB T ft mt) : RB 8 (fa 0 8 (b255 (ctR (d3T f1 f2 mbI) 8 (fa (T + 1) (pdN 8 (T + 1)) (fun _ => 0) (upd (fa 0 T ft fw) T (nI 128))) ((T + 1) + pdN 8 (T + 1)) (fun _ => nI 0) (((T + 1) + pdN 8 (T + 1)) / 2 ^ 3))) fo) (fl 8 (fun j_ => bN (mcR (d3X mk 0) 8 (fa (T + 1) (pdN 8 (T + 1)) (fun j_ => bN (nI 0)) (upd (fa 0 T (fun j_ => bN (mt j_)) fm) T (bN (nI 128)))) (fun _ => bN (nI 0)) (((T + 1) + pdN 8 (T + 1)) / 8) j_)) mo) := by
  have hp := pd_mod (B := 8) (q := T + 1) (Or.inl rfl)
  have q := mc_R (B := 8) (N := ((T + 1) + pdN 8 (T + 1)) / 8) (T := (T + 1) + pdN 8 (T + 1)) (by omega) (fun y x hh => d3_R h1 h2 hh) (fun j hj => pad_R (B := 8) (fw := fw) (fm := fm) h j (by omega)) (z_R 8) _ (Nat.le_refl _)
  exact q.b255.bN.fl0
