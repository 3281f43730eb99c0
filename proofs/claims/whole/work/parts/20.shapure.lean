/-! SHA-256, the words: what class and model both do -/
def rot (b : Nat) (x : Int32) : Int32 := ush x (nI b) ||| (x <<< ((-(nI b)) &&& 31))
theorem rot_b : ∀ b, b < 32 → nI (32 - b) &&& 31 = (-(nI b)) &&& (31 : Int32) := by decide +kernel
def mw (g : Nat → Int32) (k : Nat) : Int32 := (((g k <<< (nI 24 &&& 31)) ||| (g (k + 1) <<< (nI 16 &&& 31))) ||| (g (k + 2) <<< (nI 8 &&& 31))) ||| g (k + 3)
theorem mw_congr {g h : Nat → Int32} {k : Nat} (h0 : g k = h k) (h1 : g (k + 1) = h (k + 1)) (h2 : g (k + 2) = h (k + 2)) (h3 : g (k + 3) = h (k + 3)) : mw g k = mw h k := by simp only [mw, h0, h1, h2, h3]
def sg0 (x : Int32) : Int32 := (rot 7 x ^^^ rot 18 x) ^^^ ush x (nI 3)
def sg1 (x : Int32) : Int32 := (rot 17 x ^^^ rot 19 x) ^^^ ush x (nI 10)
def shN (w : Nat → Int32) (i : Nat) : Int32 := ((w (i - 16) + sg0 (w (i - 15))) + w (i - 7)) + sg1 (w (i - 2))
/-- the words behind the first sixteen, one by one -/
def shA (u : Nat → Int32) : Nat → Nat → Int32
  | 0 => u
  | k + 1 => upd (shA u k) (16 + k) (shN (shA u k) (16 + k))
theorem shA_congr {u v : Nat → Int32} (h : ∀ j, j < 16 → u j = v j) : ∀ n j, j < 16 + n → shA u n j = shA v n j := by
  intro n
  induction n with
  | zero => intro j hj; exact h j hj
  | succ n ih =>
    intro j hj
    have e : shN (shA u n) (16 + n) = shN (shA v n) (16 + n) := by
      simp only [shN]
      rw [ih _ (by omega), ih _ (by omega), ih _ (by omega), ih _ (by omega)]
    simp only [shA, upd]
    by_cases hq : j = 16 + n
    · rw [if_pos hq, if_pos hq, e]
    · rw [if_neg hq, if_neg hq, ih j (by omega)]
def shT1 (w : Nat → Int32) (k : Nat) (v : Nat → Int32) : Int32 := (((v 7 + ((rot 6 (v 4) ^^^ rot 11 (v 4)) ^^^ rot 25 (v 4))) + ((v 4 &&& v 5) ^^^ ((v 4 ^^^ (-1)) &&& v 6))) + nI (tbV 9 k)) + w k
def shT2 (v : Nat → Int32) : Int32 := ((rot 2 (v 0) ^^^ rot 13 (v 0)) ^^^ rot 22 (v 0)) + (((v 0 &&& v 1) ^^^ (v 0 &&& v 2)) ^^^ (v 1 &&& v 2))
def shS (w : Nat → Int32) (k : Nat) (v : Nat → Int32) : Nat → Int32 := fun j => match j with
  | 0 => shT1 w k v + shT2 v
  | 1 => v 0
  | 2 => v 1
  | 3 => v 2
  | 4 => v 3 + shT1 w k v
  | 5 => v 4
  | 6 => v 5
  | _ => v 6
def shR (w : Nat → Int32) (v : Nat → Int32) : Nat → Nat → Int32
  | 0 => v
  | k + 1 => shS w k (shR w v k)
theorem shR_congr {w x : Nat → Int32} {v : Nat → Int32} : ∀ n, (∀ j, j < n → w j = x j) → shR w v n = shR x v n := by
  intro n
  induction n with
  | zero => intro _; rfl
  | succ n ih =>
    intro h
    have e : shT1 w n (shR x v n) = shT1 x n (shR x v n) := by simp only [shT1]; rw [h n (by omega)]
    funext j
    simp only [shR]
    rw [ih (fun j hj => h j (by omega))]
    match j with
    | 0 => simp only [shS, e]
    | 1 => rfl
    | 2 => rfl
    | 3 => rfl
    | 4 => simp only [shS, e]
    | 5 => rfl
    | 6 => rfl
    | j + 7 => rfl
/-- one block: the state behind it -/
def shB (u : Nat → Int32) (v : Nat → Int32) : Nat → Int32 := fun j => v j + shR (shA u 48) v 64 j
/-- the state behind n blocks of the bytes g -/
def shH (g : Nat → Int32) : Nat → Nat → Int32
  | 0 => fun j => nI (tbV 8 j)
  | n + 1 => shB (fun k => mw g (64 * n + 4 * k)) (shH g n)
theorem shB_congr {u x v : Nat → Int32} (h : ∀ j, j < 16 → u j = x j) : shB u v = shB x v := by
  have e : shR (shA u 48) v 64 = shR (shA x 48) v 64 := shR_congr 64 (fun j hj => shA_congr h 48 j (by omega))
  funext j
  show v j + shR (shA u 48) v 64 j = v j + shR (shA x 48) v 64 j
  rw [e]
theorem shH_congr {g h : Nat → Int32} : ∀ n, (∀ j, j < 64 * n → g j = h j) → shH g n = shH h n := by
  intro n
  induction n with
  | zero => intro _; rfl
  | succ n ih =>
    intro q
    simp only [shH]
    rw [ih (fun j hj => q j (by omega))]
    exact shB_congr (fun j hj => mw_congr (q _ (by omega)) (q _ (by omega)) (q _ (by omega)) (q _ (by omega)))
theorem fl_s0 {g f : Nat → Int32} {v : Int32} (h : v = g 0) : upd f 0 v = fl 1 g f := by
  have q := fl_s (k := 0) (g := g) (f := f) h
  rw [fl_0] at q
  exact q
theorem shH_s {g : Nat → Int32} {n : Nat} : shH g (n + 1) = fun j_ => shH g n j_ + shR (shA (fun i_ => mw g (64 * n + 4 * i_)) 48) (shH g n) 64 j_ := rfl
