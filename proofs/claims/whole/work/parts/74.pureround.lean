/-! DES: the rounds -/
def glL : List Nat := [23, 15, 9, 1, 19, 4, 30, 14, 8, 16, 2, 26, 6, 12, 22, 31, 24, 18, 7, 29, 28, 3, 21, 13, 0, 20, 10, 25, 27, 5, 17, 11]
def glN (q : Nat) : Nat := glL.getD q 0
theorem gl_eq : ∀ q, q < 32 → glR 32 q = nI (glN q) := by decide +kernel
theorem gl_lt : ∀ q, q < 32 → glN q < 32 := by decide +kernel
def mN (four b : Nat) : Nat → Nat
  | 0 => 0
  | t + 1 => mN four b t ||| (four / 2 ^ (3 - t) % 2 ^ 1) * 2 ^ glN (b * 4 + t)
theorem mN_b : ∀ four, four < 16 → ∀ b, b < 8 → ∀ k, k < 32 → bx (mN four b 4) (31 - k) = if (tbV 6 k - 1) / 4 = b then four / 2 ^ (3 - (tbV 6 k - 1) % 4) % 2 ^ 1 else 0 := by decide +kernel
theorem v1_lt {v g : Nat} (hv : v < 2) (hg : g < 32) : v * 2 ^ g < 2 ^ 32 := by
  have h1 : v * 2 ^ g ≤ 1 * 2 ^ g := Nat.mul_le_mul_right _ (by omega)
  have h2 : 2 ^ g ≤ 2 ^ 31 := Nat.pow_le_pow_right (by decide) (by omega)
  omega
theorem mN_lt {four b : Nat} (hb : b < 8) : ∀ t, t ≤ 4 → mN four b t < 2 ^ 32 := by
  intro t
  induction t with
  | zero => intro _; exact (by decide : (0 : Nat) < 2 ^ 32)
  | succ t ih =>
    intro ht
    exact Nat.or_lt_two_pow (ih (by omega)) (v1_lt (Nat.mod_lt _ (by decide)) (gl_lt _ (by omega)))
theorem mbB_n {i : Nat} (hi : i < 512) : ∀ t, t ≤ 4 → mbB i t = nI (mN (tbV 7 (mbX i)) (i / 2 ^ 6) t) := by
  intro t
  induction t with
  | zero => intro _; rfl
  | succ t ih =>
    intro ht
    simp only [mbB, mN]
    have hq : i / 2 ^ 6 * 4 + t < 32 := by omega
    rw [ih (by omega), gl_eq _ hq, shl_n (gl_lt _ hq) (v1_lt (Nat.mod_lt _ (by decide)) (gl_lt _ hq)), nx_or]
theorem un_mb {b x : Nat} (hb : b < 8) (hx : x < 64) : un (mbI (b * 64 + x)) = mN (tbV 7 (mbX (b * 64 + x))) b 4 := by
  unfold mbI
  rw [mbB_n (by omega) 4 (Nat.le_refl _), show (b * 64 + x) / 2 ^ 6 = b by omega, un_nI (mN_lt hb 4 (Nat.le_refl _))]
theorem mbX_s : ∀ x, x < 64 → (2 * (x / 2 ^ 5 % 2) + x % 2) * 16 + x / 2 ^ 1 % 2 ^ 4 = 16 * (2 * bx x 5 + bx x 0) + (((8 * bx x 4 + 4 * bx x 3) + 2 * bx x 2) + bx x 1) := by decide +kernel
theorem mbX_w {b x : Nat} {w : Nat → Nat} (hb : b < 8) (h : BT 6 x (fun i => w (6 * b + i))) : mbX (b * 64 + x) = sxN w b := by
  have hx : x < 64 := h.1
  have h0 := h.2 0 (by decide)
  have h1 := h.2 1 (by decide)
  have h2 := h.2 2 (by decide)
  have h3 := h.2 3 (by decide)
  have h4 := h.2 4 (by decide)
  have h5 := h.2 5 (by decide)
  try dsimp only at h0 h1 h2 h3 h4 h5
  have q := mbX_s x hx
  unfold mbX sxN
  rw [show 6 - 1 - 0 = 5 from rfl, Nat.add_zero] at h0
  rw [show 6 - 1 - 1 = 4 from rfl] at h1
  rw [show 6 - 1 - 2 = 3 from rfl] at h2
  rw [show 6 - 1 - 3 = 2 from rfl] at h3
  rw [show 6 - 1 - 4 = 1 from rfl] at h4
  rw [show 6 - 1 - 5 = 0 from rfl] at h5
  rw [← h0, ← h1, ← h2, ← h3, ← h4, ← h5, show (b * 64 + x) / 2 ^ 6 = b by omega, show (b * 64 + x) / 2 ^ 5 % 2 = x / 2 ^ 5 % 2 by omega, show (b * 64 + x) % 2 = x % 2 by omega, show (b * 64 + x) / 2 ^ 1 % 2 ^ 4 = x / 2 ^ 1 % 2 ^ 4 by omega]
  omega
theorem rg_B {x : Int32} {g : Nat → Nat} (h : BT 32 (un x) g) : BT 34 (ln (rgI x)) (fun m => g ((m + 31) % 32)) := by
  have hx := un_lt x
  have e : ln (rgI x) = ((un x % 2) * 2 ^ 33 ||| un x * 2 ^ 1) ||| un x / 2 ^ 31 := by
    unfold rgI
    have e1 : x &&& nI 1 = nI (un x % 2 ^ 1) := pk_and x 1 (by decide)
    have e2 : un (nI (un x % 2 ^ 1)) = un x % 2 := by rw [un_nI (by omega)]
    have e3 : un (ush x (nI 31)) = un x / 2 ^ 31 := by rw [ush_un x (by decide), un_nI (by omega)]
    rw [ln_or, ln_or, ln_lsl _ (by decide), ln_lsl _ (by decide), ln_m, e1, ln_i (by rw [e2]; omega), e2, ln_i (by rw [e3]; omega), e3, Nat.mod_eq_of_lt (show un x % 2 * 2 ^ 33 < 2 ^ 64 by omega), Nat.mod_eq_of_lt (show un x * 2 ^ 1 < 2 ^ 64 by omega)]
  rw [e]
  refine ⟨Nat.or_lt_two_pow (Nat.or_lt_two_pow (by omega) (by omega)) (by omega), fun m hm => ?_⟩
  try dsimp only
  rw [bx_or, bx_or, bx_1 (show un x % 2 < 2 by omega), bx_mul, bx_div]
  by_cases h0 : m = 0
  · subst h0
    rw [if_pos (by decide), if_pos (by decide), bx_hi (k := 34 - 1 - 0 - 1) hx (by decide), bx_hi (k := 31 + (34 - 1 - 0)) hx (by decide), Nat.or_zero, Nat.or_zero]
    have q := h.2 31 (by decide)
    rw [show (0 + 31) % 32 = 31 from rfl, ← q]
    show un x % 2 = un x / 2 ^ 0 % 2
    rw [Nat.pow_zero, Nat.div_one]
  · rw [if_neg (by omega), Nat.zero_or]
    by_cases h1 : m = 33
    · subst h1
      rw [if_neg (by decide), Nat.zero_or]
      exact h.2 0 (by decide)
    · rw [if_pos (by omega), bx_hi (k := 31 + (34 - 1 - m)) hx (by omega), Nat.or_zero, ← h.2 ((m + 31) % 32) (by omega)]
      congr 1
      omega
theorem sp_m : ∀ b, b < 8 → ∀ i, i < 6 → 32 + spV (6 * b + i) - 1 = 32 + (4 * b + i + 31) % 32 := by decide +kernel
theorem sx_B {fk : Nat → Int32} {x : Int32} {bt sk : Nat → Nat} {q b : Nat} (h : BT 32 (un x) (fun j => bt (32 + j))) (hk : BT 6 (un (fk (q * 8 + b))) (fun i => sk (48 * q + (6 * b + i)))) (hb : b < 8) : BT 6 (sxI fk x q b) (fun i => wdN bt sk (48 * q) (6 * b + i)) := by
  have r := rg_B h
  have e : sxI fk x q b = (ln (rgI x) / 2 ^ (28 - 4 * b) ^^^ un (fk (q * 8 + b))) % 2 ^ 6 := by
    show un (((lus (rgI x) (nI (28 - 4 * b))).toInt32) ^^^ fk (q * 8 + b)) % 2 ^ 6 = _
    rw [un_xor, un_l, ln_lus _ (by omega), Nat.xor_mod_two_pow, Nat.mod_mod_of_dvd _ (Nat.pow_dvd_pow 2 (show 6 ≤ 32 by decide)), ← Nat.xor_mod_two_pow]
  rw [e]
  refine ⟨Nat.mod_lt _ (by decide), fun i hi => ?_⟩
  have q1 := r.2 (4 * b + i) (by omega)
  have q2 := hk.2 i hi
  try dsimp only at q1 q2
  try dsimp only
  rw [bx_mod (by omega), bx_xor, bx_div, q2, show 28 - 4 * b + (6 - 1 - i) = 34 - 1 - (4 * b + i) by omega, q1]
  unfold wdN
  rw [sp_m b hb i hi]
theorem sc_B {fk : Nat → Int32} {x : Int32} {bt sk : Nat → Nat} {q : Nat} (h : BT 32 (un x) (fun j => bt (32 + j))) (hk : ∀ b, b < 8 → BT 6 (un (fk (q * 8 + b))) (fun i => sk (48 * q + (6 * b + i)))) : BT 32 (un (scI fk mbI x q 8)) (fun k => hfN (wdN bt sk (48 * q)) (tbV 6 k - 1)) := by
  refine ⟨un_lt _, fun k hk9 => ?_⟩
  have hind : ∀ n, n ≤ 8 → bx (un (scI fk mbI x q n)) (31 - k) = if (tbV 6 k - 1) / 4 < n then hfN (wdN bt sk (48 * q)) (tbV 6 k - 1) else 0 := by
    intro n
    induction n with
    | zero => intro _; rw [if_neg (by omega)]; show bx (un (nI 0)) _ = 0; rw [un_nI (by decide), bx_0]
    | succ n ih =>
      intro hn
      have sx := sx_B h (hk n (by omega)) (by omega : n < 8)
      simp only [scI]
      have h16 : tbV 7 (mbX (n * 64 + sxI fk x q n)) < 16 := tb7_l9 _ (mbX_lt (by have := sx_lt fk x q n; omega))
      rw [un_or, bx_or, ih (by omega), un_mb (by omega) (sx_lt _ _ _ _), mN_b _ h16 n (by omega) k hk9, mbX_w (by omega) sx]
      by_cases h1 : (tbV 6 k - 1) / 4 < n
      · rw [if_pos h1, if_neg (show ¬ (tbV 6 k - 1) / 4 = n by omega), if_pos (show (tbV 6 k - 1) / 4 < n + 1 by omega), Nat.or_zero]
      · rw [if_neg h1, Nat.zero_or]
        by_cases h2 : (tbV 6 k - 1) / 4 = n
        · rw [if_pos h2, if_pos (by omega)]
          unfold hfN
          rw [h2]
        · rw [if_neg h2, if_neg (by omega)]
  have h6 := tb6_i9 k hk9
  have q8 := hind 8 (Nat.le_refl _)
  rw [if_pos (by omega)] at q8
  exact q8
/-- the rounds from any bits -/
def rdG (g sk ix : Nat → Nat) : Nat → Nat → Nat
  | 0 => g
  | r + 1 => stN (rdG g sk ix r) sk (48 * ix r)
theorem rdN_G (f : Nat → Int32) (d : Nat) (sk ix : Nat → Nat) : ∀ r, rdN f d sk ix r = rdG (bI f d) sk ix r := by
  intro r
  induction r with
  | zero => rfl
  | succ r ih => simp only [rdN, rdG]; rw [ih]
theorem rd_B {fk : Nat → Int32} {ix sk g : Nat → Nat} {y x : Int32} (hk : ∀ q, q < 16 → ∀ b, b < 8 → BT 6 (un (fk (q * 8 + b))) (fun i => sk (48 * q + (6 * b + i)))) (hix : ∀ r, r < 16 → ix r < 16) (hy : BT 32 (un y) g) (hx : BT 32 (un x) (fun j => g (32 + j))) : ∀ r, r ≤ 16 → BT 32 (un (rdI fk mbI ix y x r).1) (rdG g sk ix r) ∧ BT 32 (un (rdI fk mbI ix y x r).2) (fun j => rdG g sk ix r (32 + j)) := by
  intro r
  induction r with
  | zero => intro _; exact ⟨hy, hx⟩
  | succ r ih =>
    intro hr
    obtain ⟨h1, h2⟩ := ih (by omega)
    have hs := sc_B h2 (hk (ix r) (hix r (by omega)))
    refine ⟨h2.c (fun j hj => ?_), ?_⟩
    · simp only [rdG, stN]; rw [if_pos hj]
    · simp only [rdI]
      rw [un_xor]
      refine (h1.xor hs).c (fun j hj => ?_)
      simp only [rdG, stN]
      rw [if_neg (by omega), show 32 + j - 32 = j by omega]
      rfl
theorem rds_B {fk : Nat → Int32} {ix sk g : Nat → Nat} {v : Int64} (hk : ∀ q, q < 16 → ∀ b, b < 8 → BT 6 (un (fk (q * 8 + b))) (fun i => sk (48 * q + (6 * b + i)))) (hix : ∀ r, r < 16 → ix r < 16) (h : BT 64 (ln v) g) : BT 64 (ln (rds fk mbI ix v)) (vN (rdG g sk ix 16)) := by
  have h64 : BT (32 + 32) (ln v) g := h
  have hl := ln_lt v
  have hy : BT 32 (un (lus v (nI 32)).toInt32) g := by
    rw [un_l, ln_lus _ (by decide), Nat.mod_eq_of_lt (by omega)]
    exact h64.hi
  have hx : BT 32 (un v.toInt32) (fun j => g (32 + j)) := by
    rw [un_l]
    exact h64.lo
  obtain ⟨h1, h2⟩ := rd_B hk hix hy hx 16 (Nat.le_refl _)
  unfold rds rdO
  generalize rdI fk mbI ix (lus v (nI 32)).toInt32 v.toInt32 16 = p at h1 h2
  have e : ln ((lsl (p.2.toInt64) (nI 32)) ||| (p.1.toInt64 &&& lN 4294967295)) = un p.2 * 2 ^ 32 + un p.1 := by
    rw [ln_or, ln_m, ln_lsl _ (by decide)]
    have e3 : ln p.2.toInt64 * 2 ^ 32 % 2 ^ 64 = un p.2 * 2 ^ 32 := by
      have h5 : ln p.2.toInt64 % 2 ^ 32 = un p.2 := by
        rw [← ln_m, ln_and, ln_lN (by decide)]
        exact (Nat.and_two_pow_sub_one_eq_mod _ 32).symm
      omega
    rw [e3]
    exact or_p h1.1
  rw [e]
  refine (h2.app h1).c (fun j hj => ?_)
  try dsimp only
  unfold vN
  by_cases hj2 : j < 32
  · rw [if_pos hj2, if_pos hj2]
  · rw [if_neg hj2, if_neg hj2]
