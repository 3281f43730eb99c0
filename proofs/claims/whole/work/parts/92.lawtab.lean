theorem inlX0 : ∀ w ∈ wsX00, w ∈ wsL_law := fun _ h => List.mem_append_left _ (List.mem_append_left _ (List.mem_append_left _ (List.mem_append_left _ (List.mem_append_right _ h))))
theorem inlX2 : ∀ w ∈ wsX20, w ∈ wsL_law := fun _ h => List.mem_append_left _ (List.mem_append_left _ (List.mem_append_left _ (List.mem_append_right _ h)))
theorem inlX3 : ∀ w ∈ wsX30, w ∈ wsL_law := fun _ h => List.mem_append_left _ (List.mem_append_right _ h)
theorem inlX4 : ∀ w ∈ wsX40, w ∈ wsL_law := fun _ h => List.mem_append_left _ (List.mem_append_left _ (List.mem_append_left _ (List.mem_append_left _ (List.mem_append_left _ (List.mem_append_right _ h)))))
theorem inlX5 : ∀ w ∈ wsX50, w ∈ wsL_law := fun _ h => List.mem_append_left _ (List.mem_append_left _ (List.mem_append_left _ (List.mem_append_left _ (List.mem_append_left _ (List.mem_append_left _ (List.mem_append_right _ h))))))
theorem inlX6 : ∀ w ∈ wsX60, w ∈ wsL_law := fun _ h => List.mem_append_left _ (List.mem_append_left _ (List.mem_append_right _ h))
theorem inlX7 : ∀ w ∈ wsX70, w ∈ wsL_law := fun _ h => List.mem_append_left _ (List.mem_append_left _ (List.mem_append_left _ (List.mem_append_left _ (List.mem_append_left _ (List.mem_append_left _ (List.mem_append_left _ (List.mem_append_left _ (List.mem_append_right _ h))))))))
theorem inlX8 : ∀ w ∈ wsX80, w ∈ wsL_law := fun _ h => List.mem_append_left _ (List.mem_append_left _ (List.mem_append_left _ (List.mem_append_left _ (List.mem_append_left _ (List.mem_append_left _ (List.mem_append_left _ (List.mem_append_right _ h)))))))
set_option maxRecDepth 100000 in
theorem tbf_0 : (List.range 256).map (fun j => Cond.eq (.elem (.static (tbC 0) (tbM 0) "[I") (.int (nI j))) (.int (nI (tbV 0 j)))) = ((flatC (Jvm.Cond.and given_1 narrow_1)).drop 557).take 256 := by rfl
set_option maxRecDepth 100000 in
theorem tbf_1 : (List.range 64).map (fun j => Cond.eq (.elem (.static (tbC 1) (tbM 1) "[I") (.int (nI j))) (.int (nI (tbV 1 j)))) = ((flatC (Jvm.Cond.and given_1 narrow_1)).drop 945).take 64 := by rfl
set_option maxRecDepth 100000 in
theorem tbf_2 : (List.range 64).map (fun j => Cond.eq (.elem (.static (tbC 2) (tbM 2) "[I") (.int (nI j))) (.int (nI (tbV 2 j)))) = ((flatC (Jvm.Cond.and given_1 narrow_1)).drop 1012).take 64 := by rfl
set_option maxRecDepth 100000 in
theorem tbf_3 : (List.range 56).map (fun j => Cond.eq (.elem (.static (tbC 3) (tbM 3) "[I") (.int (nI j))) (.int (nI (tbV 3 j)))) = ((flatC (Jvm.Cond.and given_1 narrow_1)).drop 816).take 56 := by rfl
set_option maxRecDepth 100000 in
theorem tbf_4 : (List.range 48).map (fun j => Cond.eq (.elem (.static (tbC 4) (tbM 4) "[I") (.int (nI j))) (.int (nI (tbV 4 j)))) = ((flatC (Jvm.Cond.and given_1 narrow_1)).drop 894).take 48 := by rfl
set_option maxRecDepth 100000 in
theorem tbf_5 : (List.range 16).map (fun j => Cond.eq (.elem (.static (tbC 5) (tbM 5) "[I") (.int (nI j))) (.int (nI (tbV 5 j)))) = ((flatC (Jvm.Cond.and given_1 narrow_1)).drop 875).take 16 := by rfl
set_option maxRecDepth 100000 in
theorem tbf_6 : (List.range 32).map (fun j => Cond.eq (.elem (.static (tbC 6) (tbM 6) "[I") (.int (nI j))) (.int (nI (tbV 6 j)))) = ((flatC (Jvm.Cond.and given_1 narrow_1)).drop 7).take 32 := by rfl
set_option maxRecDepth 100000 in
theorem tbf_7 : (List.range 512).map (fun j => Cond.eq (.elem (.static (tbC 7) (tbM 7) "[I") (.int (nI j))) (.int (nI (tbV 7 j)))) = ((flatC (Jvm.Cond.and given_1 narrow_1)).drop 42).take 512 := by rfl
set_option maxRecDepth 100000 in
theorem tbf_8 : (List.range 8).map (fun j => Cond.eq (.elem (.static (tbC 8) (tbM 8) "[I") (.int (nI j))) (.int (nI (tbV 8 j)))) = ((flatC (Jvm.Cond.and given_1 narrow_1)).drop 1079).take 8 := by rfl
set_option maxRecDepth 100000 in
theorem tbf_9 : (List.range 64).map (fun j => Cond.eq (.elem (.static (tbC 9) (tbM 9) "[I") (.int (nI j))) (.int (nI (tbV 9 j)))) = ((flatC (Jvm.Cond.and given_1 narrow_1)).drop 1090).take 64 := by rfl
theorem tab_of {b : Nat} {s : State} {A : Nat → Prop} {i N : Nat} (hN : tbL i = N) (hN31 : N < 2 ^ 31) (k : Nat) (hk : (List.range N).map (fun j => Cond.eq (.elem (.static (tbC i) (tbM i) "[I") (.int (nI j))) (.int (nI (tbV i j)))) = ((flatC (Jvm.Cond.and given_1 narrow_1)).drop k).take N) (hl : (Cond.laysStatic (tbC i) (tbM i) "[I").before #[Value.ref b] s = true) (hini : (Cond.initialized (tbC i)).before #[Value.ref b] s = true) (harr : (Cond.arrayOf (.static (tbC i) (tbM i) "[I") .int).before #[Value.ref b] s = true) (hlen : (Cond.eq (.length (.static (tbC i) (tbM i) "[I")) (.int (nI N))).before #[Value.ref b] s = true) (hF : ∀ c ∈ flatC (Jvm.Cond.and given_1 narrow_1), c.before #[Value.ref b] s = true) (hA : ∀ a : Nat, a < s.heap.size → ¬ A a) : ∃ t, va_Z (tbC i) (tbM i) "[I" (.ref t) A s s.heap ∧ va_T .int t (tbL i) (fun j => .int (nI (tbV i j))) A s s.heap := by
  have hel : ∀ j : Nat, j < N → (Term.elem (.static (tbC i) (tbM i) "[I") (.int (Int32.ofNat j))).eval #[Value.ref b] s none [] s = some (.int (nI (tbV i j))) := by
    intro j hj
    refine va_eqt (hF _ ?_)
    have h1 : Cond.eq (.elem (.static (tbC i) (tbM i) "[I") (.int (nI j))) (.int (nI (tbV i j))) ∈ ((flatC (Jvm.Cond.and given_1 narrow_1)).drop k).take N := by
      rw [← hk]
      exact List.mem_map.mpr ⟨j, List.mem_range.mpr hj, rfl⟩
    exact List.mem_of_mem_drop (List.mem_of_mem_take h1)
  obtain ⟨t, ht, hT⟩ := va_Tof (f := fun j => .int (nI (tbV i j))) (A := A) hN31 harr (va_eqt hlen) hel hA
  exact ⟨t, va_Zof hl hini ht hA, by rw [hN]; exact hT⟩
set_option maxRecDepth 100000 in
theorem tab_0 {b : Nat} {s : State} {A : Nat → Prop} (hts : ∀ w ∈ lw_tbl, w.before #[Value.ref b] s = true) (hF : ∀ c ∈ flatC (Jvm.Cond.and given_1 narrow_1), c.before #[Value.ref b] s = true) (hA : ∀ a : Nat, a < s.heap.size → ¬ A a) : ∃ t, va_Z (tbC 0) (tbM 0) "[I" (.ref t) A s s.heap ∧ va_T .int t (tbL 0) (fun j => .int (nI (tbV 0 j))) A s s.heap :=
  tab_of (N := 256) (by decide +kernel) (by decide) 557 tbf_0 (hts _ (List.mem_of_getElem? (i := 136) rfl)) (hts _ (List.mem_of_getElem? (i := 50) rfl)) (hF _ (List.mem_of_getElem? (i := 555) rfl)) (hF _ (List.mem_of_getElem? (i := 556) rfl)) hF hA
set_option maxRecDepth 100000 in
theorem tab_1 {b : Nat} {s : State} {A : Nat → Prop} (hts : ∀ w ∈ lw_tbl, w.before #[Value.ref b] s = true) (hF : ∀ c ∈ flatC (Jvm.Cond.and given_1 narrow_1), c.before #[Value.ref b] s = true) (hA : ∀ a : Nat, a < s.heap.size → ¬ A a) : ∃ t, va_Z (tbC 1) (tbM 1) "[I" (.ref t) A s s.heap ∧ va_T .int t (tbL 1) (fun j => .int (nI (tbV 1 j))) A s s.heap :=
  tab_of (N := 64) (by decide +kernel) (by decide) 945 tbf_1 (hts _ (List.mem_of_getElem? (i := 397) rfl)) (hts _ (List.mem_of_getElem? (i := 49) rfl)) (hF _ (List.mem_of_getElem? (i := 943) rfl)) (hF _ (List.mem_of_getElem? (i := 944) rfl)) hF hA
set_option maxRecDepth 100000 in
theorem tab_2 {b : Nat} {s : State} {A : Nat → Prop} (hts : ∀ w ∈ lw_tbl, w.before #[Value.ref b] s = true) (hF : ∀ c ∈ flatC (Jvm.Cond.and given_1 narrow_1), c.before #[Value.ref b] s = true) (hA : ∀ a : Nat, a < s.heap.size → ¬ A a) : ∃ t, va_Z (tbC 2) (tbM 2) "[I" (.ref t) A s s.heap ∧ va_T .int t (tbL 2) (fun j => .int (nI (tbV 2 j))) A s s.heap :=
  tab_of (N := 64) (by decide +kernel) (by decide) 1012 tbf_2 (hts _ (List.mem_of_getElem? (i := 409) rfl)) (hts _ (List.mem_of_getElem? (i := 49) rfl)) (hF _ (List.mem_of_getElem? (i := 1010) rfl)) (hF _ (List.mem_of_getElem? (i := 1011) rfl)) hF hA
set_option maxRecDepth 100000 in
theorem tab_3 {b : Nat} {s : State} {A : Nat → Prop} (hts : ∀ w ∈ lw_tbl, w.before #[Value.ref b] s = true) (hF : ∀ c ∈ flatC (Jvm.Cond.and given_1 narrow_1), c.before #[Value.ref b] s = true) (hA : ∀ a : Nat, a < s.heap.size → ¬ A a) : ∃ t, va_Z (tbC 3) (tbM 3) "[I" (.ref t) A s s.heap ∧ va_T .int t (tbL 3) (fun j => .int (nI (tbV 3 j))) A s s.heap :=
  tab_of (N := 56) (by decide +kernel) (by decide) 816 tbf_3 (hts _ (List.mem_of_getElem? (i := 291) rfl)) (hts _ (List.mem_of_getElem? (i := 49) rfl)) (hF _ (List.mem_of_getElem? (i := 814) rfl)) (hF _ (List.mem_of_getElem? (i := 815) rfl)) hF hA
set_option maxRecDepth 100000 in
theorem tab_4 {b : Nat} {s : State} {A : Nat → Prop} (hts : ∀ w ∈ lw_tbl, w.before #[Value.ref b] s = true) (hF : ∀ c ∈ flatC (Jvm.Cond.and given_1 narrow_1), c.before #[Value.ref b] s = true) (hA : ∀ a : Nat, a < s.heap.size → ¬ A a) : ∃ t, va_Z (tbC 4) (tbM 4) "[I" (.ref t) A s s.heap ∧ va_T .int t (tbL 4) (fun j => .int (nI (tbV 4 j))) A s s.heap :=
  tab_of (N := 48) (by decide +kernel) (by decide) 894 tbf_4 (hts _ (List.mem_of_getElem? (i := 302) rfl)) (hts _ (List.mem_of_getElem? (i := 49) rfl)) (hF _ (List.mem_of_getElem? (i := 892) rfl)) (hF _ (List.mem_of_getElem? (i := 893) rfl)) hF hA
set_option maxRecDepth 100000 in
theorem tab_5 {b : Nat} {s : State} {A : Nat → Prop} (hts : ∀ w ∈ lw_tbl, w.before #[Value.ref b] s = true) (hF : ∀ c ∈ flatC (Jvm.Cond.and given_1 narrow_1), c.before #[Value.ref b] s = true) (hA : ∀ a : Nat, a < s.heap.size → ¬ A a) : ∃ t, va_Z (tbC 5) (tbM 5) "[I" (.ref t) A s s.heap ∧ va_T .int t (tbL 5) (fun j => .int (nI (tbV 5 j))) A s s.heap :=
  tab_of (N := 16) (by decide +kernel) (by decide) 875 tbf_5 (hts _ (List.mem_of_getElem? (i := 297) rfl)) (hts _ (List.mem_of_getElem? (i := 49) rfl)) (hF _ (List.mem_of_getElem? (i := 873) rfl)) (hF _ (List.mem_of_getElem? (i := 874) rfl)) hF hA
set_option maxRecDepth 100000 in
theorem tab_6 {b : Nat} {s : State} {A : Nat → Prop} (hts : ∀ w ∈ lw_tbl, w.before #[Value.ref b] s = true) (hF : ∀ c ∈ flatC (Jvm.Cond.and given_1 narrow_1), c.before #[Value.ref b] s = true) (hA : ∀ a : Nat, a < s.heap.size → ¬ A a) : ∃ t, va_Z (tbC 6) (tbM 6) "[I" (.ref t) A s s.heap ∧ va_T .int t (tbL 6) (fun j => .int (nI (tbV 6 j))) A s s.heap :=
  tab_of (N := 32) (by decide +kernel) (by decide) 7 tbf_6 (hts _ (List.mem_of_getElem? (i := 95) rfl)) (hts _ (List.mem_of_getElem? (i := 49) rfl)) (hF _ (List.mem_of_getElem? (i := 5) rfl)) (hF _ (List.mem_of_getElem? (i := 6) rfl)) hF hA
set_option maxRecDepth 100000 in
theorem tab_7 {b : Nat} {s : State} {A : Nat → Prop} (hts : ∀ w ∈ lw_tbl, w.before #[Value.ref b] s = true) (hF : ∀ c ∈ flatC (Jvm.Cond.and given_1 narrow_1), c.before #[Value.ref b] s = true) (hA : ∀ a : Nat, a < s.heap.size → ¬ A a) : ∃ t, va_Z (tbC 7) (tbM 7) "[I" (.ref t) A s s.heap ∧ va_T .int t (tbL 7) (fun j => .int (nI (tbV 7 j))) A s s.heap :=
  tab_of (N := 512) (by decide +kernel) (by decide) 42 tbf_7 (hts _ (List.mem_of_getElem? (i := 97) rfl)) (hts _ (List.mem_of_getElem? (i := 49) rfl)) (hF _ (List.mem_of_getElem? (i := 40) rfl)) (hF _ (List.mem_of_getElem? (i := 41) rfl)) hF hA
set_option maxRecDepth 100000 in
theorem tab_8 {b : Nat} {s : State} {A : Nat → Prop} (hts : ∀ w ∈ lw_tbl, w.before #[Value.ref b] s = true) (hF : ∀ c ∈ flatC (Jvm.Cond.and given_1 narrow_1), c.before #[Value.ref b] s = true) (hA : ∀ a : Nat, a < s.heap.size → ¬ A a) : ∃ t, va_Z (tbC 8) (tbM 8) "[I" (.ref t) A s s.heap ∧ va_T .int t (tbL 8) (fun j => .int (nI (tbV 8 j))) A s s.heap :=
  tab_of (N := 8) (by decide +kernel) (by decide) 1079 tbf_8 (hts _ (List.mem_of_getElem? (i := 598) rfl)) (hts _ (List.mem_of_getElem? (i := 52) rfl)) (hF _ (List.mem_of_getElem? (i := 1077) rfl)) (hF _ (List.mem_of_getElem? (i := 1078) rfl)) hF hA
set_option maxRecDepth 100000 in
theorem tab_9 {b : Nat} {s : State} {A : Nat → Prop} (hts : ∀ w ∈ lw_tbl, w.before #[Value.ref b] s = true) (hF : ∀ c ∈ flatC (Jvm.Cond.and given_1 narrow_1), c.before #[Value.ref b] s = true) (hA : ∀ a : Nat, a < s.heap.size → ¬ A a) : ∃ t, va_Z (tbC 9) (tbM 9) "[I" (.ref t) A s s.heap ∧ va_T .int t (tbL 9) (fun j => .int (nI (tbV 9 j))) A s s.heap :=
  tab_of (N := 64) (by decide +kernel) (by decide) 1090 tbf_9 (hts _ (List.mem_of_getElem? (i := 611) rfl)) (hts _ (List.mem_of_getElem? (i := 52) rfl)) (hF _ (List.mem_of_getElem? (i := 1088) rfl)) (hF _ (List.mem_of_getElem? (i := 1089) rfl)) hF hA
