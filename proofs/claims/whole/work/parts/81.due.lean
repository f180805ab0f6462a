/-! what comes next by itself -/
section PD7
variable {p : Mem} {nd : Nat → Nat} {sv : Nat → Nat → Int32} {i V its rl B N T F t : Nat} {o h e μ : Mem}
theorem dueAt_ev {n : Nat} (H : R p nd sv i V its rl B o h e μ) (hi : i < 6) (hn : n < 64) : md_dueAt μ (nI i) (nI n) = if Fm μ i n 7 < 0 then (md_runs μ (nI i) (nI n)).bind fun k43 => if k43 = true then (if sv n 0 = 1 then (if Fm μ i n 3 < 0 then some (Fm μ i n 4) else some (Fm μ i n 3)) else if sv n 0 = 2 then some (Fm μ i n 1 + sv n 1) else (if sv n 2 < 0 then some (-1) else some (Fm μ i n 1 + sv n 2))) else some (-1) else some (Fm μ i n 9) := by
  unfold md_dueAt
  rw [at_1, at_7, at_3, at_4, at_9, H.1.np0 hi hn, H.1.np1 hi hn, H.1.np2 hi hn]
  simp only [Option.bind_some]
  rw [rd_nI (by omega) (by decide), rd_nI (by omega) (by decide), rd_nI (by omega) (by decide), rd_nI (by omega) (by decide), rd_nI (by omega) (by decide)]
  simp only [Option.bind_some]
theorem due_no {n : Nat} (H : R p nd sv i V its rl B o h e μ) (hi : i < 6) (hn : n < 64) (h7 : Fm μ i n 7 = -1) (hr : md_runs μ (nI i) (nI n) = some false) : md_dueAt μ (nI i) (nI n) = some (-1) := by
  rw [dueAt_ev H hi hn, h7, if_pos (by decide), hr, Option.bind_some, if_neg (by decide)]
theorem due_item {x : Nat} (H : R p nd sv i V its rl B o h e μ) (hi : i < 6) (hS : ST p nd sv its) (hset : SetR p e o its) (ht : e 1 2 = nI t) (htt : t < 131072) (hx : x < its) :
    (Gi (o 18 x) ∧ ∃ u : Nat, t < u ∧ u < 1048576 ∧ o 22 x = nI u ∧ md_dueAt μ (nI i) (nI (nd x)) = some (nI u)) ∨ ((¬ Gi (o 18 x) ∨ (Gi (o 18 x) ∧ o 22 x = nI 1000000000)) ∧ md_dueAt μ (nI i) (nI (nd x)) = some (-1)) := by
  have hir := H.2.2.2.2.2.1 x hx
  have h64 := hS.1.l64 hx
  have hsi := hS.2.1 x hx
  by_cases hg : Gi (o 18 x)
  · obtain ⟨s1, s2, s3⟩ := hset.1 x hx hg
    have hu : ∀ u : Nat, u < 1048576 → o 22 x = nI u → t < u := fun u u1 u2 => by
      rw [ht, u2] at s1
      exact (nI_ltI (by omega) (by omega)).mp s1
    by_cases q3 : o 18 x = 3
    · rcases hir.2.2.2.2.2.2.2.2.2.2.2.2.2.1 q3 with ⟨z, _⟩ | ⟨z1, ⟨n, n1, n2⟩, z3, u, u1, u2⟩
      · exact absurd z (s3 q3)
      · refine Or.inl ⟨hg, u, hu u u1 u2, u1, u2, ?_⟩
        rw [dueAt_ev H hi h64, n2, if_neg (nI_pos (by omega)), z3, u2]
    · have h7 : Fm μ i (nd x) 7 = -1 := hir.g7 q3
      have h18 : o 18 x = 1 ∨ o 18 x = 2 := by
        rcases hg with z | z | z
        · exact Or.inl z
        · exact Or.inr z
        · exact absurd z q3
      have hleaf : p 7 x = 0 ∨ p 7 x = 1 ∨ p 7 x = 2 → md_dueAt μ (nI i) (nI (nd x)) = (if sv (nd x) 0 = 1 then (if Fm μ i (nd x) 3 < 0 then some (Fm μ i (nd x) 4) else some (Fm μ i (nd x) 3)) else if sv (nd x) 0 = 2 then some (Fm μ i (nd x) 1 + sv (nd x) 1) else (if sv (nd x) 2 < 0 then some (-1) else some (Fm μ i (nd x) 1 + sv (nd x) 2))) := fun z => by
        rw [dueAt_ev H hi h64, h7, if_pos (show (-1 : Int32) < 0 by decide), runs_leaf H hi hS hx z h18, Option.bind_some, if_pos rfl]
      have hcomp : p 7 x = 4 ∨ p 7 x = 5 → (¬ Gi (o 18 x) ∨ (Gi (o 18 x) ∧ o 22 x = nI 1000000000)) ∧ md_dueAt μ (nI i) (nI (nd x)) = some (-1) := fun z => by
        have h1 : o 18 x = 1 := by
          rcases h18 with q | q
          · exact q
          · have := hir.2.2.2.2.2.2.2.2.1 q
            rw [this] at z
            exact absurd z (by decide)
        exact ⟨Or.inr ⟨hg, hir.2.2.2.2.2.2.2.2.2.2.2.2.1 z h1⟩, due_no H hi h64 h7 (runs_no H hi hS hx (Or.inl (Or.inr z)))⟩
      obtain ⟨_, _, _, hk⟩ := hsi
      rcases hk with ⟨z1, z2, _⟩ | ⟨z1, z2, a, a1, a2, a3⟩ | ⟨z1, z2, _, hl⟩ | ⟨z1, z2, _⟩ | ⟨z1, z2, _⟩ | ⟨z1, z2, _⟩
      · rcases h18 with q | q
        · obtain ⟨i1, i2, i3, u, u1, u2⟩ := hir.2.2.2.2.2.2.1 z1 q
          refine Or.inl ⟨hg, u, hu u u1 u2, u1, u2, ?_⟩
          rw [hleaf (Or.inl z1), z2, if_pos rfl, i1, u2, if_neg (nI_pos (by omega))]
        · obtain ⟨i1, i2, i3, i4, u, u1, u2⟩ := hir.2.2.2.2.2.2.2.1 z1 q
          refine Or.inl ⟨hg, u, hu u u1 u2, u1, u2, ?_⟩
          rw [hleaf (Or.inl z1), z2, if_pos rfl, i1, if_pos (by decide), i2, u2]
      · have q1 : o 18 x = 1 := by
          rcases h18 with q | q
          · exact q
          · have := hir.2.2.2.2.2.2.2.2.1 q
            rw [z1] at this
            exact absurd this (by decide)
        obtain ⟨i1, u, u1, u2⟩ := hir.2.2.2.2.2.2.2.2.2.2.1 z1 q1
        refine Or.inl ⟨hg, u, hu u u1 u2, u1, u2, ?_⟩
        rw [hleaf (Or.inr (Or.inl z1)), z2, if_neg (by decide), if_pos rfl, a3, ← a2, ← i1, u2]
      · have q1 : o 18 x = 1 := by
          rcases h18 with q | q
          · exact q
          · have := hir.2.2.2.2.2.2.2.2.1 q
            rw [z1] at this
            exact absurd this (by decide)
        obtain ⟨i1, i2⟩ := hir.2.2.2.2.2.2.2.2.2.2.2.1 z1 q1
        rcases hl with ⟨l1, l2⟩ | ⟨a, a1, a2, a3⟩
        · refine Or.inr ⟨Or.inr ⟨hg, i1 l1⟩, ?_⟩
          rw [hleaf (Or.inr (Or.inr z1)), z2, if_neg (by decide), if_neg (by decide), l2, if_pos (by decide)]
        · obtain ⟨i3, u, u1, u2⟩ := i2 (by rw [a2]; exact nI_m1 (by omega))
          refine Or.inl ⟨hg, u, hu u u1 u2, u1, u2, ?_⟩
          rw [hleaf (Or.inr (Or.inr z1)), z2, if_neg (by decide), if_neg (by decide), a3, if_neg (nI_pos (by omega)), ← a2, ← i3, u2]
      · exact absurd z1 s2
      · exact Or.inr (hcomp (Or.inl z1))
      · exact Or.inr (hcomp (Or.inr z1))
  · have h7 : Fm μ i (nd x) 7 = -1 := hir.g7 (fun q => hg (by rw [q]; exact Gi3))
    exact Or.inr ⟨Or.inl hg, due_no H hi h64 h7 (runs_no H hi hS hx (Or.inr hg))⟩
/-- the least so far, on the reference's side -/
def mD (a : Nat) : Int32 := if a = 1000000000 then -5 else nI a
theorem mdue_step {nn n m : Nat} {d acc : Int32} (H : R p nd sv i V its rl B o h e μ) (hi : i < 6) (ht : e 1 2 = nI t) (hs : sv 64 0 = nI nn) (hnn : nn ≤ 64) (hn : n < nn) (hd : md_dueAt μ (nI i) (nI n) = some d) : md_due_15 N μ (m + 1) (nI i) acc (nI n) = if nI t < d then (if acc < 0 then md_due_15 N μ m (nI i) d (nI (n + 1)) else if d < acc then md_due_15 N μ m (nI i) d (nI (n + 1)) else md_due_15 N μ m (nI i) acc (nI (n + 1))) else md_due_15 N μ m (nI i) acc (nI (n + 1)) := by
  obtain ⟨V', h1, h2⟩ := size_ev H hi hs
  conv => lhs; unfold md_due_15
  rw [h1, Option.bind_some, h2, Option.bind_some, if_pos (nI_lt hn (by omega)), hd, Option.bind_some, rd70, Option.bind_some, H.2.1.1, ht, nI_1]
theorem mdue_no {nn n m : Nat} {acc : Int32} (H : R p nd sv i V its rl B o h e μ) (hi : i < 6) (ht : e 1 2 = nI t) (htt : t < 131072) (hs : sv 64 0 = nI nn) (hnn : nn ≤ 64) (hn : n < nn) (hd : md_dueAt μ (nI i) (nI n) = some (-1)) : md_due_15 N μ (m + 1) (nI i) acc (nI n) = md_due_15 N μ m (nI i) acc (nI (n + 1)) := by
  rw [mdue_step H hi ht hs hnn hn hd, if_neg]
  intro q
  rw [Int32.lt_iff_toInt_lt, nI_toInt (by omega)] at q
  have : (-1 : Int32).toInt = -1 := by decide
  omega
theorem mdue_yes {nn n m u a : Nat} (H : R p nd sv i V its rl B o h e μ) (hi : i < 6) (ht : e 1 2 = nI t) (hs : sv 64 0 = nI nn) (hnn : nn ≤ 64) (hn : n < nn) (hu : t < u) (hu2 : u < 1048576) (ha : a ≤ 1000000000) (hd : md_dueAt μ (nI i) (nI n) = some (nI u)) : md_due_15 N μ (m + 1) (nI i) (mD a) (nI n) = md_due_15 N μ m (nI i) (mD (if u < a then u else a)) (nI (n + 1)) := by
  rw [mdue_step H hi ht hs hnn hn hd, if_pos (nI_lt hu (by omega))]
  unfold mD
  by_cases q : a = 1000000000
  · rw [if_pos q, if_pos (show (-5 : Int32) < 0 by decide), if_pos (show u < a by omega), if_neg (show ¬ u = 1000000000 by omega)]
  · rw [if_neg q, if_neg (nI_pos (by omega))]
    by_cases q2 : u < a
    · rw [if_pos (show nI u < nI a from nI_lt q2 (by omega)), if_pos q2, if_neg (show ¬ u = 1000000000 by omega)]
    · rw [if_neg (show ¬ nI u < nI a from nI_nlt (by omega) (by omega)), if_neg q2, if_neg q]
theorem due_idle (h0 : ∀ x, its ≤ x → x < 24 → o 18 x = 0) {a : Nat} (ha : a ≤ 1000000000) : ∀ (r x n : Nat), its ≤ x → x + r = 24 → r < n → in_nextMinute_23 N o n (nI a) (nI x) = some (mD a)
  | 0, x, n, h1, h2, h3 => by
    obtain ⟨n, rfl⟩ : ∃ x, n = x + 1 := ⟨n - 1, by omega⟩
    have hx : x = 24 := by omega
    subst hx
    unfold in_nextMinute_23 mD
    rw [if_neg (show ¬ nI 24 < 24 by decide)]
    by_cases q : a = 1000000000
    · subst q; rfl
    · rw [if_neg q, if_neg (show ¬ nI a = 1000000000 from fun z => q (nI_inj (a := a) (b := 1000000000) (by omega) (by decide) z))]
  | r + 1, x, n, h1, h2, h3 => by
    obtain ⟨n, rfl⟩ : ∃ x, n = x + 1 := ⟨n - 1, by omega⟩
    conv => lhs; unfold in_nextMinute_23
    rw [if_pos (show nI x < 24 from nI_lt (b := 24) (by omega) (by decide)), goesOn_f (by omega) (by rw [h0 x h1 (by omega)]; exact nGi0), Option.bind_some, if_neg (show ¬ (false = true) by decide), nI_1]
    exact due_idle h0 ha r (x + 1) n (by omega) (by omega) (by omega)
theorem mdue_end {nn m : Nat} {acc : Int32} (H : R p nd sv i V its rl B o h e μ) (hi : i < 6) (hs : sv 64 0 = nI nn) (hnn : nn ≤ 64) : md_due_15 N μ (m + 1) (nI i) acc (nI nn) = some acc := by
  obtain ⟨V', h1, h2⟩ := size_ev H hi hs
  unfold md_due_15
  rw [h1, Option.bind_some, h2, Option.bind_some, if_neg (nI_nlt (Nat.le_refl _) (by omega))]
theorem due_walk {nn : Nat} (H : R p nd sv i V its rl B o h e μ) (hi : i < 6) (hS : ST p nd sv its) (hset : SetR p e o its) (ht : e 1 2 = nI t) (htt : t < 131072) (hs : sv 64 0 = nI nn) (hnn : nn ≤ 64) : ∀ (s x n m a : Nat), x + s + 1 = its → 24 - x < n → 2 * s + 2 < m → a ≤ 1000000000 →
    ∃ c, in_nextMinute_23 N o n (nI a) (nI x) = some c ∧ md_due_15 N μ m (nI i) (mD a) (nI (nd x)) = some c := by
  intro s
  have hits := hS.1.2.1
  have hl := hS.last hs hnn
  have h0 := H.2.2.2.2.2.2.1
  have hnd : ∀ x, x < its → nd x < nn := fun x hx => by
    obtain ⟨_, _, _, _, _, _, _, nn', e1, e2, e3, e4, e5⟩ := hS
    have := nI_inj (by omega) (by omega) (hs.symm.trans e1)
    have := e4 x hx
    omega
  have step : ∀ (x n m a : Nat), x < its → a ≤ 1000000000 → (∀ a', a' ≤ 1000000000 → ∃ c, in_nextMinute_23 N o n (nI a') (nI (x + 1)) = some c ∧ md_due_15 N μ m (nI i) (mD a') (nI (nd x + 1)) = some c) → ∃ c, in_nextMinute_23 N o (n + 1) (nI a) (nI x) = some c ∧ md_due_15 N μ (m + 1) (nI i) (mD a) (nI (nd x)) = some c := fun x n m a hx ha hrec => by
    have hlt : nI x < 24 := nI_lt (b := 24) (by omega) (by decide)
    have eG : Gi (o 18 x) → in_nextMinute_23 N o (n + 1) (nI a) (nI x) = in_nextMinute_23 N o n (if o 22 x < nI a then o 22 x else nI a) (nI (x + 1)) := fun hg => by
      conv => lhs; unfold in_nextMinute_23
      rw [if_pos hlt, goesOn_t (by omega) hg, Option.bind_some, if_pos rfl, rd_nI (by omega) (by decide), Option.bind_some, nI_1]
    have eN : ¬ Gi (o 18 x) → in_nextMinute_23 N o (n + 1) (nI a) (nI x) = in_nextMinute_23 N o n (nI a) (nI (x + 1)) := fun hg => by
      conv => lhs; unfold in_nextMinute_23
      rw [if_pos hlt, goesOn_f (by omega) hg, Option.bind_some, if_neg (show ¬ (false = true) by decide), nI_1]
    rcases due_item H hi hS hset ht htt hx with ⟨hg, u, u1, u2, u3, u4⟩ | ⟨hg, hd⟩
    · rw [eG hg, mdue_yes H hi ht hs hnn (hnd x hx) u1 u2 ha u4, u3]
      by_cases q : u < a
      · rw [if_pos (nI_lt q (by omega)), if_pos q]
        exact hrec u (by omega)
      · rw [if_neg (nI_nlt (by omega) (by omega)), if_neg q]
        exact hrec a ha
    · rw [mdue_no H hi ht htt hs hnn (hnd x hx) hd]
      rcases hg with hg | ⟨hg, hq⟩
      · rw [eN hg]; exact hrec a ha
      · rw [eG hg, hq, if_neg (nI_nlt (b := a) (a := 1000000000) ha (by decide))]
        exact hrec a ha
  induction s with
  | zero =>
    intro x n m a hx hn hm ha
    obtain ⟨n, rfl⟩ : ∃ x, n = x + 1 := ⟨n - 1, by omega⟩
    obtain ⟨m, rfl⟩ : ∃ x, m = x + 1 := ⟨m - 1, by omega⟩
    refine step x n m a (by omega) ha (fun a' ha' => ?_)
    obtain ⟨m, rfl⟩ : ∃ x, m = x + 1 := ⟨m - 1, by omega⟩
    have hxl : x = its - 1 := by omega
    rw [show nd x + 1 = nn by rw [hl, hxl]]
    exact ⟨_, due_idle h0 ha' (24 - (x + 1)) (x + 1) n (by omega) (by omega) (by omega), mdue_end H hi hs hnn⟩
  | succ s ih =>
    intro x n m a hx hn hm ha
    obtain ⟨n, rfl⟩ : ∃ x, n = x + 1 := ⟨n - 1, by omega⟩
    obtain ⟨m, rfl⟩ : ∃ x, m = x + 1 := ⟨m - 1, by omega⟩
    refine step x n m a (by omega) ha (fun a' ha' => ?_)
    rcases hS.1.2.2.2.2 x (by omega) with z | z
    · have := ih (x + 1) n m a' (by omega) (by omega) (by omega) ha'
      rw [z] at this
      exact this
    · obtain ⟨m, rfl⟩ : ∃ x, m = x + 1 := ⟨m - 1, by omega⟩
      have := ih (x + 1) n m a' (by omega) (by omega) (by omega) ha'
      rw [z] at this
      have hz := hnd (x + 1) (by omega)
      obtain ⟨g1, g2⟩ := hS.gap (show x + 1 < its by omega) z
      have h7 := H.2.2.2.2.2.2.2 (x + 1) (by omega) g2 (by omega)
      rw [show nd (x + 1) - 1 = nd x + 1 by omega] at h7
      rw [mdue_no H hi ht htt hs hnn (show nd x + 1 < nn by omega) (due_no H hi (by omega) h7 (runs_body H hi (by omega) g1))]
      exact this
theorem due_call {w : Mem} {I H : Fam} {pl : Nat → Nat} {vs : Fam} (hN : 100 ≤ N) (y1 : Int32) (h : WR T rl w e I H pl vs μ) : ∃ a, xe_due N pl I y1 = some a ∧ md_due N μ y1 = some a := by
  have hI := h.2.2.2.2.2
  unfold xe_due md_due
  rcases find_sim hI y1 with ⟨f1, f2⟩ | ⟨j, hj, rfl, f1, f2, f3, f4⟩
  · rw [f1, f2, Option.bind_some, Option.bind_some, if_neg (by decide)]
    exact ⟨_, rfl, rfl⟩
  · rw [f1, f2, Option.bind_some, Option.bind_some, if_pos rfl]
    dsimp only
    obtain ⟨p17, hl⟩ := hI j hj
    rcases hl with ⟨z, _⟩ | ⟨g0, tm, hvv, nd, sv, its, hV, hL, hs⟩
    · exact absurd z f4
    have hS := hV.1
    have hS2 := hS
    obtain ⟨hn, _, _, s0, _, _, _, nn, e1, e2, e3, e4, e5⟩ := hS
    have hits := hn.1
    have hits2 := hn.2.1
    obtain ⟨t, t1, t2, t3⟩ := hL.1.t
    have hset := hs trivial
    have hb := runs_body hL.1 hj (show 0 < 64 by decide) s0
    rw [gd_pos hj, gd_pos p17]
    -- what comes when node 0 has been looked at
    have fin : ∀ a : Nat, a ≤ 1000000000 → md_due_15 N μ N (nI j) (-5) 0 = md_due_15 N μ (N - 1) (nI j) (mD a) (nI (nd 0)) → in_nextMinute N (I j) = in_nextMinute_23 N (I j) N (nI a) 0 → ∃ c, ((in_nextMinute N (I j)).bind fun k13 => some k13) = some c ∧ md_due_15 N μ N (nI j) (-5) 0 = some c := fun a ha x1 x2 => by
      obtain ⟨c, c1, c2⟩ := due_walk (N := N) hL.1 hj hS2 hset t1 t2 e1 e2 (its - 1) 0 N (N - 1) a (by omega) (by omega) (by omega) ha
      have c1' : in_nextMinute_23 N (I j) N (nI a) 0 = some c := c1
      rw [x1, x2, c1', c2]
      exact ⟨c, rfl, rfl⟩
    have no0 : Fm μ j 0 7 = -1 → I j 0 3 ≠ 2 → ∃ c, ((in_nextMinute N (I j)).bind fun k13 => some k13) = some c ∧ md_due_15 N μ N (nI j) (-5) 0 = some c := fun h7 h2 => by
      refine fin 1000000000 (Nat.le_refl _) ?_ ?_
      · have := mdue_no (N := N) (m := N - 1) (acc := -5) hL.1 hj t1 t2 e1 e2 e3 (due_no hL.1 hj (by decide) h7 hb)
        rw [show N - 1 + 1 = N by omega] at this
        rw [hn.2.2.1]
        exact this
      · unfold in_nextMinute
        rw [if_neg h2]
        rfl
    obtain ⟨_, _, _, _, G⟩ := hL
    rcases G with ⟨z0, z1, z2, z3, z4, _⟩ | ⟨z0, z1, z2, z3⟩ | ⟨z0, z1, z2, _⟩
    · exact no0 z3 (by rw [z0]; decide)
    · obtain ⟨tk, f, u, cd, q1, q2, q3, q4, q5, q6, q7, q8, q9, q10, q11, q12, q13, q14⟩ := z3
      have htu : t < u := by
        have := hset.2 z0
        rw [t1, q13] at this
        exact (nI_ltI (by omega) (by omega)).mp this
      have hd : md_dueAt μ (nI j) (nI 0) = some (nI u) := by
        rw [dueAt_ev (by assumption) hj (by decide), q8, if_neg (nI_pos (by have := hn.l64 q2; omega)), q14]
      refine fin u (by omega) ?_ ?_
      · have := mdue_yes (N := N) (m := N - 1) (a := 1000000000) (by assumption) hj t1 e1 e2 e3 htu q12 (Nat.le_refl _) hd
        rw [show N - 1 + 1 = N by omega, if_pos (by omega)] at this
        rw [hn.2.2.1]
        exact this
      · unfold in_nextMinute
        rw [if_pos z0, show (24 : Int32) = nI 24 from rfl, rd_nI (by decide) (by decide), Option.bind_some, q13]
    · exact no0 z2 (by rcases z0 with q | q | q <;> rw [q] <;> decide)
end PD7
