/-! which items run, and what comes next by itself -/
section PD6
variable {p : Mem} {nd : Nat → Nat} {sv : Nat → Nat → Int32} {i V its rl B N T F : Nat} {o h e μ : Mem}
theorem ST.last (hS : ST p nd sv its) {nn : Nat} (h : sv 64 0 = nI nn) (hnn : nn ≤ 64) : nn = nd (its - 1) + 1 := by
  obtain ⟨hn, _, _, _, _, _, _, nn', e1, e2, e3, e4, e5⟩ := hS
  have hq := nI_inj (by omega) (by omega) (h.symm.trans e1)
  subst hq
  have hits := hn.1
  have h1 := e4 (its - 1) (by omega)
  by_cases q : nn = nd (its - 1) + 1
  · exact q
  · exfalso
    rcases e5 (nn - 1) (by omega) with ⟨j, j1, j2⟩ | ⟨_, b, b1, b2, b3⟩
    · by_cases q2 : j = its - 1
      · subst q2; omega
      · have := hn.lt (show its - 1 < its by omega) (show j < its - 1 by omega)
        omega
    · have := e4 b b1
      omega
theorem ST.gap (hS : ST p nd sv its) {k : Nat} (hk : k + 1 < its) (z : nd (k + 1) = nd k + 2) : sv (nd k + 1) 0 = 0 ∧ Bst nd (k + 1) := by
  obtain ⟨hn, _, _, _, _, _, _, nn, e1, e2, e3, e4, e5⟩ := hS
  refine ⟨?_, Or.inr (by rw [show k + 1 - 1 = k from rfl]; exact z)⟩
  rcases e5 (nd k + 1) (by have := e4 (k + 1) hk; omega) with ⟨j, j1, j2⟩ | ⟨q, _⟩
  · exfalso
    by_cases c1 : j ≤ k
    · by_cases c2 : j = k
      · subst c2; omega
      · have := hn.lt (show k < its by omega) (show j < k by omega)
        omega
    · by_cases c2 : j = k + 1
      · subst c2; omega
      · have := hn.lt j1 (show k + 1 < j by omega)
        omega
  · exact q
theorem runs_ev {n : Nat} (H : R p nd sv i V its rl B o h e μ) (hi : i < 6) (hn : n < 64) : md_runs μ (nI i) (nI n) = (md_isIn (sv n 0) 1 3).bind fun k9 => if k9 = true then (if Fm μ i n 0 = 1 then some true else some false) else some false := by
  unfold md_runs
  rw [H.1.np0 hi hn, at_0, Option.bind_some, Option.bind_some, rd_nI (by omega) (by decide), Option.bind_some]
theorem runs_body {n : Nat} (H : R p nd sv i V its rl B o h e μ) (hi : i < 6) (hn : n < 64) (h0 : sv n 0 = 0) : md_runs μ (nI i) (nI n) = some false := by
  rw [runs_ev H hi hn, h0]
  rfl
theorem runs_leaf {x : Nat} (H : R p nd sv i V its rl B o h e μ) (hi : i < 6) (hS : ST p nd sv its) (hx : x < its) (hl : p 7 x = 0 ∨ p 7 x = 1 ∨ p 7 x = 2) (h18 : o 18 x = 1 ∨ o 18 x = 2) : md_runs μ (nI i) (nI (nd x)) = some true := by
  have hir := H.2.2.2.2.2.1 x hx
  have hF : Fm μ i (nd x) 0 = 1 := by
    rw [hir.1]
    rcases h18 with z | z <;> rw [z] <;> rfl
  rw [runs_ev H hi (hS.1.l64 hx), if_pos hF]
  obtain ⟨_, _, _, hk⟩ := hS.2.1 x hx
  rcases hk with ⟨z1, z2, _⟩ | ⟨z1, z2, _⟩ | ⟨z1, z2, _⟩ | ⟨z1, z2, _⟩ | ⟨z1, z2, _⟩ | ⟨z1, z2, _⟩
  · rw [z2]; rfl
  · rw [z2]; rfl
  · rw [z2]; rfl
  · rw [z1] at hl; exact absurd hl (by decide)
  · rw [z1] at hl; exact absurd hl (by decide)
  · rw [z1] at hl; exact absurd hl (by decide)
theorem runs_no {x : Nat} (H : R p nd sv i V its rl B o h e μ) (hi : i < 6) (hS : ST p nd sv its) (hx : x < its) (hl : (p 7 x = 3 ∨ p 7 x = 4 ∨ p 7 x = 5) ∨ ¬ Gi (o 18 x)) : md_runs μ (nI i) (nI (nd x)) = some false := by
  have hir := H.2.2.2.2.2.1 x hx
  rw [runs_ev H hi (hS.1.l64 hx)]
  obtain ⟨_, _, _, hk⟩ := hS.2.1 x hx
  rcases hl with hl | hl
  · rcases hk with ⟨z1, z2, _⟩ | ⟨z1, z2, _⟩ | ⟨z1, z2, _⟩ | ⟨z1, z2, _⟩ | ⟨z1, z2, _⟩ | ⟨z1, z2, _⟩
    · rw [z1] at hl; exact absurd hl (by decide)
    · rw [z1] at hl; exact absurd hl (by decide)
    · rw [z1] at hl; exact absurd hl (by decide)
    · rw [z2]; rfl
    · rw [z2]; rfl
    · rw [z2]; rfl
  · have hF : ¬ Fm μ i (nd x) 0 = 1 := by
      rw [hir.1]
      obtain ⟨k, k1, k2⟩ := hir.2.1
      rw [k2] at hl ⊢
      have hk9 : k = 0 ∨ k = 1 ∨ k = 2 ∨ k = 3 ∨ k = 4 ∨ k = 5 ∨ k = 6 ∨ k = 7 ∨ k = 8 := by omega
      rcases hk9 with z | z | z | z | z | z | z | z | z <;> subst z
      · decide
      · exact absurd (Or.inl rfl) hl
      · exact absurd (Or.inr (Or.inl rfl)) hl
      · exact absurd (Or.inr (Or.inr rfl)) hl
      · decide
      · decide
      · decide
      · decide
      · decide
    rw [if_neg hF]
    rcases hk with ⟨z1, z2, _⟩ | ⟨z1, z2, _⟩ | ⟨z1, z2, _⟩ | ⟨z1, z2, _⟩ | ⟨z1, z2, _⟩ | ⟨z1, z2, _⟩ <;> rw [z2] <;> rfl
theorem isrun_f {x : Nat} (hx : x < 24) (h : ¬ Gi (o 18 x)) : in_isRunning p o (nI x) = some false := by
  unfold in_isRunning
  rw [rd_nI hx (by decide), Option.bind_some, goesOn_f hx h, Option.bind_some, if_neg (show ¬ (false = true) by decide)]
theorem run_item {x : Nat} (H : R p nd sv i V its rl B o h e μ) (hi : i < 6) (hS : ST p nd sv its) (hset : SetR p e o its) (hx : x < its) : ∃ b : Bool, in_isRunning p o (nI x) = some b ∧ md_runs μ (nI i) (nI (nd x)) = some b := by
  have hx24 : x < 24 := by have := hS.1.2.1; omega
  have hir := H.2.2.2.2.2.1 x hx
  by_cases hg : Gi (o 18 x)
  · have hX : in_isRunning p o (nI x) = if p 7 x = 4 then some false else if p 7 x = 5 then some false else some true := by
      unfold in_isRunning
      rw [rd_nI hx24 (by decide), Option.bind_some, goesOn_t hx24 hg, Option.bind_some, if_pos rfl]
    rw [hX]
    have h3 : p 7 x ≠ 3 := (hset.1 x hx hg).2.1
    have hl : p 7 x = 0 ∨ p 7 x = 1 ∨ p 7 x = 2 → ∃ b : Bool, (if p 7 x = 4 then some false else if p 7 x = 5 then some false else some true) = some b ∧ md_runs μ (nI i) (nI (nd x)) = some b := fun z => by
      refine ⟨true, ?_, runs_leaf H hi hS hx z ?_⟩
      · rcases z with z | z | z <;> rw [z] <;> rfl
      · rcases hg with q | q | q
        · exact Or.inl q
        · exact Or.inr q
        · have := hir.2.2.2.2.2.2.2.2.2.1 q
          rw [this] at z
          exact absurd z (by decide)
    obtain ⟨_, _, _, hk⟩ := hS.2.1 x hx
    rcases hk with ⟨z1, z2, _⟩ | ⟨z1, z2, _⟩ | ⟨z1, z2, _⟩ | ⟨z1, z2, _⟩ | ⟨z1, z2, _⟩ | ⟨z1, z2, _⟩
    · exact hl (Or.inl z1)
    · exact hl (Or.inr (Or.inl z1))
    · exact hl (Or.inr (Or.inr z1))
    · exact absurd z1 h3
    · exact ⟨false, if_pos z1, runs_no H hi hS hx (Or.inl (Or.inr (Or.inl z1)))⟩
    · exact ⟨false, by rw [z1]; rfl, runs_no H hi hS hx (Or.inl (Or.inr (Or.inr z1)))⟩
  · exact ⟨false, isrun_f hx24 hg, runs_no H hi hS hx (Or.inr hg)⟩
theorem size_ev {nn : Nat} (H : R p nd sv i V its rl B o h e μ) (hi : i < 6) (hs : sv 64 0 = nI nn) : ∃ V', md_versionOf μ (nI i) = some (nI V') ∧ rd 68 (μ 3) (4 * nI V') = some (nI nn) := by
  obtain ⟨h1, h2⟩ := H.1.ver hi
  refine ⟨V, h1, ?_⟩
  rw [mul4_nI, rd_nI (by omega) (by decide), H.1.2.2, hs]
theorem mrun_step {nn t m : Nat} {b : Bool} {y2 acc : Int32} (H : R p nd sv i V its rl B o h e μ) (hi : i < 6) (hs : sv 64 0 = nI nn) (hnn : nn ≤ 64) (ht : t < nn) (hb : md_runs μ (nI i) (nI t) = some b) : md_running_15 N μ (m + 1) (nI i) y2 acc (nI t) = if b = true then (if acc = y2 then some (sv t 7) else md_running_15 N μ m (nI i) y2 (acc + 1) (nI (t + 1))) else md_running_15 N μ m (nI i) y2 acc (nI (t + 1)) := by
  obtain ⟨V', h1, h2⟩ := size_ev H hi hs
  conv => lhs; unfold md_running_15
  rw [h1, Option.bind_some, h2, Option.bind_some, if_pos (nI_lt ht (by omega)), hb, Option.bind_some, H.1.np7 hi (show t < 64 by omega), Option.bind_some, nI_1]
theorem mrun_end {nn m : Nat} {y2 acc : Int32} (H : R p nd sv i V its rl B o h e μ) (hi : i < 6) (hs : sv 64 0 = nI nn) (hnn : nn ≤ 64) : md_running_15 N μ (m + 1) (nI i) y2 acc (nI nn) = if y2 = -1 then some acc else some (-1) := by
  obtain ⟨V', h1, h2⟩ := size_ev H hi hs
  unfold md_running_15
  rw [h1, Option.bind_some, h2, Option.bind_some, if_neg (nI_nlt (Nat.le_refl _) (by omega))]
theorem run_idle (h0 : ∀ x, its ≤ x → x < 24 → o 18 x = 0) : ∀ (r x n : Nat) (k acc : Int32), its ≤ x → x + r = 24 → r < n → in_runningItems_4 N p o n acc (nI x) = some acc ∧ in_placeOfRunning_4 N p o n k acc (nI x) = some (-1)
  | 0, x, n, k, acc, h1, h2, h3 => by
    obtain ⟨n, rfl⟩ : ∃ x, n = x + 1 := ⟨n - 1, by omega⟩
    have hx : x = 24 := by omega
    subst hx
    unfold in_runningItems_4 in_placeOfRunning_4
    rw [if_neg (show ¬ nI 24 < 24 by decide), if_neg (show ¬ nI 24 < 24 by decide)]
    exact ⟨rfl, rfl⟩
  | r + 1, x, n, k, acc, h1, h2, h3 => by
    obtain ⟨n, rfl⟩ : ∃ x, n = x + 1 := ⟨n - 1, by omega⟩
    obtain ⟨i1, i2⟩ := run_idle h0 r (x + 1) n k acc (by omega) (by omega) (by omega)
    have hf := isrun_f (p := p) (o := o) (x := x) (by omega) (by rw [h0 x h1 (by omega)]; exact nGi0)
    have hlt : nI x < 24 := nI_lt (b := 24) (by omega) (by decide)
    constructor
    · conv => lhs; unfold in_runningItems_4
      rw [if_pos hlt, hf, Option.bind_some, if_neg (show ¬ (false = true) by decide), nI_1]
      exact i1
    · conv => lhs; unfold in_placeOfRunning_4
      rw [if_pos hlt, hf, Option.bind_some, if_neg (show ¬ (false = true) by decide), nI_1]
      exact i2
theorem run_walk {nn : Nat} (H : R p nd sv i V its rl B o h e μ) (hi : i < 6) (hS : ST p nd sv its) (hset : SetR p e o its) (hs : sv 64 0 = nI nn) (hnn : nn ≤ 64) : ∀ (s x n m acc : Nat), x + s + 1 = its → 24 - x < n → 2 * s + 2 < m → acc ≤ x →
    (∃ a, in_runningItems_4 N p o n (nI acc) (nI x) = some a ∧ md_running_15 N μ m (nI i) (-1) (nI acc) (nI (nd x)) = some a) ∧ ∀ k, k ≠ -1 → ∃ a, in_placeOfRunning_4 N p o n k (nI acc) (nI x) = some a ∧ md_running_15 N μ m (nI i) k (nI acc) (nI (nd x)) = some a := by
  intro s
  have hits := hS.1.2.1
  have hl := hS.last hs hnn
  have h0 := H.2.2.2.2.2.2.1
  have hnd : ∀ x, x < its → nd x < nn := fun x hx => by
    obtain ⟨_, _, _, _, _, _, _, nn', e1, e2, e3, e4, e5⟩ := hS
    have := nI_inj (by omega) (by omega) (hs.symm.trans e1)
    have := e4 x hx
    omega
  -- one item, given what follows
  have step : ∀ (x n m acc : Nat), x < its → acc ≤ x → (∀ acc', acc' ≤ x + 1 → (∃ a, in_runningItems_4 N p o n (nI acc') (nI (x + 1)) = some a ∧ md_running_15 N μ m (nI i) (-1) (nI acc') (nI (nd x + 1)) = some a) ∧ ∀ k, k ≠ -1 → ∃ a, in_placeOfRunning_4 N p o n k (nI acc') (nI (x + 1)) = some a ∧ md_running_15 N μ m (nI i) k (nI acc') (nI (nd x + 1)) = some a) → (∃ a, in_runningItems_4 N p o (n + 1) (nI acc) (nI x) = some a ∧ md_running_15 N μ (m + 1) (nI i) (-1) (nI acc) (nI (nd x)) = some a) ∧ ∀ k, k ≠ -1 → ∃ a, in_placeOfRunning_4 N p o (n + 1) k (nI acc) (nI x) = some a ∧ md_running_15 N μ (m + 1) (nI i) k (nI acc) (nI (nd x)) = some a := fun x n m acc hx ha hrec => by
    obtain ⟨b, b1, b2⟩ := run_item H hi hS hset hx
    have hlt : nI x < 24 := nI_lt (b := 24) (by omega) (by decide)
    have eR : in_runningItems_4 N p o (n + 1) (nI acc) (nI x) = if b = true then in_runningItems_4 N p o n (nI (acc + 1)) (nI (x + 1)) else in_runningItems_4 N p o n (nI acc) (nI (x + 1)) := by
      conv => lhs; unfold in_runningItems_4
      rw [if_pos hlt, b1, Option.bind_some, nI_1, nI_1]
    have eP : ∀ k, in_placeOfRunning_4 N p o (n + 1) k (nI acc) (nI x) = if b = true then (if nI acc = k then some (p 8 x) else in_placeOfRunning_4 N p o n k (nI (acc + 1)) (nI (x + 1))) else in_placeOfRunning_4 N p o n k (nI acc) (nI (x + 1)) := fun k => by
      conv => lhs; unfold in_placeOfRunning_4
      rw [if_pos hlt, b1, Option.bind_some, rd_nI (by omega) (by decide), Option.bind_some, nI_1, nI_1]
    have eM := fun k => mrun_step (N := N) (m := m) (y2 := k) (acc := nI acc) H hi hs hnn (hnd x hx) b2
    rw [eR, eM]
    have hne : ¬ nI acc = -1 := nI_m1 (by omega)
    cases b with
    | true =>
      obtain ⟨r1, r2⟩ := hrec (acc + 1) (by omega)
      rw [if_pos rfl, if_pos rfl, if_neg hne, nI_1]
      refine ⟨r1, fun k hk => ?_⟩
      rw [eP, eM, if_pos rfl, if_pos rfl, nI_1]
      by_cases q : nI acc = k
      · rw [if_pos q, if_pos q]
        exact ⟨_, rfl, congrArg some (hS.2.1 x hx).1⟩
      · rw [if_neg q, if_neg q]
        exact r2 k hk
    | false =>
      obtain ⟨r1, r2⟩ := hrec acc (by omega)
      rw [if_neg (by decide), if_neg (by decide)]
      refine ⟨r1, fun k hk => ?_⟩
      rw [eP, eM, if_neg (by decide), if_neg (by decide)]
      exact r2 k hk
  induction s with
  | zero =>
    intro x n m acc hx hn hm ha
    obtain ⟨n, rfl⟩ : ∃ x, n = x + 1 := ⟨n - 1, by omega⟩
    obtain ⟨m, rfl⟩ : ∃ x, m = x + 1 := ⟨m - 1, by omega⟩
    refine step x n m acc (by omega) ha (fun acc' _ => ?_)
    obtain ⟨m, rfl⟩ : ∃ x, m = x + 1 := ⟨m - 1, by omega⟩
    have hxl : x = its - 1 := by omega
    rw [show nd x + 1 = nn by rw [hl, hxl]]
    refine ⟨⟨_, (run_idle h0 (24 - (x + 1)) (x + 1) n 0 _ (by omega) (by omega) (by omega)).1, ?_⟩, fun k hk => ⟨_, (run_idle h0 (24 - (x + 1)) (x + 1) n k _ (by omega) (by omega) (by omega)).2, ?_⟩⟩
    · rw [mrun_end H hi hs hnn, if_pos rfl]
    · rw [mrun_end H hi hs hnn, if_neg hk]
  | succ s ih =>
    intro x n m acc hx hn hm ha
    obtain ⟨n, rfl⟩ : ∃ x, n = x + 1 := ⟨n - 1, by omega⟩
    obtain ⟨m, rfl⟩ : ∃ x, m = x + 1 := ⟨m - 1, by omega⟩
    refine step x n m acc (by omega) ha (fun acc' ha' => ?_)
    rcases hS.1.2.2.2.2 x (by omega) with z | z
    · have := ih (x + 1) n m acc' (by omega) (by omega) (by omega) ha'
      rw [z] at this
      exact this
    · obtain ⟨m, rfl⟩ : ∃ x, m = x + 1 := ⟨m - 1, by omega⟩
      have := ih (x + 1) n m acc' (by omega) (by omega) (by omega) ha'
      rw [z] at this
      have hz := hnd (x + 1) (by omega)
      have hb := runs_body H hi (show nd x + 1 < 64 by omega) (hS.gap (by omega) z).1
      have eM := fun k => mrun_step (N := N) (m := m) (y2 := k) (acc := nI acc') H hi hs hnn (show nd x + 1 < nn by omega) hb
      refine ⟨?_, fun k hk => ?_⟩
      · rw [eM, if_neg (by decide)]; exact this.1
      · rw [eM, if_neg (by decide)]; exact this.2 k hk
theorem running_call {w : Mem} {I H : Fam} {pl : Nat → Nat} {vs : Fam} (hN : 100 ≤ N) (y1 y2 : Int32) (h : WR T rl w e I H pl vs μ) : ∃ a, xe_running N pl vs I y1 y2 = some a ∧ md_running N μ y1 y2 = some a := by
  have hI := h.2.2.2.2.2
  unfold xe_running md_running
  rcases find_sim hI y1 with ⟨f1, f2⟩ | ⟨j, hj, rfl, f1, f2, f3, f4⟩
  · rw [f1, f2, Option.bind_some, Option.bind_some, if_neg (by decide)]
    exact ⟨_, rfl, rfl⟩
  · rw [f1, f2, Option.bind_some, Option.bind_some, if_pos rfl]
    dsimp only
    obtain ⟨p17, hl⟩ := hI j hj
    rcases hl with ⟨z, _⟩ | ⟨g0, tm, hvv, nd, sv, its, hV, hL, hs⟩
    · exact absurd z f4
    have hS := hV.1
    have hS2 := hS
    obtain ⟨hn, _, _, s0, _, _, _, nn, e1, e2, e3, e4, e5⟩ := hS
    have hits := hn.1
    have hits2 := hn.2.1
    obtain ⟨r1, r2⟩ := run_walk (N := N) hL.1 hj hS2 (hs trivial) e1 e2 (its - 1) 0 N (N - 1) 0 (by omega) (by omega) (by omega) (Nat.le_refl _)
    have hb := runs_body hL.1 hj (show 0 < 64 by decide) s0
    have eM : ∀ k, md_running_15 N μ N (nI j) k 0 0 = md_running_15 N μ (N - 1) (nI j) k (nI 0) (nI (nd 0)) := fun k => by
      have := mrun_step (N := N) (m := N - 1) (y2 := k) (acc := nI 0) hL.1 hj e1 e2 e3 hb
      rw [show N - 1 + 1 = N by omega, if_neg (by decide)] at this
      rw [hn.2.2.1]
      exact this
    rw [gd_pos hj, gd_pos p17, gd_pos p17, eM]
    by_cases q : y2 = -1
    · subst q
      obtain ⟨a, a1, a2⟩ := r1
      have a1' : in_runningItems N (vs (pl j)) (I j) = some a := a1
      rw [if_pos rfl, a1', a2]
      exact ⟨_, rfl, rfl⟩
    · obtain ⟨a, a1, a2⟩ := r2 y2 q
      have a1' : in_placeOfRunning N (vs (pl j)) (I j) y2 = some a := a1
      rw [if_neg q, a1', a2]
      exact ⟨_, rfl, rfl⟩
end PD6
