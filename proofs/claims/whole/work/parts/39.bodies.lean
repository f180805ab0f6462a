/-! bodies of an item: how many, and which one a task is in -/
theorem sm_front {n : Nat} {f : Nat → Nat} : sm (n + 1) f = f 0 + sm n (fun t => f (t + 1)) := by
  induction n with
  | zero => show 0 + f 0 = f 0 + 0; omega
  | succ n ih =>
    show sm (n + 1) f + f (n + 1) = f 0 + (sm n (fun t => f (t + 1)) + f (n + 1))
    rw [ih]; omega
theorem sm_zero {n m : Nat} {f : Nat → Nat} (h : n ≤ m) (hz : ∀ k, n ≤ k → k < m → f k = 0) : sm m f = sm n f := by
  induction m with
  | zero => rw [show n = 0 by omega]
  | succ m ih =>
    by_cases q : n = m + 1
    · rw [q]
    · show sm m f + f m = sm n f
      rw [ih (by omega) (fun k h1 h2 => hz k h1 (by omega)), hz m (by omega) (by omega)]; rfl
def nB (p o : Mem) (j : Nat) (x : Int32) : Nat := sm 4 (fun k => if p 15 (4 * j + k) ≠ -1 ∧ o 19 (Bs p j k) = x then 1 else 0)
/-- what an item with bodies is -/
theorem Ch.cont {p : Mem} {nd : Nat → Nat} {sv : Nat → Nat → Int32} {f d bn j be : Nat} (h : Ch p nd sv (f + 1) d bn j be) (hb : be ≤ 24) (hl : ¬ Lf (p 7 j)) :
    ∃ nb : Nat, 1 ≤ nb ∧ nb ≤ 4 ∧ (p 7 j = 4 → nb = 2) ∧ (p 7 j = 4 ∨ p 7 j = 5) ∧ d < 4 ∧ sv (nd j) 5 = nI (nd (Bs p j 0) - 1) ∧ Bs p j 0 = j + 1 ∧ Bs p j nb = En p j ∧ En p j ≤ be ∧ (∀ k, nb ≤ k → k < 4 → p 15 (4 * j + k) = -1) ∧
      ∀ k, k < nb → p 15 (4 * j + k) = nI (Bs p j k) ∧ p 15 (4 * j + k) ≠ -1 ∧ j + 1 ≤ Bs p j k ∧ Bs p j k < Bs p j (k + 1) ∧ Bs p j (k + 1) ≤ En p j ∧ Bst nd (Bs p j k) ∧ sv (nd (Bs p j k) - 1) 0 = 0 ∧ sv (nd (Bs p j k) - 1) 5 = nI (nd (Bs p j k)) ∧
        sv (nd (Bs p j k) - 1) 6 = (if k + 1 < nb then nI (nd (Bs p j (k + 1)) - 1) else -1) ∧ sv (nd (Bs p j k) - 1) 8 = nI (nd j) ∧ Ch p nd sv f (d + 1) (nd (Bs p j k) - 1) (Bs p j k) (Bs p j (k + 1)) := by
  have h' := h
  obtain ⟨m, nb, h1, h2, h3, h4, h5, h6⟩ := h
  have he : En p j = m := En_eq h3 (by omega)
  rcases h6 with ⟨q, _⟩ | ⟨q1, q2, q3, q4, q5, q6⟩
  · exact absurd q hl
  · have hn : 1 ≤ nb ∧ nb ≤ 4 := by rcases q1 with q | q <;> omega
    have hend : Bs p j nb = m := by
      by_cases w : nb < 4
      · exact Bs_end h3 (by omega) (fun ⟨_, z⟩ => z (q5 nb (Nat.le_refl _) w))
      · exact Bs_end h3 (by omega) (fun ⟨z, _⟩ => w z)
    refine ⟨nb, hn.1, hn.2, fun z => ?_, ?_, q2, by rw [q4]; exact q3, q4, hend.trans he.symm, by omega, q5, fun k hk => ?_⟩
    · rcases q1 with q | q
      · exact q.2
      · exact absurd (z.symm.trans q.1) (by decide)
    · rcases q1 with q | q
      · exact Or.inl q.1
      · exact Or.inr q.1
    · obtain ⟨w1, w2, w3, w4, w5, w6, w7⟩ := q6 k hk
      have hne : p 15 (4 * j + k) ≠ -1 := fun e => by
        have hb : Bs p j k = (p 14 j).toNatClampNeg := by unfold Bs; rw [if_neg (fun z => z.2 e)]
        rw [hb, h3] at w1
        rw [e] at w1
        exact nI_m1 (Int32.toNatClampNeg_lt _) w1.symm
      obtain ⟨b1, b2, b3, _⟩ := h'.body hb (k := k) (by omega) hne hl
      exact ⟨w1, hne, b1, b2, b3, w2, w3, w4, w5, w6, w7⟩
section RC
variable {p : Mem} {nd : Nat → Nat} {sv : Nat → Nat → Int32} {i V its rl B B' N : Nat} {o h e μ o' h' e' μ' : Mem}
theorem body_ev {j k : Nat} (hj : j < 24) (hk : k < 4) : ve_body p (nI j) (nI k) = some (p 15 (4 * j + k)) := by
  unfold ve_body
  rw [if_neg (nI_pos (by omega)), if_pos (show nI k < 4 from nI_lt hk (by decide)), show (4 : Int32) = nI 4 from rfl, pk_mul, nI_add, if_neg (nI_pos (by omega)), if_pos (show nI (j * 4 + k) < 96 from nI_lt (b := 96) (by omega) (by decide)), rd_nI (by omega) (by decide), show j * 4 + k = 4 * j + k by omega]
  rfl
/-- the bodies of an item, by number -/
def BD (p : Mem) (j : Nat) : Prop := j < 24 ∧ ∀ k, k < 4 → p 15 (4 * j + k) = -1 ∨ (p 15 (4 * j + k) ≠ -1 ∧ p 15 (4 * j + k) = nI (Bs p j k) ∧ Bs p j k < 24)
theorem Ch.bd {f d bn j be : Nat} (h : Ch p nd sv (f + 1) d bn j be) (hb : be ≤ 24) (hl : ¬ Lf (p 7 j)) : BD p j := by
  have hlt := h.lt
  obtain ⟨nb, c1, c2, c3, c4, c5, c6, c7, c8, c9, c10, c11⟩ := h.cont hb hl
  refine ⟨by omega, fun k hk => ?_⟩
  by_cases q : k < nb
  · obtain ⟨w1, w2, w3, w4, w5, _⟩ := c11 k q
    exact Or.inr ⟨w2, w1, by omega⟩
  · exact Or.inl (c10 k (by omega) hk)
theorem bw_step {n j s k : Nat} {x : Int32} (hb : BD p j) (hk : k < 4) : in_bodiesWith_5 N p o (n + 1) (nI j) x (nI s) (nI k) = in_bodiesWith_5 N p o n (nI j) x (nI (s + if p 15 (4 * j + k) ≠ -1 ∧ o 19 (Bs p j k) = x then 1 else 0)) (nI (k + 1)) := by
  conv => lhs; unfold in_bodiesWith_5
  rw [if_pos (show nI k < 4 from nI_lt hk (by decide)), body_ev hb.1 hk, Option.bind_some]
  rcases hb.2 k hk with q | ⟨q1, q2, q3⟩
  · rw [q, ins24m, Option.bind_some, if_neg (by decide), if_neg (fun z => z.1 rfl), nI_1]; rfl
  · rw [q2, ins24 q3, Option.bind_some, if_pos rfl, rd_nI q3 (by decide), Option.bind_some, nI_1, nI_1]
    by_cases w : o 19 (Bs p j k) = x
    · rw [if_pos w, if_pos ⟨by rw [← q2]; exact q1, w⟩]
    · rw [if_neg w, if_neg (fun z => w z.2)]; rfl
theorem bw_ev {j : Nat} {x : Int32} (hb : BD p j) (hN : 5 ≤ N) : in_bodiesWith N p o (nI j) x = some (nI (nB p o j x)) := by
  unfold in_bodiesWith
  obtain ⟨n, hn⟩ : ∃ n, N = n + 5 := ⟨N - 5, by omega⟩
  have key : ∀ M : Nat, in_bodiesWith_5 M p o (n + 5) (nI j) x (nI 0) (nI 0) = some (nI (nB p o j x)) := by
    intro M
    rw [bw_step hb (by omega), bw_step hb (by omega), bw_step hb (by omega), bw_step hb (by omega)]
    unfold in_bodiesWith_5
    rw [if_neg (show ¬ nI (0 + 1 + 1 + 1 + 1) < 4 by decide)]
    rfl
  have := key N
  rw [← hn] at this
  exact this
theorem nB_le {j : Nat} {x : Int32} : nB p o j x ≤ 4 := by
  unfold nB
  have := sm_le (n := 4) (f := fun k => if p 15 (4 * j + k) ≠ -1 ∧ o 19 (Bs p j k) = x then 1 else 0) (g := fun _ => 1) (fun k _ => by
    show (if p 15 (4 * j + k) ≠ -1 ∧ o 19 (Bs p j k) = x then 1 else 0) ≤ 1
    by_cases q : p 15 (4 * j + k) ≠ -1 ∧ o 19 (Bs p j k) = x
    · rw [if_pos q]; exact Nat.le_refl _
    · rw [if_neg q]; omega)
  rw [sm_const] at this
  omega
/-- the reference counts the bodies with a state -/
theorem bi_loop {j nb : Nat} {x : Int32} (hV : Vr i V sv μ) (hi : i < 6) (hlt : ∀ k, k < nb → nd (Bs p j k) - 1 < 64) (h6 : ∀ k, k < nb → sv (nd (Bs p j k) - 1) 6 = (if k + 1 < nb then nI (nd (Bs p j (k + 1)) - 1) else -1)) :
    ∀ (r k s n : Nat), k + r + 1 = nb → r + 1 < n → md_bodiesIn_12 N μ n (nI i) x (nI s) (nI (nd (Bs p j k) - 1)) = some (nI (s + sm (r + 1) (fun t => if Fm μ i (nd (Bs p j (k + t)) - 1) 0 = x then 1 else 0)))
  | r, k, s, n, hk, hn => by
    obtain ⟨n, rfl⟩ : ∃ m, n = m + 1 := ⟨n - 1, by omega⟩
    have hl := hlt k (by omega)
    unfold md_bodiesIn_12
    rw [if_neg (nI_pos (by omega)), at_0, Option.bind_some, rd_nI (by omega) (by decide), Option.bind_some, sm_front]
    have hs6 : ∀ z, md_bodiesIn_40 N μ (md_bodiesIn_12 N μ n) (nI i) x (nI (nd (Bs p j k) - 1)) z (nI s) = md_bodiesIn_12 N μ n (nI i) x (nI s + z) (if k + 1 < nb then nI (nd (Bs p j (k + 1)) - 1) else -1) := by
      intro z
      unfold md_bodiesIn_40
      rw [hV.np6 hi hl, Option.bind_some, h6 k (by omega)]
    have hz : ∀ (b : Nat), md_bodiesIn_12 N μ n (nI i) x (nI (s + b)) (if k + 1 < nb then nI (nd (Bs p j (k + 1)) - 1) else -1) = some (nI (s + (b + sm r (fun t => if Fm μ i (nd (Bs p j (k + (t + 1))) - 1) 0 = x then 1 else 0)))) := by
      intro b
      cases r with
      | zero =>
        rw [if_neg (by omega)]
        obtain ⟨n, rfl⟩ : ∃ m, n = m + 1 := ⟨n - 1, by omega⟩
        unfold md_bodiesIn_12
        rw [if_pos (by decide)]
        rfl
      | succ r =>
        rw [if_pos (by omega), bi_loop hV hi hlt h6 r (k + 1) (s + b) n (by omega) (by omega), Nat.add_assoc]
        congr 4
        apply sm_same
        intro t _
        show (if Fm μ i (nd (Bs p j (k + 1 + t)) - 1) 0 = x then 1 else 0) = _
        rw [show k + 1 + t = k + (t + 1) by omega]
    rw [hs6 1, hs6 0]
    rw [show Fm μ i (nd (Bs p j (k + 0)) - 1) 0 = μ 5 (643 + 1262 * i + 10 * (nd (Bs p j k) - 1) + 0) from rfl]
    by_cases q : μ 5 (643 + 1262 * i + 10 * (nd (Bs p j k) - 1) + 0) = x
    · rw [if_pos q, if_pos q, nI_1, hz 1]
    · rw [if_neg q, if_neg q, Int32.add_zero]
      exact hz 0
theorem bi_ev {f d bn j be : Nat} {x x' : Int32} (hn : NdS nd its) (hV : Vr i V sv μ) (hi : i < 6) (h : Ch p nd sv (f + 1) d bn j be) (hb : be ≤ its) (hl : ¬ Lf (p 7 j)) (hN : 6 ≤ N) (hx : ∀ k, k < 4 → p 15 (4 * j + k) ≠ -1 → (Fm μ i (nd (Bs p j k) - 1) 0 = x ↔ o 19 (Bs p j k) = x')) :
    md_bodiesIn N μ (nI i) (nI (nd j)) x = some (nI (nB p o j x')) := by
  have hits := hn.2.1
  have hlt := h.lt
  obtain ⟨nb, c1, c2, c3, c4, c5, c6, c7, c8, c9, c10, c11⟩ := h.cont (by omega) hl
  unfold md_bodiesIn
  rw [hV.np5 hi (hn.l64 (by omega)), Option.bind_some, c6, show (0 : Int32) = nI 0 from rfl]
  rw [bi_loop (nb := nb) (p := p) (j := j) hV hi (fun k hk => by
    obtain ⟨_, _, w3, w4, w5, _⟩ := c11 k hk
    have := hn.l64 (a := Bs p j k) (by omega)
    omega) (fun k hk => (c11 k hk).2.2.2.2.2.2.2.2.1) (nb - 1) 0 0 N (by omega) (by omega)]
  rw [show nb - 1 + 1 = nb by omega]
  congr 2
  unfold nB
  rw [sm_zero (n := nb) (m := 4) c2 (fun k h1 h2 => by rw [if_neg (fun z => z.1 (c10 k h1 h2))]), Nat.zero_add]
  apply sm_same
  intro k hk
  obtain ⟨_, w2, _⟩ := c11 k hk
  show (if Fm μ i (nd (Bs p j (0 + k)) - 1) 0 = x then 1 else 0) = _
  rw [Nat.zero_add]
  have := hx k (by omega) w2
  by_cases q : o 19 (Bs p j k) = x'
  · rw [if_pos (this.mpr q), if_pos ⟨w2, q⟩]
  · rw [if_neg (fun z => q (this.mp z)), if_neg (fun z => q z.2)]
theorem mS_2_iff {s : Int32} (h : s = 1 ∨ s = 4 ∨ s = 5 ∨ s = 6) : mS s = 2 ↔ s = 4 := by
  rcases h with q | q | q | q <;> subst q <;> decide
theorem mS_1_iff {s : Int32} (h : s = 1 ∨ s = 4 ∨ s = 5 ∨ s = 6) : mS s = 1 ↔ s = 1 := by
  rcases h with q | q | q | q <;> subst q <;> decide
/-! which body a task is in -/
theorem Bs_mono {j nb : Nat} (h : ∀ k, k < nb → Bs p j k < Bs p j (k + 1)) : ∀ (x k : Nat), k + x ≤ nb → Bs p j k ≤ Bs p j (k + x)
  | 0, k, _ => Nat.le_refl _
  | x + 1, k, hx => by
    have := Bs_mono h x k (by omega)
    have := h (k + x) (by omega)
    rw [show k + (x + 1) = k + x + 1 by omega]
    omega
theorem Bs_find {j nb t : Nat} : ∀ (x k : Nat), k + x = nb → Bs p j k ≤ t → t < Bs p j nb → ∃ K : Nat, K < nb ∧ Bs p j K ≤ t ∧ t < Bs p j (K + 1)
  | 0, k, hx, h1, h2 => by rw [show k = nb by omega] at h1; omega
  | x + 1, k, hx, h1, h2 => by
    by_cases q : t < Bs p j (k + 1)
    · exact ⟨k, by omega, h1, q⟩
    · exact Bs_find x (k + 1) (by omega) (by omega) h2
theorem cs_step {n j t k : Nat} {y : Int32} (hj : j < 24) (hk : k < 4) : in_concerns_36 N p o (n + 1) (nI j) (nI t) y (nI k) = in_concerns_36 N p o n (nI j) (nI t) (if nI t < p 15 (4 * j + k) then y else (if y < p 15 (4 * j + k) then p 15 (4 * j + k) else y)) (nI (k + 1)) := by
  conv => lhs; unfold in_concerns_36
  rw [if_pos (show nI k < 4 from nI_lt hk (by decide)), body_ev hj hk, Option.bind_some, nI_1]
  by_cases q : nI t < p 15 (4 * j + k)
  · rw [if_pos q, if_pos q]
  · rw [if_neg q, if_neg q]
theorem cs_ev {j t nb K : Nat} (hj : j < 24) (hN : 5 ≤ N) (ht : t < 24) (hnb : nb ≤ 4) (h15 : ∀ k, k < nb → p 15 (4 * j + k) = nI (Bs p j k) ∧ Bs p j k < Bs p j (k + 1)) (hend : ∀ k, nb ≤ k → k < 4 → p 15 (4 * j + k) = -1) (hB24 : Bs p j nb ≤ 24) (hK : K < nb) (h1 : Bs p j K ≤ t) (h2 : t < Bs p j (K + 1)) :
    in_concerns_36 N p o N (nI j) (nI t) (-1) 0 = if o 19 (Bs p j K) = 4 then some false else some true := by
  obtain ⟨n, hn⟩ : ∃ n, N = n + 5 := ⟨N - 5, by omega⟩
  have hm : ∀ a b, a ≤ b → b ≤ nb → Bs p j a ≤ Bs p j b := fun a b h3 h4 => by
    have := Bs_mono (fun k hk => (h15 k hk).2) (b - a) a (by omega)
    rw [show a + (b - a) = b by omega] at this
    exact this
  have step : ∀ k, k < 4 → (if nI t < p 15 (4 * j + k) then (if k = 0 then (-1 : Int32) else nI (Bs p j (min (k - 1) K))) else (if (if k = 0 then (-1 : Int32) else nI (Bs p j (min (k - 1) K))) < p 15 (4 * j + k) then p 15 (4 * j + k) else (if k = 0 then (-1 : Int32) else nI (Bs p j (min (k - 1) K))))) = nI (Bs p j (min (k + 1 - 1) K)) := by
    intro k hk
    by_cases q : k < nb
    · obtain ⟨w1, w2⟩ := h15 k q
      have hk24 := hm k nb (by omega) (Nat.le_refl _)
      rw [w1]
      by_cases q2 : k ≤ K
      · have h3 := hm k K q2 (by omega)
        rw [if_neg (nI_nlt (by omega) (by omega)), show min (k + 1 - 1) K = k by omega]
        by_cases q3 : k = 0
        · subst q3
          rw [if_pos rfl, if_pos]
          rw [Int32.lt_iff_toInt_lt, nI_toInt (by omega)]
          have : (-1 : Int32).toInt = -1 := by decide
          omega
        · have h4 := (h15 (k - 1) (by omega)).2
          rw [show k - 1 + 1 = k by omega] at h4
          rw [if_neg q3, show min (k - 1) K = k - 1 by omega, if_pos (nI_lt h4 (by omega))]
      · have h3 := hm (K + 1) k (by omega) (by omega)
        rw [if_pos (nI_lt (by omega) (by omega)), if_neg (by omega), show min (k - 1) K = K by omega, show min (k + 1 - 1) K = K by omega]
    · rw [hend k (by omega) hk, if_neg (show ¬ nI t < -1 by rw [Int32.lt_iff_toInt_lt, nI_toInt (by omega)]; have : (-1 : Int32).toInt = -1 := (by decide); omega), if_neg (show ¬ k = 0 by omega), show min (k - 1) K = K by omega, show min (k + 1 - 1) K = K by omega, if_neg]
      have hk24 := hm K nb (by omega) (Nat.le_refl _)
      rw [Int32.lt_iff_toInt_lt, nI_toInt (by omega)]
      have : (-1 : Int32).toInt = -1 := by decide
      omega
  have key : ∀ M : Nat, in_concerns_36 M p o (n + 5) (nI j) (nI t) (-1) (nI 0) = if o 19 (Bs p j K) = 4 then some false else some true := by
    intro M
    have s0 := step 0 (by omega)
    have s1 := step 1 (by omega)
    have s2 := step 2 (by omega)
    have s3 := step 3 (by omega)
    rw [if_pos rfl] at s0
    rw [if_neg (show ¬ 1 = 0 by decide)] at s1
    rw [if_neg (show ¬ 2 = 0 by decide)] at s2
    rw [if_neg (show ¬ 3 = 0 by decide)] at s3
    rw [cs_step hj (by omega), s0, cs_step hj (by omega), show 0 + 1 = 1 from rfl]
    rw [s1, cs_step hj (by omega), show 1 + 1 = 2 from rfl]
    rw [s2, cs_step hj (by omega), show 2 + 1 = 3 from rfl, s3]
    have hK24 := hm K nb (by omega) (Nat.le_refl _)
    unfold in_concerns_36
    rw [if_neg (by decide), show min (3 + 1 - 1) K = K by omega, ins24 (by omega), Option.bind_some, if_pos rfl, rd_nI (by omega) (by decide), Option.bind_some]
  have := key N
  rw [← hn] at this
  exact this
/-- the reference climbs from a task to the body that it is in -/
theorem climb {τ w : Nat} (hn : NdS nd its) (hV : Vr i V sv μ) (hi : i < 6) (hw : w < its) (hτ : τ = nd w) : ∀ (f d bn j be t : Nat), Ch p nd sv f d bn j be → be ≤ its → bn < 64 → bn ≠ τ → (∀ b, b < its → Bst nd b → nd b - 1 ≠ τ) → d ≤ 4 → j ≤ t → t < be → (∀ c, j ≤ c → c < t → t < En p c → nd c ≠ τ) →
    ∃ s : Nat, s + 2 * d ≤ 9 ∧ ∀ n, md_isFor_9 N μ (n + s) (nI i) (nI τ) (nI (nd t)) = md_isFor_9 N μ n (nI i) (nI τ) (nI bn)
  | 0, d, bn, j, be, t, h, _, _, _, _, _, _, _, _ => h.elim
  | f + 1, d, bn, j, be, t, h, hb, hbn, hne, hbs, hd, h1, h2, hc => by
    have hits := hn.2.1
    have hch := h
    have h64 : τ < 64 := by rw [hτ]; exact hn.l64 hw
    obtain ⟨m, nb, g1, g2, g3, g4, g5, g6⟩ := h
    have he : En p j = m := En_eq g3 (by omega)
    have one : ∀ n, md_isFor_9 N μ (n + 1) (nI i) (nI τ) (nI (nd j)) = md_isFor_9 N μ n (nI i) (nI τ) (nI bn) := by
      intro n
      have := hn.l64 (a := j) (by omega)
      conv => lhs; unfold md_isFor_9
      rw [if_neg (nI_pos (by omega)), hV.np8 hi this, Option.bind_some, g4, if_neg (fun z => hne (nI_inj (by omega) (by omega) z)), Option.bind_some]
    by_cases q : t = j
    · subst q
      exact ⟨1, by omega, one⟩
    · by_cases q2 : t < m
      · have hl : ¬ Lf (p 7 j) := fun z => by
          rcases g6 with ⟨_, w, _⟩ | ⟨w, _⟩
          · omega
          · rcases w with w | w <;> rw [w.1] at z <;> (unfold Lf at z; revert z; decide)
        obtain ⟨nb', c1, c2, c3, c4, c5, c6, c7, c8, c9, c10, c11⟩ := hch.cont (by omega) hl
        obtain ⟨K, k1, k2, k3⟩ := Bs_find (p := p) (j := j) (nb := nb') (t := t) nb' 0 (by omega) (by omega) (by omega)
        obtain ⟨w1, w2, w3, w4, w5, w6, w7, w8, w9, w10, w11⟩ := c11 K k1
        have hB64 := hn.l64 (a := Bs p j K) (by omega)
        obtain ⟨s, s1, s2⟩ := climb hn hV hi hw hτ f (d + 1) _ _ _ t w11 (by omega) (by omega) (hbs _ (by omega) w6) hbs (by omega) k2 k3 (fun c x1 x2 x3 => hc c (by omega) x2 x3)
        have hj64 := hn.l64 (a := j) (by omega)
        refine ⟨s + 2, by omega, fun n => ?_⟩
        rw [show n + (s + 2) = (n + 1 + 1) + s by omega, s2]
        conv => lhs; unfold md_isFor_9
        rw [if_neg (nI_pos (by omega)), hV.np8 hi (by omega), Option.bind_some, w10, if_neg (fun z => hc j (Nat.le_refl _) (by omega) (by omega) (nI_inj (by omega) (by omega) z)), Option.bind_some]
        exact one n
      · rcases g5 with ⟨r1, _⟩ | ⟨r1, r2, r3, r4⟩
        · omega
        · exact climb hn hV hi hw hτ f d bn m be t r4 hb hbn hne hbs hd (by omega) h2 (fun c x1 x2 x3 => hc c (by omega) x2 x3)
end RC
