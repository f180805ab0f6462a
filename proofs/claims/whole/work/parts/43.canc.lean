/-! compensation from its entry; what is cancelled -/
section RX
variable {p : Mem} {nd : Nat → Nat} {sv : Nat → Nat → Int32} {i V its rl B B' N : Nat} {o h e μ o' h' e' μ' : Mem}
theorem comp_sim {w n a c : Nat} {con : Nat → Bool} (hN : 100 ≤ N) (hB : B < 3700) (hi : i < 6) (hS : ST p nd sv its) (hw : Own p nd its o w n) (hwa : ¬ (a ≤ w ∧ w < c)) (hc : c ≤ its) (hcon : ∀ t, con t = true → a ≤ t ∧ t < c)
    (hC : ∀ o1 e1 μ1, CF nd its i w n a c o e μ o1 e1 μ1 → Vr i V sv μ1 → ∀ t, t < its → in_concerns N p o1 (nI w) (nI t) = some (con t) ∧ md_isFor N μ1 (nI i) (nI (nd t)) (nI n) = some (con t))
    (H : R p nd sv i V its rl B o h e μ) (hst : (o 24 w = -1 ∧ Fm μ i n 7 = -1) ∨ RevX p nd i w n o μ a c) :
    ∃ b o' h' e' μ', in_reversesAll N rl p (nI w) o h e = some (b, o', h', e') ∧ md_compensates N (nI i) (nI n) μ = some (b, μ') ∧ CRes p nd sv i V its rl B w n a c o e μ b o' h' e' μ' := by
  obtain ⟨hw25, hn64⟩ := hw.w25 hS.1
  obtain ⟨On, Fre⟩ := comp_loop hN hB hi hS hw hwa hc hcon hC 72
  obtain ⟨N', hN'⟩ : ∃ k, N = k + 1 := ⟨N - 1, by omega⟩
  have hcn := cn_le (o := o)
  have hits := hS.1.2.1
  rcases hst with ⟨q1, q2⟩ | q
  · obtain ⟨b, o', h', e', μ', y1, y2, y3⟩ := Fre N' N 0 o h e μ H CF.refl q1 q2 (by omega) (by omega) (by omega) (by omega)
    refine ⟨b, o', h', e', μ', ?_, y2, y3⟩
    have : ∀ M : Nat, in_reversesAll_2 M rl p (N' + 1) (nI w) (nI 0) o h e = in_reversesAll_46 M rl p (in_reversesAll_2 M rl p N') (nI w) (nI 0) o h e := by
      intro M
      conv => lhs; unfold in_reversesAll_2
      rw [if_neg (by decide), rd_nI (by omega) (by decide), Option.bind_some, q1, if_pos (by decide)]
    have h2 := this N
    rw [← hN'] at h2
    unfold in_reversesAll
    rw [show (0 : Int32) = nI 0 from rfl, h2, y1]
  · have q0 := q
    obtain ⟨t, f, u, cd, z1, z2, z3, z4, z5, z6, z7, z8, z9⟩ := q
    obtain ⟨b, o', h', e', μ', y1, y2, y3⟩ := On N N' 0 o h e μ H CF.refl q0 (fun f q1 q2 => by omega) (by omega) (by omega) (by omega)
    refine ⟨b, o', h', e', μ', y1, ?_, y3⟩
    have : ∀ M : Nat, md_compensates_0 M (N' + 1) (nI i) (nI n) μ = md_compensates_60 M (md_compensates_0 M N') (nI i) (nI n) μ := by
      intro M
      conv => lhs; unfold md_compensates_0
      rw [at_7, Option.bind_some, rd_nI (by omega) (by decide), Option.bind_some, show μ 5 (643 + 1262 * i + 10 * n + 7) = nI (nd t) from z8, if_neg (nI_pos (by have := hS.1.l64 (a := t) (by omega); omega))]
    have h2 := this N
    rw [← hN'] at h2
    unfold md_compensates
    rw [h2, y2]
theorem comp_whole (hN : 100 ≤ N) (hB : B < 3700) (hi : i < 6) (hS : ST p nd sv its) (h3 : o 0 3 = 2) (H : R p nd sv i V its rl B o h e μ) (hst : (o 24 24 = -1 ∧ Fm μ i 0 7 = -1) ∨ RevX p nd i 24 0 o μ 0 its) :
    ∃ b o' h' e' μ', in_reversesAll N rl p 24 o h e = some (b, o', h', e') ∧ md_compensates N (nI i) 0 μ = some (b, μ') ∧ CRes p nd sv i V its rl B 24 0 0 its o e μ b o' h' e' μ' := by
  have hits := hS.1.2.1
  refine comp_sim (w := 24) (n := 0) (a := 0) (c := its) (con := fun t => decide (t < its)) hN hB hi hS (Or.inl ⟨rfl, rfl, h3⟩) (fun z => by omega) (Nat.le_refl _) (fun t ht => ⟨Nat.zero_le _, by simpa using ht⟩) (fun o1 e1 μ1 _ _ t ht => ⟨?_, ?_⟩) H hst
  · unfold in_concerns
    rw [show xs_isInside (nI 24) 24 = some false by decide, Option.bind_some, if_neg (by decide)]
    simp [ht]
  · unfold md_isFor
    rw [if_pos (by rfl)]
    simp [ht]
theorem comp_par {f d bn j be : Nat} (hN : 100 ≤ N) (hB : B < 3700) (hi : i < 6) (hS : ST p nd sv its) (hc : Ch p nd sv (f + 1) d bn j be) (hb : be ≤ its) (h5 : p 7 j = 5) (h3 : o 18 j = 3) (H : R p nd sv i V its rl B o h e μ)
    (hbd : ∀ k, k < 4 → p 15 (4 * j + k) ≠ -1 → Fm μ i (nd (Bs p j k) - 1) 0 = mS (o 19 (Bs p j k)) ∧ (o 19 (Bs p j k) = 4 ∨ o 19 (Bs p j k) = 5 ∨ o 19 (Bs p j k) = 6)) (hst : (o 24 j = -1 ∧ Fm μ i (nd j) 7 = -1) ∨ RevX p nd i j (nd j) o μ (j + 1) (En p j)) :
    ∃ b o' h' e' μ', in_reversesAll N rl p (nI j) o h e = some (b, o', h', e') ∧ md_compensates N (nI i) (nI (nd j)) μ = some (b, μ') ∧ CRes p nd sv i V its rl B j (nd j) (j + 1) (En p j) o e μ b o' h' e' μ' := by
  have hn := hS.1
  have hits := hn.2.1
  have hjl := hc.lt
  have hl : ¬ Lf (p 7 j) := by rw [h5]; unfold Lf; decide
  have hen : En p j ≤ be := by
    obtain ⟨m, nb, _, q2, q, _⟩ := hc
    rw [En_eq q (by omega)]; exact q2
  have hbst : ∀ k, k < 4 → p 15 (4 * j + k) ≠ -1 → Bs p j k < its ∧ Bst nd (Bs p j k) := fun k hk hp => by
    obtain ⟨b1, b2, b3, _, _, b6⟩ := hc.body (by omega) hk hp hl
    exact ⟨by omega, b6⟩
  refine comp_sim (con := fun t => if t < its then (in_concerns N p o (nI j) (nI t)).getD false else false) hN hB hi hS (Or.inr ⟨by omega, rfl, h5, h3⟩) (by omega) (by omega) (fun t ht => ?_) (fun o1 e1 μ1 hcf hV t ht => ?_) H hst
  · by_cases q : t < its
    · rw [if_pos q] at ht
      obtain ⟨b, b1, b2, b3⟩ := con_sim (t := t) (N := N) (by omega) hS H.1 hi hc hb hl hbd q
      rw [b1] at ht
      have := b3 ht
      omega
    · rw [if_neg q] at ht
      exact absurd ht (by decide)
  · have h19 : o1 19 = o 19 := funext fun k => hcf.1 19 k (by omega)
    obtain ⟨b, b1, b2, b3⟩ := con_sim (o := o1) (μ := μ1) (t := t) (N := N) (by omega) hS hV hi hc hb hl (fun k hk hp => by
      obtain ⟨w1, w2⟩ := hbst k hk hp
      rw [h19, hcf.2.2.2.2.2.2.1 _ w1 w2 (hn.bst (by omega) w1 w2) 0 (by omega)]
      exact hbd k hk hp) ht
    have e1 : in_concerns N p o (nI j) (nI t) = some b := by rw [← con_19 h19]; exact b1
    rw [if_pos ht, e1]
    exact ⟨b1, b2⟩
/-! cancelling -/
def Kx (o o' : Mem) (a c : Nat) : Prop := (∀ c' k, ¬ (c' = 18 ∧ a ≤ k ∧ k < c) → o' c' k = o c' k) ∧ ∀ k, a ≤ k → k < c → (Gi (o 18 k) → o' 18 k = 6) ∧ (¬ Gi (o 18 k) → o' 18 k = o 18 k)
theorem Kx.qt {a c : Nat} (h : Qt o a c) : Kx o o a c := ⟨fun _ _ _ => rfl, fun k h1 h2 => ⟨fun q => absurd q (h k h1 h2), fun _ => rfl⟩⟩
theorem Kx.app {a b c : Nat} {o1 o2 : Mem} (h1 : Kx o o1 a b) (h2 : Kx o1 o2 b c) (hab : a ≤ b) (hbc : b ≤ c) : Kx o o2 a c := by
  refine ⟨fun c' k hk => (h2.1 c' k (by omega)).trans (h1.1 c' k (by omega)), fun k hk1 hk2 => ?_⟩
  by_cases q : k < b
  · rw [h2.1 18 k (by omega)]
    exact h1.2 k hk1 q
  · have := h2.2 k (by omega) hk2
    rw [h1.1 18 k (by omega)] at this
    exact this
theorem Kx.eq {a c : Nat} {o1 o2 : Mem} (h1 : Kx o o1 a c) (h2 : Kx o o2 a c) : o1 = o2 := by
  funext c' k
  by_cases q : c' = 18 ∧ a ≤ k ∧ k < c
  · obtain ⟨rfl, q1, q2⟩ := q
    have x := h1.2 k q1 q2
    have y := h2.2 k q1 q2
    by_cases w : Gi (o 18 k)
    · rw [x.1 w, y.1 w]
    · rw [x.2 w, y.2 w]
  · rw [h1.1 c' k q, h2.1 c' k q]
theorem Kx.qt' {a c : Nat} (h : Kx o o' a c) : Qt o' a c := fun k h1 h2 => by
  have := h.2 k h1 h2
  by_cases w : Gi (o 18 k)
  · rw [this.1 w]; exact nGi6
  · rw [this.2 w]; exact w
theorem cxl_ev {c : Nat} (hc : c ≤ 24) : ∀ (r n a : Nat) (o : Mem), a + r = c → r < n → ∃ o', in_cancel_2 N n (nI c) (nI a) o = some o' ∧ Kx o o' a c
  | 0, n, a, o, h1, h2 => by
    obtain ⟨n, rfl⟩ : ∃ k, n = k + 1 := ⟨n - 1, by omega⟩
    refine ⟨o, ?_, fun _ _ _ => rfl, fun k _ _ => by omega⟩
    unfold in_cancel_2
    rw [if_neg (nI_nlt (by omega) (by omega))]
  | r + 1, n, a, o, h1, h2 => by
    obtain ⟨n, rfl⟩ : ∃ k, n = k + 1 := ⟨n - 1, by omega⟩
    by_cases q : Gi (o 18 a)
    · obtain ⟨o', e1, e2⟩ := cxl_ev hc r n (a + 1) (up o 18 a 6) (by omega) (by omega)
      refine ⟨o', ?_, Kx.app (b := a + 1) ?_ e2 (by omega) (by omega)⟩
      · unfold in_cancel_2
        rw [if_pos (nI_lt (by omega) (by omega)), ins24 (by omega), Option.bind_some, if_pos rfl, goesOn_t (by omega) q, Option.bind_some, if_pos rfl, ck_nI (by omega) (by decide), nI_clamp (by omega), nI_1]
        exact e1
      · refine ⟨fun c' k hk => up_other (by omega), fun k k1 k2 => ?_⟩
        have : k = a := by omega
        subst this
        exact ⟨fun _ => up_at, fun w => absurd q w⟩
    · obtain ⟨o', e1, e2⟩ := cxl_ev hc r n (a + 1) o (by omega) (by omega)
      refine ⟨o', ?_, Kx.app (b := a + 1) ?_ e2 (by omega) (by omega)⟩
      · unfold in_cancel_2
        rw [if_pos (nI_lt (by omega) (by omega)), ins24 (by omega), Option.bind_some, if_pos rfl, goesOn_f (by omega) q, Option.bind_some, if_neg (by decide), nI_1]
        exact e1
      · refine ⟨fun _ _ _ => rfl, fun k k1 k2 => ?_⟩
        have : k = a := by omega
        subst this
        exact ⟨fun w => absurd w q, fun _ => rfl⟩
theorem cancel_ev {a c : Nat} (hN : 30 ≤ N) (hc : c ≤ 24) (hac : a ≤ c) : ∃ o', in_cancel N (nI a) (nI c) o = some o' ∧ Kx o o' a c :=
  cxl_ev hc (c - a) N a o (by omega) (by omega)
/-- one item is cancelled -/
theorem R.cxl {j : Nat} (H : R p nd sv i V its rl B o h e μ) (hi : i < 6) (hn : NdS nd its) (hj : j < its) (hg : Gi (o 18 j)) :
    R p nd sv i V its rl B (up o 18 j 6) h e (up (up μ 5 (643 + 1262 * i + 10 * nd j + 0) 4) 5 (643 + 1262 * i + 10 * nd j + 7) (-1)) ∧ Fr nd its i j (j + 1) (j + 1) o e μ (up o 18 j 6) e (up (up μ 5 (643 + 1262 * i + 10 * nd j + 0) 4) 5 (643 + 1262 * i + 10 * nd j + 7) (-1)) := by
  obtain ⟨E, E1, E2⟩ := H.2.2.2.1
  have h64 := hn.l64 hj
  have hir := H.2.2.2.2.2.1 j hj
  have g6 := hir.g6 (Or.inr hg)
  refine H.node (B' := B) (x := 0) hi hn hj (fun c k q => up_other (by omega)) (fun r hr => by rw [up_row hr, up_row hr]) (fun k q1 q2 q3 => by rw [up_in (by omega), up_in (by omega)]) E2 (E1.fr (by rw [up_in (by omega), up_in (by omega)]) (fun k _ _ => by rw [up_in (by omega), up_in (by omega)])) (by rw [up_at, wt6]; omega)
    (fun _ => by rw [up_at]; exact ⟨fun q => absurd q nDn6, fun q => absurd q (Gi_nDn hg)⟩) (fun q => absurd q (Gi_nDn hg)) ?_
  unfold IR
  have e0 : Fm (up (up μ 5 (643 + 1262 * i + 10 * nd j + 0) 4) 5 (643 + 1262 * i + 10 * nd j + 7) (-1)) i (nd j) 0 = 4 := by show up _ _ _ _ _ _ = _; rw [up_in (by omega), up_at]
  have e6 : Fm (up (up μ 5 (643 + 1262 * i + 10 * nd j + 0) 4) 5 (643 + 1262 * i + 10 * nd j + 7) (-1)) i (nd j) 6 = 0 := by show up _ _ _ _ _ _ = _; rw [up_in (by omega), up_in (by omega)]; exact g6
  have e7 : Fm (up (up μ 5 (643 + 1262 * i + 10 * nd j + 0) 4) 5 (643 + 1262 * i + 10 * nd j + 7) (-1)) i (nd j) 7 = -1 := up_at
  rw [e0, e6, e7, up_at]
  exact ⟨rfl, ⟨6, by omega, rfl⟩, fun q => absurd q (by decide), fun _ => rfl, fun q => absurd q (by decide), fun _ _ => rfl, fun _ q => absurd q (by decide), fun _ q => absurd q (by decide), fun q => absurd q (by decide), fun q => absurd q (by decide), fun _ q => absurd q (by decide), fun _ q => absurd q (by decide), fun _ q => absurd q (by decide), fun q => absurd q (by decide), fun _ q => absurd q (by decide)⟩
/-- a body's node of the reference changes -/
theorem R.bnode {b : Nat} {x : Int32} (H : R p nd sv i V its rl B o h e μ) (hi : i < 6) (hn : NdS nd its) (hb : b < its) (hs : Bst nd b) :
    R p nd sv i V its rl B o h e (up μ 5 (643 + 1262 * i + 10 * (nd b - 1) + 0) x) ∧ FrM nd its i (b + 1) b (b + 1) μ (up μ 5 (643 + 1262 * i + 10 * (nd b - 1) + 0) x) := by
  have h64 := hn.l64 hb
  have hne : ∀ j, j < its → nd b - 1 ≠ nd j := fun j hj => hn.bst hj hb hs
  have hF : ∀ n w, n ≠ nd b - 1 → w < 10 → Fm (up μ 5 (643 + 1262 * i + 10 * (nd b - 1) + 0) x) i n w = Fm μ i n w := fun n w h1 h2 => up_in (by omega)
  obtain ⟨H1, H2, H3, ⟨E, H4, H5⟩, H6, H7, H8, H9⟩ := H
  refine ⟨⟨H1.fr (up_row (by decide)) (up_row (by decide)) (up_in (by omega)) (up_in (by omega)), H2.fr (fun k hk => up_in (by omega)), H3.fr (fun _ _ _ => rfl) rfl rfl (fun k q1 q2 q3 => up_in (by omega)), ⟨E, H4.fr (up_in (by omega)) (fun k _ _ => up_in (by omega)), H5⟩, H6.fr rfl (fun _ _ => rfl) (fun _ _ _ => Iff.rfl) (fun j hj _ _ => hF _ _ (fun q => hne j hj q.symm) (by omega)), fun j hj => (H7 j hj).fr rfl rfl rfl rfl (fun w hw => hF _ _ (fun q => hne j hj q.symm) hw), H8, fun b' hb' hs' h0 => ?_⟩, fun r hr => up_row hr, fun k q1 q2 => up_in (by omega), fun j hj _ w hw => hF _ _ (fun q => hne j hj q.symm) hw, fun b' hb' hs' q w hw => hF _ _ (fun z => by have := hn.bb hb' hb z; omega) hw⟩
  by_cases q : nd b' - 1 = nd b - 1
  · rw [show Fm (up μ 5 (643 + 1262 * i + 10 * (nd b - 1) + 0) x) i (nd b' - 1) 7 = Fm μ i (nd b' - 1) 7 from up_in (by omega)]
    exact H9 b' hb' hs' h0
  · rw [hF _ _ q (by omega)]; exact H9 b' hb' hs' h0
theorem FrM.refl {a a' c : Nat} : FrM nd its i a a' c μ μ := ⟨fun _ _ => rfl, fun _ _ _ => rfl, fun _ _ _ _ _ => rfl, fun _ _ _ _ _ _ => rfl⟩
theorem FrM.trans {a a' c : Nat} {μ1 μ2 : Mem} (h1 : FrM nd its i a a' c μ μ1) (h2 : FrM nd its i a a' c μ1 μ2) : FrM nd its i a a' c μ μ2 := by
  obtain ⟨x6, x7, x8, x9⟩ := h1
  obtain ⟨y6, y7, y8, y9⟩ := h2
  exact ⟨fun r hr => (y6 r hr).trans (x6 r hr), fun k hk hk2 => (y7 k hk hk2).trans (x7 k hk hk2), fun j hj hj2 w hw => (y8 j hj hj2 w hw).trans (x8 j hj hj2 w hw), fun b hb hs hb2 w hw => (y9 b hb hs hb2 w hw).trans (x9 b hb hs hb2 w hw)⟩
theorem FrM.mono {a a' c b b' g : Nat} {μ1 : Mem} (h : FrM nd its i a a' c μ μ1) (h1 : b ≤ a) (h2 : b' ≤ a') (h3 : c ≤ g) : FrM nd its i b b' g μ μ1 := by
  obtain ⟨x6, x7, x8, x9⟩ := h
  exact ⟨x6, x7, fun j hj hj2 => x8 j hj (by omega), fun b hb hs hb2 => x9 b hb hs (by omega)⟩
/-- a range without bodies of its own may begin later -/
theorem Kx.ag {a c x x' y : Nat} {μ1 : Mem} (h : Kx o o' a c) (g : FrM nd its i a (a + 1) c μ μ1) (hy : y ≤ its) (h1 : y ≤ a ∨ c ≤ x) (h2 : y ≤ a + 1 ∨ c ≤ x') : Ag nd i x x' y o μ o' μ1 := by
  refine ⟨fun j hj hj2 => ⟨h.1 18 j (by omega), h.1 22 j (by omega), h.1 23 j (by omega), h.1 24 j (by omega), g.2.2.1 j (by omega) (by omega)⟩, fun j hj hj2 => ⟨h.1 19 j (by omega), h.1 20 j (by omega), fun hs => g.2.2.2 j (by omega) hs (by omega)⟩⟩
end RX
