/-! parallels, looked at and begun; choices begun -/
section RQ
variable {p : Mem} {nd : Nat → Nat} {sv : Nat → Nat → Int32} {i V its rl B B' N D : Nat} {o h e μ o' h' e' μ' : Mem}
/-- the facts that a loop over the bodies of an item stands on -/
def CB (p : Mem) (nd : Nat → Nat) (sv : Nat → Nat → Int32) (f d j nb : Nat) : Prop := nb ≤ 4 ∧ Bs p j 0 = j + 1 ∧ Bs p j nb = En p j ∧ (∀ k, nb ≤ k → k < 4 → p 15 (4 * j + k) = -1) ∧ ∀ k, k < nb → p 15 (4 * j + k) = nI (Bs p j k) ∧ p 15 (4 * j + k) ≠ -1 ∧ j + 1 ≤ Bs p j k ∧ Bs p j k < Bs p j (k + 1) ∧ Bs p j (k + 1) ≤ En p j ∧ Bst nd (Bs p j k) ∧ sv (nd (Bs p j k) - 1) 0 = 0 ∧ sv (nd (Bs p j k) - 1) 5 = nI (nd (Bs p j k)) ∧
        sv (nd (Bs p j k) - 1) 6 = (if k + 1 < nb then nI (nd (Bs p j (k + 1)) - 1) else -1) ∧ sv (nd (Bs p j k) - 1) 8 = nI (nd j) ∧ Ch p nd sv f (d + 1) (nd (Bs p j k) - 1) (Bs p j k) (Bs p j (k + 1))
theorem CB.mono {f d j nb a b : Nat} (h : CB p nd sv f d j nb) (h3 : a ≤ b) (h4 : b ≤ nb) : Bs p j a ≤ Bs p j b := by
  have := Bs_mono (fun k hk => (h.2.2.2.2 k hk).2.2.2.1) (b - a) a (by omega)
  rw [show a + (b - a) = b by omega] at this
  exact this
theorem CB.find {f d j nb x : Nat} (h : CB p nd sv f d j nb) (h1 : j + 1 ≤ x) (h2 : x < En p j) : ∃ K, K < nb ∧ Bs p j K ≤ x ∧ x < Bs p j (K + 1) :=
  Bs_find (p := p) (j := j) (nb := nb) (t := x) nb 0 (by omega) (by rw [h.2.1]; exact h1) (by rw [h.2.2.1]; exact h2)
/-- bodies that have been looked at or begun -/
def BDone (p : Mem) (nd : Nat → Nat) (i f j k : Nat) (o e μ : Mem) : Prop := ∀ k', k' < k → BodyS p nd i f o e μ (Bs p j k') (Bs p j (k' + 1)) ∧ Fm μ i (nd (Bs p j k') - 1) 0 = mS (o 19 (Bs p j k'))
theorem BDone.step {f d j nb k : Nat} {o1 e1 μ1 h1 : Mem} {r : Int32} (hcb : CB p nd sv f d j nb) (hen : En p j ≤ its) (h24 : its ≤ 24) (hk : k < nb) (h : BDone p nd i f j k o e μ) (hb : BPost p nd sv i V its rl B f o e μ (Bs p j k) (Bs p j (k + 1)) o1 h1 e1 μ1 r) : BDone p nd i f j (k + 1) o1 e1 μ1 := fun k' hk' => by
  obtain ⟨x3, x4, x5, x6, x7⟩ := hb
  by_cases q : k' = k
  · subst q; exact ⟨x7, x6⟩
  · obtain ⟨w1, w2, w3, w4, w5, w6, w7, w8, w9, w10, w11⟩ := hcb.2.2.2.2 k' (by omega)
    have hm := hcb.mono (a := k' + 1) (b := k) (by omega) (by omega)
    obtain ⟨y1, y2⟩ := h k' (by omega)
    have hag : Ag nd i (Bs p j k') (Bs p j k') (Bs p j (k' + 1)) o μ o1 μ1 := x4.ag (by omega) (by omega) _ (by omega)
    refine ⟨y1.ag w11 (by omega) hag x4.1.2.2.2 (by rw [x4.2.1 1 (by decide)]), ?_⟩
    obtain ⟨z1, _, z2⟩ := hag.2 (Bs p j k') (Nat.le_refl _) w4
    rw [z1, z2 w6 0 (by omega)]; exact y2
theorem lp_end {j k n : Nat} {Bx : Bool → Int32 → Int32 → Mem → Mem → Mem → Option (Mem × Mem × Mem)} {y : Int32} (hj : j < 24) (hB : ∀ o h e, Bx true (-1) y o h e = some (o, h, e)) : ∀ s k n, k + s = 4 → s < n → (∀ k', k ≤ k' → k' < 4 → p 15 (4 * j + k') = -1) → in_lookAtParallel_12 N rl p Bx n (nI j) y (nI k) o h e = (in_join N rl p e (nI j) o h).bind fun (o39, h39) => in_lookAtParallel_42 N rl p Bx (nI j) o39 h39 e := by
  intro s
  induction s with
  | zero =>
    intro k m hk hm _
    obtain ⟨m, rfl⟩ : ∃ x, m = x + 1 := ⟨m - 1, by omega⟩
    unfold in_lookAtParallel_12
    rw [show k = 4 by omega, if_neg (by decide)]
  | succ s ih =>
    intro k m hk hm hs
    obtain ⟨m, rfl⟩ : ∃ x, m = x + 1 := ⟨m - 1, by omega⟩
    conv => lhs; unfold in_lookAtParallel_12
    rw [if_pos (show nI k < 4 from nI_lt (b := 4) (by omega) (by decide)), body_ev hj (by omega), Option.bind_some, nI_1, hs k (Nat.le_refl _) (by omega), hB, Option.bind_some]
    exact ih (k + 1) m (by omega) (by omega) (fun k' q1 q2 => hs k' (by omega) q2)
theorem lp_loop {f d bn j be nb n nm : Nat} (hi : i < 6) (hS : ST p nd sv its) (hG : GoS p nd sv i V its rl B N D f) (hcb : CB p nd sv f d j nb) (hj : j < its) (hen : En p j ≤ its) (hd : d < 4) (hn : 9 ≤ n + 2 * (d + 1)) (hnm : 4 ≤ nm + (d + 1))
    (hGo : ∀ k, k < nb → Fm μ i (nd (Bs p j k) - 1) 0 = mS (o 19 (Bs p j k)) ∧ ((o 19 (Bs p j k) = 1 ∧ ∃ cu : Nat, o 20 (Bs p j k) = nI cu ∧ RunC p nd i o μ f (Bs p j k) (Bs p j (k + 1)) cu) ∨ ((o 19 (Bs p j k) = 4 ∨ o 19 (Bs p j k) = 5) ∧ Qt o (Bs p j k) (Bs p j (k + 1))))) :
    ∀ (r k mx mm : Nat) (ok hk ek μk : Mem), k + r = nb → r + 6 ≤ mx → r < mm → R p nd sv i V its rl B ok hk ek μk → Fr nd its i (j + 1) (j + 1) (Bs p j k) o e μ ok ek μk → BDone p nd i f j k ok ek μk →
      ∃ o1 h1 e1 μ1 mm1, in_lookAtParallel_12 N rl p (kn_igo N rl p (n + 1)) mx (nI j) (nI (d + 1)) (nI k) ok hk ek = ((in_join N rl p e1 (nI j) o1 h1).bind fun (o39, h39) => in_lookAtParallel_42 N rl p (kn_igo N rl p (n + 1)) (nI j) o39 h39 e1) ∧
        md_looksAtParallel_23 N D (kn_mlook N D (nm + 1)) mm (nI i) (nI (nd j)) (if k < nb then nI (nd (Bs p j k) - 1) else -1) μk = md_looksAtParallel_23 N D (kn_mlook N D (nm + 1)) (mm1 + 1) (nI i) (nI (nd j)) (-1) μ1 ∧
        R p nd sv i V its rl B o1 h1 e1 μ1 ∧ Fr nd its i (j + 1) (j + 1) (En p j) o e μ o1 e1 μ1 ∧ BDone p nd i f j nb o1 e1 μ1 := by
  have hnd := hS.1
  have hits := hnd.2.1
  obtain ⟨c2, c7, c8, c10, c11⟩ := hcb
  intro r
  induction r with
  | zero =>
    intro k mx mm ok hk ek μk hkr hmx hmm hR hF hD
    have hkn : k = nb := by omega
    subst hkn
    rw [c8] at hF
    obtain ⟨mm, rfl⟩ : ∃ x, mm = x + 1 := ⟨mm - 1, by omega⟩
    refine ⟨ok, hk, ek, μk, mm, ?_, by rw [if_neg (by omega)], hR, hF, hD⟩
    exact lp_end (j := j) (k := 0) (n := 0) (by omega) (fun o h e => by rw [igo_t]; exact goOn_none) (4 - k) k mx (by omega) (by omega) c10
  | succ r ih =>
    intro k mx mm ok hk ek μk hkr hmx hmm hR hF hD
    obtain ⟨mx, rfl⟩ : ∃ x, mx = x + 1 := ⟨mx - 1, by omega⟩
    obtain ⟨mm, rfl⟩ : ∃ x, mm = x + 1 := ⟨mm - 1, by omega⟩
    obtain ⟨w1, w2, w3, w4, w5, w6, w7, w8, w9, w10, w11⟩ := c11 k (by omega)
    have hB64 := hnd.l64 (a := Bs p j k) (by omega)
    have hBp := hnd.pos (a := Bs p j k) (by omega)
    obtain ⟨g1, g2⟩ := hGo k (by omega)
    have hag : Ag nd i (Bs p j k) (Bs p j k) (Bs p j (k + 1)) o μ ok μk := hF.ag (by omega) (by omega) _ (by omega)
    obtain ⟨a1, a2, a3⟩ := hag.2 (Bs p j k) (Nat.le_refl _) w4
    have eF : Fm μk i (nd (Bs p j k) - 1) 0 = mS (o 19 (Bs p j k)) := (a3 w6 0 (by omega)).trans g1
    have hX0 : in_lookAtParallel_12 N rl p (kn_igo N rl p (n + 1)) (mx + 1) (nI j) (nI (d + 1)) (nI k) ok hk ek = (in_goOn N rl p (kn_igo N rl p n) (nI (Bs p j k)) (nI (d + 1)) ok hk ek).bind fun (o28, h28, e28) => in_lookAtParallel_12 N rl p (kn_igo N rl p (n + 1)) mx (nI j) (nI (d + 1)) (nI (k + 1)) o28 h28 e28 := by
      conv => lhs; unfold in_lookAtParallel_12
      rw [if_pos (show nI k < 4 from nI_lt (b := 4) (by omega) (by decide)), body_ev (by omega) (by omega), Option.bind_some, nI_1, w1, igo_t]
    have hM0 : md_looksAtParallel_23 N D (kn_mlook N D (nm + 1)) (mm + 1) (nI i) (nI (nd j)) (nI (nd (Bs p j k) - 1)) μk = if o 19 (Bs p j k) = 1 then ((md_looksAtBody N D (kn_mlook N D nm) (nI i) (nI (nd (Bs p j k) - 1)) μk).bind fun (k45, μ45) => (md_nodePart μ45 (nI i) (nI (nd (Bs p j k) - 1)) 6).bind fun k59 => md_looksAtParallel_23 N D (kn_mlook N D (nm + 1)) mm (nI i) (nI (nd j)) k59 μ45)
        else (md_nodePart μk (nI i) (nI (nd (Bs p j k) - 1)) 6).bind fun k59 => md_looksAtParallel_23 N D (kn_mlook N D (nm + 1)) mm (nI i) (nI (nd j)) k59 μk := by
      conv => lhs; unfold md_looksAtParallel_23
      unfold md_looksAtParallel_52
      rw [if_neg (nI_pos (by omega)), at_0, Option.bind_some, rd_nI (by omega) (by decide), Option.bind_some, show μk 5 (643 + 1262 * i + 10 * (nd (Bs p j k) - 1) + 0) = mS (o 19 (Bs p j k)) from eF]
      rcases g2 with ⟨z, _⟩ | ⟨z | z, _⟩
      · rw [z, if_pos (by decide), if_pos rfl]; rfl
      · rw [z, if_neg (by decide), if_neg (by decide)]
      · rw [z, if_neg (by decide), if_neg (by decide)]
    rw [if_pos (by omega), hX0, hM0]
    rcases g2 with ⟨z, cu, z1, z2⟩ | ⟨z, z1⟩
    · rw [if_pos z]
      obtain ⟨o1, h1, e1, μ1, r1, x1, x2, x3⟩ := hG (d + 1) _ _ n nm cu ok hk ek μk w11 (by omega) (by omega) w6 w8 hR (by rw [a1]; exact z) (by rw [eF, z]; rfl) (by rw [a2]; exact z1) (z2.ag f _ _ _ _ _ w11 (by omega) (hag.sub (Nat.le_refl _) (by omega) (Nat.le_refl _))) hn hnm
      have hD' := hD.step (nb := nb) (d := d) (sv := sv) (V := V) (rl := rl) (B := B) (its := its) (h1 := h1) ⟨c2, c7, c8, c10, c11⟩ hen hits (by omega) x3
      rw [x1, x2, Option.bind_some, Option.bind_some]
      dsimp only
      rw [x3.1.1.np6 hi (by omega), Option.bind_some, w9]
      exact ih (k + 1) mx mm o1 h1 e1 μ1 (by omega) (by omega) (by omega) x3.1 ((hF.mono (Nat.le_refl _) (Nat.le_refl _) (by omega)).trans (x3.2.1.mono (by omega) (by omega) (Nat.le_refl _))) hD'
    · have hz : o 19 (Bs p j k) ≠ 1 := by rcases z with y | y <;> rw [y] <;> decide
      rw [if_neg hz, goOn_not (by omega) (by rw [a1]; exact hz), Option.bind_some]
      dsimp only
      rw [hR.1.np6 hi (by omega), Option.bind_some, w9]
      refine ih (k + 1) mx mm ok hk ek μk (by omega) (by omega) (by omega) hR (hF.mono (Nat.le_refl _) (Nat.le_refl _) (by omega)) (fun k' hk' => ?_)
      by_cases q : k' = k
      · subst q
        exact ⟨Or.inr ⟨by rw [a1]; exact z, z1.ag hag⟩, by rw [a1]; exact eF⟩
      · exact hD k' (by omega)
/-- a parallel whose bodies have been looked at -/
theorem BDone.goI {f d bn j be nb : Nat} (hc : Ch p nd sv (f + 1) d bn j be) (hcb : CB p nd sv f d j nb) (h5 : p 7 j = 5) (h18 : o 18 j = 1) (hD : BDone p nd i f j nb o e μ) : GoI p nd i o μ (RunC p nd i o μ f) j (En p j) := by
  refine Or.inr (Or.inr ⟨h5, Or.inl h18, fun q => absurd (h18.symm.trans q) (by decide), fun k hk hp => ?_⟩)
  have hkn : k < nb := Nat.not_le.mp (fun w => hp (hcb.2.2.2.1 k w hk))
  obtain ⟨y1, y2⟩ := hD k hkn
  refine ⟨y2, ?_⟩
  rcases y1 with ⟨q1, cu, q2, q3, _⟩ | ⟨q1, q2⟩
  · exact Or.inl ⟨h18, q1, cu, q2, q3⟩
  · exact Or.inr (Or.inl ⟨h18, q1, q2⟩)
theorem look_par1 {f d bn j be n nm : Nat} (hi : i < 6) (hS : ST p nd sv its) (hN : 100 ≤ N) (hD : 9 ≤ D) (hB : B < 3600) (hG : GoS p nd sv i V its rl B N D f) (hc : Ch p nd sv (f + 1) d bn j be) (hb : be ≤ its) (H : R p nd sv i V its rl B o h e μ) (h5 : p 7 j = 5) (h1 : o 18 j = 1) (hGo : GoI p nd i o μ (RunC p nd i o μ f) j (En p j)) (hn : 9 ≤ n + 2 * d) (hnm : 4 ≤ nm + d) :
    ∃ o' h' e' μ' r, in_lookAt N rl p (kn_igo N rl p n) (nI j) (nI d) o h e = some (o', h', e') ∧ md_looks N D (kn_mlook N D nm) (nI i) (nI (nd j)) μ = some (r, μ') ∧ IPost p nd sv i V its rl B f o e μ j o' h' e' μ' r := by
  have hnd := hS.1
  have hits := hnd.2.1
  have hjl := hc.lt
  have hj : j < its := by omega
  have h64 := hnd.l64 hj
  have hl : ¬ Lf (p 7 j) := by rw [h5]; unfold Lf; decide
  have hsj := hS.2.1 j hj
  obtain ⟨nb, c1, c2, c3, c4, c5, c6, c7, c8, c9, c10, c11⟩ := hc.cont (by omega) hl
  have hcb : CB p nd sv f d j nb := ⟨c2, c7, c8, c10, c11⟩
  have hjm : j + 1 ≤ En p j := by
    obtain ⟨_, _, w3, w4, w5, _⟩ := c11 0 (by omega)
    omega
  obtain ⟨s0, q, hq1, hq4, hq2, hq3⟩ := hsj.k5 h5
  have hir := H.2.2.2.2.2.1 j hj
  obtain ⟨n, rfl⟩ : ∃ x, n = x + 1 := ⟨n - 1, by omega⟩
  obtain ⟨nm, rfl⟩ : ∃ x, nm = x + 1 := ⟨nm - 1, by omega⟩
  have hGo' : ∀ k, k < nb → Fm μ i (nd (Bs p j k) - 1) 0 = mS (o 19 (Bs p j k)) ∧ ((o 19 (Bs p j k) = 1 ∧ ∃ cu : Nat, o 20 (Bs p j k) = nI cu ∧ RunC p nd i o μ f (Bs p j k) (Bs p j (k + 1)) cu) ∨ ((o 19 (Bs p j k) = 4 ∨ o 19 (Bs p j k) = 5) ∧ Qt o (Bs p j k) (Bs p j (k + 1)))) := by
    intro k hk
    rcases hGo with z | ⟨z, _⟩ | ⟨z0, z1, z2, z3⟩
    · exact absurd z hl
    · exact absurd (h5.symm.trans z) (by decide)
    · obtain ⟨w1, w2⟩ := z3 k (by omega) (c11 k hk).2.1
      refine ⟨w1, ?_⟩
      rcases w2 with ⟨y1, y2, cu, y3, y4⟩ | ⟨y1, y2, y3⟩ | ⟨y1, y2⟩
      · exact Or.inl ⟨y2, cu, y3, y4⟩
      · exact Or.inr ⟨y2, y3⟩
      · exact absurd (h1.symm.trans y1) (by decide)
  obtain ⟨o1, h1', e1, μ1, mm1, x1, x2, x3, x4, x5⟩ := lp_loop (bn := bn) (be := be) (n := n) (nm := nm) hi hS hG hcb hj (by omega) c5 (by omega) (by omega) hGo' nb 0 N N o h e μ (by omega) (by omega) (by omega) H Fr.refl (fun k' hk' => by omega)
  rw [if_pos (by omega), ← c6] at x2
  have e18 : o1 18 j = 1 := by rw [(x4.1.2.1 j (by omega)).1]; exact h1
  have hX : in_lookAt N rl p (kn_igo N rl p (n + 1)) (nI j) (nI d) o h e = (in_join N rl p e1 (nI j) o1 h1').bind fun (o39, h39) => in_lookAtParallel_42 N rl p (kn_igo N rl p (n + 1)) (nI j) o39 h39 e1 := by
    unfold in_lookAt
    rw [rd_nI (by omega) (by decide), Option.bind_some, h5, if_neg (by decide), if_neg (by decide), if_neg (by decide), if_neg (by decide), if_neg (by decide), nI_1]
    unfold in_lookAtParallel
    rw [rd_nI (by omega) (by decide), Option.bind_some, h1, if_pos rfl, show (0 : Int32) = nI 0 from rfl, x1]
    cases in_join N rl p e1 (nI j) o1 h1' with
    | none => rfl
    | some v =>
      obtain ⟨v1, v2⟩ := v
      rw [Option.bind_some]
      dsimp only
      cases in_lookAtParallel_42 N rl p (kn_igo N rl p (n + 1)) (nI j) v1 v2 e1 <;> rfl
  have hM : md_looks N D (kn_mlook N D (nm + 1)) (nI i) (nI (nd j)) μ = md_looksAtParallel_23 N D (kn_mlook N D (nm + 1)) (mm1 + 1) (nI i) (nI (nd j)) (-1) μ1 := by
    unfold md_looks
    rw [H.1.np0 hi h64, Option.bind_some, s0, if_neg (by decide), if_neg (by decide), if_neg (by decide), if_neg (by decide), if_neg (by decide), bind_eta2]
    unfold md_looksAtParallel
    rw [at_0, Option.bind_some, rd_nI (by omega) (by decide), Option.bind_some, show μ 5 (643 + 1262 * i + 10 * nd j + 0) = 1 from by have := hir.1; rw [h1] at this; exact this, if_neg (by decide), H.1.np5 hi h64, Option.bind_some, x2]
  have hpb : ∀ k, k < 4 → p 15 (4 * j + k) ≠ -1 → PBd p nd i o1 μ1 f j k := fun k hk hp => by
    have hkn : k < nb := Nat.not_le.mp (fun w => hp (c10 k w hk))
    obtain ⟨y1, y2⟩ := x5 k hkn
    rcases y1 with ⟨q1, cu, q2, q3, _⟩ | ⟨q1, q2⟩
    · exact Or.inl ⟨by rw [y2, q1]; rfl, cu, q3⟩
    · refine Or.inr ⟨?_, ?_, q2⟩ <;> rw [y2] <;> rcases q1 with w | w <;> rw [w] <;> decide
  have hst : ∀ k, k < 4 → p 15 (4 * j + k) ≠ -1 → (o1 19 (Bs p j k) = 1 ∨ o1 19 (Bs p j k) = 4 ∨ o1 19 (Bs p j k) = 5) ∧ Fm μ1 i (nd (Bs p j k) - 1) 0 = mS (o1 19 (Bs p j k)) := fun k hk hp => by
    have hkn : k < nb := Nat.not_le.mp (fun w => hp (c10 k w hk))
    obtain ⟨y1, y2⟩ := x5 k hkn
    exact ⟨y1.st, y2⟩
  have fr1 : Fr nd its i j (j + 1) (En p j) o e μ o1 e1 μ1 := x4.mono (by omega) (Nat.le_refl _) (Nat.le_refl _)
  rw [hX, hM]
  rcases join_sim (N := N) (n := mm1) (Bm := kn_mlook N D (nm + 1)) hi hS (by omega) hD hc hb h5 (by omega) x3 e18 hq4 hq2 hq3 hpb hst with ⟨j1, j2, j3, j4⟩ | ⟨o2, h2, μ2, j1, j2, j3, j4, j5, j6⟩ | ⟨o2, h2, μ2, j1, j2, j3, j4, j5, j6, j7, j8, j9⟩
  · -- not decided yet
    refine ⟨o1, h1', e1, μ1, 1, ?_, j4, x3, fr1, by rw [e18]; rfl, Or.inl ⟨by rw [e18]; exact Gi1, x5.goI (e := e1) hc hcb h5 e18, fun x k1 k2 hg => ?_⟩⟩
    · rw [j3, Option.bind_some]
      dsimp only
      unfold in_lookAtParallel_42
      rw [rd_nI (by omega) (by decide), Option.bind_some, e18, if_neg (by decide)]
    · by_cases z : x = j
      · subst z
        have hir1 := x3.2.2.2.2.2.1 x hj
        have h22 := hir1.2.2.2.2.2.2.2.2.2.2.2.2.1 (Or.inr h5) e18
        refine ⟨by rw [h22]; exact never_gt x3, by rw [h5]; decide, fun w => absurd (h5.symm.trans w) (by decide), fun _ _ q' hq' hq5 => ?_, fun w => absurd (e18.symm.trans w) (by decide)⟩
        have : q' = q := nI_inj (by omega) (by omega) (hq5.symm.trans hq2)
        subst this
        exact ⟨j1, j2⟩
      · obtain ⟨K, K1, K2, K3⟩ := hcb.find (x := x) (by omega) k2
        rcases (x5 K K1).1 with ⟨_, cu, _, _, z4⟩ | ⟨_, z2⟩
        · exact z4 x K2 K3 hg
        · exact absurd hg (z2 x K2 K3)
  · -- failed
    refine ⟨o2, h2, e1, μ2, 3, ?_, j2, j3, fr1.trans j6, by rw [j4]; rfl, Or.inr ⟨Or.inr j4, fun x k1 k2 => ?_⟩⟩
    · rw [j1, Option.bind_some]
      dsimp only
      unfold in_lookAtParallel_42
      rw [rd_nI (by omega) (by decide), Option.bind_some, j4, if_neg (by decide)]
    · by_cases z : x = j
      · subst z; rw [j4]; exact nGi5
      · exact j5 x (by omega) k2
  · -- done, but for what is compensated
    obtain ⟨o3, h3, e3, μ3, r3, y1, y2, y3, y4, y5, y6, y7⟩ := par_rev (D := D) (Bx := kn_igo N rl p (n + 1)) (Bm := kn_mlook N D (nm + 1)) hN hB hi hS hc hb h5 j4 j3 j8 (Or.inl ⟨j5, j6⟩) j7
    refine ⟨o3, h3, e3, μ3, r3, ?_, by rw [j2]; exact y2, y3, fr1.trans (j9.trans y4), y5, ?_⟩
    · rw [j1, Option.bind_some]
      exact y1
    · rcases y7 with ⟨z1, z2, z3, z4⟩ | z1
      · refine Or.inl ⟨by rw [z1]; exact Gi3, Or.inr (Or.inr ⟨h5, Or.inr z1, fun _ => ⟨y6, z2⟩, fun k hk hp => ⟨(z4 k hk hp).1, Or.inr (Or.inr ⟨z1, (z4 k hk hp).2⟩)⟩⟩), fun x k1 k2 hg => ?_⟩
        by_cases z : x = j
        · subst z
          obtain ⟨t, ff, u, cd, v1, v2, v3, _⟩ := z2
          exact ⟨z3, by rw [h5]; decide, fun w => absurd (h5.symm.trans w) (by decide), fun _ w => absurd (z1.symm.trans w) (by decide), fun _ => by rw [v3]; exact nI_m1 (by omega)⟩
        · exact absurd hg (y6 x (by omega) k2)
      · refine Or.inr ⟨Or.inl z1, fun x k1 k2 => ?_⟩
        by_cases z : x = j
        · subst z; rw [z1]; exact nGi4
        · exact y6 x (by omega) k2
theorem look_par3 {f d bn j be n nm : Nat} (hi : i < 6) (hS : ST p nd sv its) (hN : 100 ≤ N) (hB : B < 3600) (hc : Ch p nd sv (f + 1) d bn j be) (hb : be ≤ its) (H : R p nd sv i V its rl B o h e μ) (h5 : p 7 j = 5) (h3 : o 18 j = 3) (hGo : GoI p nd i o μ (RunC p nd i o μ f) j (En p j)) :
    ∃ o' h' e' μ' r, in_lookAt N rl p (kn_igo N rl p n) (nI j) (nI d) o h e = some (o', h', e') ∧ md_looks N D (kn_mlook N D nm) (nI i) (nI (nd j)) μ = some (r, μ') ∧ IPost p nd sv i V its rl B f o e μ j o' h' e' μ' r := by
  have hnd := hS.1
  have hits := hnd.2.1
  have hjl := hc.lt
  have hj : j < its := by omega
  have h64 := hnd.l64 hj
  have hl : ¬ Lf (p 7 j) := by rw [h5]; unfold Lf; decide
  have hsj := hS.2.1 j hj
  obtain ⟨s0, q, hq1, hq4, hq2, hq3⟩ := hsj.k5 h5
  have hir := H.2.2.2.2.2.1 j hj
  have hen : En p j ≤ be := by
    obtain ⟨m, nb, z1, z2, z3, _⟩ := hc
    rw [En_eq z3 (by omega)]; exact z2
  have hg3 : (Qt o (j + 1) (En p j) ∧ RevX p nd i j (nd j) o μ (j + 1) (En p j)) ∧ ∀ k, k < 4 → p 15 (4 * j + k) ≠ -1 → Fm μ i (nd (Bs p j k) - 1) 0 = mS (o 19 (Bs p j k)) ∧ (o 19 (Bs p j k) = 4 ∨ o 19 (Bs p j k) = 5 ∨ o 19 (Bs p j k) = 6) := by
    rcases hGo with z | ⟨z, _⟩ | ⟨z0, z1, z2, z3⟩
    · exact absurd z hl
    · exact absurd (h5.symm.trans z) (by decide)
    · refine ⟨z2 h3, fun k hk hp => ?_⟩
      obtain ⟨w1, w2⟩ := z3 k hk hp
      refine ⟨w1, ?_⟩
      rcases w2 with ⟨y1, _⟩ | ⟨y1, _⟩ | ⟨y1, y2⟩
      · exact absurd (h3.symm.trans y1) (by decide)
      · exact absurd (h3.symm.trans y1) (by decide)
      · exact y2
  obtain ⟨o3, h3', e3, μ3, r3, y1, y2, y3, y4, y5, y6, y7⟩ := par_rev (D := D) (Bx := kn_igo N rl p n) (Bm := kn_mlook N D nm) hN hB hi hS hc hb h5 h3 H hg3.2 (Or.inr hg3.1.2) hg3.1.1
  refine ⟨o3, h3', e3, μ3, r3, ?_, ?_, y3, y4, y5, ?_⟩
  · unfold in_lookAt
    rw [rd_nI (by omega) (by decide), Option.bind_some, h5, if_neg (by decide), if_neg (by decide), if_neg (by decide), if_neg (by decide), if_neg (by decide)]
    unfold in_lookAtParallel
    rw [rd_nI (by omega) (by decide), Option.bind_some, h3, if_neg (by decide), y1]
    rfl
  · unfold md_looks
    rw [H.1.np0 hi h64, Option.bind_some, s0, if_neg (by decide), if_neg (by decide), if_neg (by decide), if_neg (by decide), if_neg (by decide), bind_eta2]
    unfold md_looksAtParallel
    rw [at_0, Option.bind_some, rd_nI (by omega) (by decide), Option.bind_some, show μ 5 (643 + 1262 * i + 10 * nd j + 0) = 5 from by have := hir.1; rw [h3] at this; exact this, if_pos rfl, y2]
  · rcases y7 with ⟨z1, z2, z3, z4⟩ | z1
    · refine Or.inl ⟨by rw [z1]; exact Gi3, Or.inr (Or.inr ⟨h5, Or.inr z1, fun _ => ⟨y6, z2⟩, fun k hk hp => ⟨(z4 k hk hp).1, Or.inr (Or.inr ⟨z1, (z4 k hk hp).2⟩)⟩⟩), fun x k1 k2 hg => ?_⟩
      by_cases z : x = j
      · subst z
        obtain ⟨t, ff, u, cd, v1, v2, v3, _⟩ := z2
        exact ⟨z3, by rw [h5]; decide, fun w => absurd (h5.symm.trans w) (by decide), fun _ w => absurd (z1.symm.trans w) (by decide), fun _ => by rw [v3]; exact nI_m1 (by omega)⟩
      · exact absurd hg (y6 x (by omega) k2)
    · refine Or.inr ⟨Or.inl z1, fun x k1 k2 => ?_⟩
      by_cases z : x = j
      · subst z; rw [z1]; exact nGi4
      · exact y6 x (by omega) k2
/-- a look at any item that goes on -/
theorem look_item {f d bn j be n nm : Nat} (hi : i < 6) (hS : ST p nd sv its) (hN : 100 ≤ N) (hD : 9 ≤ D) (hB : B < 3600) (hG : GoS p nd sv i V its rl B N D f) (hc : Ch p nd sv (f + 1) d bn j be) (hb : be ≤ its) (H : R p nd sv i V its rl B o h e μ) (hg : Gi (o 18 j)) (hGo : GoI p nd i o μ (RunC p nd i o μ f) j (En p j)) (hn : 9 ≤ n + 2 * d) (hnm : 4 ≤ nm + d) :
    ∃ o' h' e' μ' r, in_lookAt N rl p (kn_igo N rl p n) (nI j) (nI d) o h e = some (o', h', e') ∧ md_looks N D (kn_mlook N D nm) (nI i) (nI (nd j)) μ = some (r, μ') ∧ IPost p nd sv i V its rl B f o e μ j o' h' e' μ' r := by
  have hnd := hS.1
  have hits := hnd.2.1
  have hjl := hc.lt
  have hj : j < its := by omega
  have hsj := hS.2.1 j hj
  have hGo0 := hGo
  rcases hGo with z | ⟨z, _⟩ | ⟨z0, z1, z2, z3⟩
  · obtain ⟨o', h', e', μ', r, x1, x2, x3, x4, x5, x6⟩ := leaf_sim (N := N) (D := D) (x2 := nI d) (Bx := kn_igo N rl p n) (Bm := kn_mlook N D nm) (by omega) H (by omega) hi hnd hj hsj z hg
    have he : En p j = j + 1 := by
      obtain ⟨m, nb, g1, g2, g3, g4, g5, g6⟩ := hc
      rw [En_eq g3 (by omega)]
      rcases g6 with ⟨_, w, _⟩ | ⟨w, _⟩
      · exact w
      · rcases w with w | w <;> rw [w.1] at z <;> (exfalso; unfold Lf at z; revert z; decide)
    refine ⟨o', h', e', μ', r, x1, x2, x3, by rw [he]; exact x4, x5, ?_⟩
    rw [he]
    rcases x6 with ⟨q1, q2, q3, q4⟩ | q | q
    · refine Or.inl ⟨q1, Or.inl z, fun x k1 k2 hgx => ?_⟩
      have : x = j := by omega
      subst this
      have hir := x3.2.2.2.2.2.1 x hj
      exact ⟨q2, q3, q4, fun w => by rw [w] at z; exfalso; unfold Lf at z; revert z; decide, fun w => by have := hir.2.2.2.2.2.2.2.2.2.1 w; rw [this] at z; exfalso; unfold Lf at z; revert z; decide⟩
    · refine Or.inr ⟨Or.inl q, fun x k1 k2 => ?_⟩
      have : x = j := by omega
      subst this
      rw [q]; exact nGi4
    · refine Or.inr ⟨Or.inr q, fun x k1 k2 => ?_⟩
      have : x = j := by omega
      subst this
      rw [q]; exact nGi5
  · exact look_choice hi hS hN hG hc hb H z hGo0 hn hnm
  · rcases z1 with w | w
    · exact look_par1 hi hS hN hD hB hG hc hb H z0 w hGo0 hn hnm
    · exact look_par3 hi hS hN hB hc hb H z0 w hGo0
end RQ
