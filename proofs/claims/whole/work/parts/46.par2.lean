/-! a parallel is asked, and compensates -/
section RJ
variable {p : Mem} {nd : Nat → Nat} {sv : Nat → Nat → Int32} {i V its rl B B' N D : Nat} {o h e μ o' h' e' μ' : Mem}
theorem CF.fr {j c : Nat} (hn : NdS nd its) (hj : j < its) (hc : CF nd its i j (nd j) (j + 1) c o e μ o' e' μ') (hjc : j < c) : Fr nd its i j (j + 1) c o e μ o' e' μ' := by
  obtain ⟨x1, x2, x3, x4, x5, x6, x7, x8⟩ := hc
  refine ⟨⟨fun w hw => x1 0 w (by omega), fun k hk => ⟨x1 18 k (by omega), x1 22 k (by omega), x1 23 k (by omega), x1 24 k (by omega)⟩, fun k hk => ⟨x1 19 k (by omega), x1 20 k (by omega)⟩, fun v _ => x1 17 v (by omega)⟩, x3, x4, x5, fun k hk hk2 w hw => x6 k hk (by omega) (by omega) w hw, fun b hb hs _ w hw => x7 b hb hs (hn.bst hj hb hs) w hw⟩
theorem join_sim {f d bn j be q n : Nat} {Bm : Int32 → Int32 → Mem → Option (Int32 × Mem)} (hi : i < 6) (hS : ST p nd sv its) (hN : 60 ≤ N) (hD : 9 ≤ D) (hc : Ch p nd sv (f + 1) d bn j be) (hb : be ≤ its) (h5 : p 7 j = 5) (hB : B < 3700) (H : R p nd sv i V its rl B o h e μ) (h1 : o 18 j = 1) (hq : q ≤ 4) (hq1 : p 11 j = nI q) (hq2 : sv (nd j) 1 = nI q)
    (pb : ∀ k, k < 4 → p 15 (4 * j + k) ≠ -1 → PBd p nd i o μ f j k) (hst : ∀ k, k < 4 → p 15 (4 * j + k) ≠ -1 → (o 19 (Bs p j k) = 1 ∨ o 19 (Bs p j k) = 4 ∨ o 19 (Bs p j k) = 5) ∧ Fm μ i (nd (Bs p j k) - 1) 0 = mS (o 19 (Bs p j k))) :
    (nB p o j 4 < q ∧ q ≤ nB p o j 4 + nB p o j 1 ∧ in_join N rl p e (nI j) o h = some (o, h) ∧ md_looksAtParallel_23 N D Bm (n + 1) (nI i) (nI (nd j)) (-1) μ = some (1, μ)) ∨
    (∃ o' h' μ', in_join N rl p e (nI j) o h = some (o', h') ∧ md_looksAtParallel_23 N D Bm (n + 1) (nI i) (nI (nd j)) (-1) μ = some (3, μ') ∧ R p nd sv i V its rl B o' h' e μ' ∧ o' 18 j = 5 ∧ Qt o' (j + 1) (En p j) ∧ Fr nd its i j (j + 1) (En p j) o e μ o' e μ') ∨
    (∃ o' h' μ', in_join N rl p e (nI j) o h = some (o', h') ∧ md_looksAtParallel_23 N D Bm (n + 1) (nI i) (nI (nd j)) (-1) μ = md_looksAtParallel_150 N D Bm (nI i) (nI (nd j)) μ' ∧ R p nd sv i V its rl B o' h' e μ' ∧ o' 18 j = 3 ∧ o' 24 j = -1 ∧ Fm μ' i (nd j) 7 = -1 ∧ Qt o' (j + 1) (En p j) ∧
      (∀ k, k < 4 → p 15 (4 * j + k) ≠ -1 → Fm μ' i (nd (Bs p j k) - 1) 0 = mS (o' 19 (Bs p j k)) ∧ (o' 19 (Bs p j k) = 4 ∨ o' 19 (Bs p j k) = 5 ∨ o' 19 (Bs p j k) = 6)) ∧ Fr nd its i j (j + 1) (En p j) o e μ o' e μ') := by
  have hn := hS.1
  have hits := hn.2.1
  have hjl := hc.lt
  have hj : j < its := by omega
  have h64 := hn.l64 hj
  have hl : ¬ Lf (p 7 j) := by rw [h5]; unfold Lf; decide
  have hbd := hc.bd (by omega) hl
  have hir := H.2.2.2.2.2.1 j hj
  have h23 : o 23 j = 0 := hir.2.2.2.2.2.2.2.2.2.2.2.2.2.2 (by rw [h5]; decide) h1
  have g7 := hir.g7 (by rw [h1]; decide)
  have hjm : j + 1 ≤ En p j ∧ En p j ≤ be := by
    obtain ⟨m, nb, z1, z2, z3, _⟩ := hc
    rw [En_eq z3 (by omega)]; omega
  have n4 := nB_le (p := p) (o := o) (j := j) (x := 4)
  have n1 := nB_le (p := p) (o := o) (j := j) (x := 1)
  have hx4 : ∀ k, k < 4 → p 15 (4 * j + k) ≠ -1 → (Fm μ i (nd (Bs p j k) - 1) 0 = 2 ↔ o 19 (Bs p j k) = 4) := fun k hk hp => by
    obtain ⟨s1, s2⟩ := hst k hk hp
    rw [s2]; exact mS_2_iff (by rcases s1 with z | z | z <;> simp [z])
  have hx1 : ∀ k, k < 4 → p 15 (4 * j + k) ≠ -1 → (Fm μ i (nd (Bs p j k) - 1) 0 = 1 ↔ o 19 (Bs p j k) = 1) := fun k hk hp => by
    obtain ⟨s1, s2⟩ := hst k hk hp
    rw [s2]; exact mS_1_iff (by rcases s1 with z | z | z <;> simp [z])
  have hM0 : md_looksAtParallel_23 N D Bm (n + 1) (nI i) (nI (nd j)) (-1) μ = if nI (nB p o j 4) + nI (nB p o j 1) < nI q then ((md_cancelsBodies N D (nI i) (nI (nd j)) μ).bind fun μ100 => (md_comesTo (nI i) (nI (nd j)) 3 μ100).bind fun (k107, μ107) => some (k107, μ107))
      else (if nI (nB p o j 4) < nI q then some (1, μ) else ((md_cancelsBodies N D (nI i) (nI (nd j)) μ).bind fun μ122 => md_looksAtParallel_150 N D Bm (nI i) (nI (nd j)) (up (up μ122 5 (643 + 1262 * i + 10 * nd j + 0) 5) 5 (643 + 1262 * i + 10 * nd j + 7) (-1)))) := by
    unfold md_looksAtParallel_23
    rw [if_pos (by decide), H.1.np1 hi h64, Option.bind_some, hq2, bi_ev (N := N) hn H.1 hi hc hb hl (by omega) hx4, Option.bind_some, bi_ev (N := N) hn H.1 hi hc hb hl (by omega) hx1, Option.bind_some]
    by_cases q1 : nI (nB p o j 4) + nI (nB p o j 1) < nI q
    · rw [if_pos q1, if_pos q1]
    · rw [if_neg q1, if_neg q1]
      by_cases q2 : nI (nB p o j 4) < nI q
      · rw [if_pos q2, if_pos q2]
      · rw [if_neg q2, if_neg q2]
        congr 1
        funext μ122
        rw [at_0, Option.bind_some, ck_nI (by omega) (by decide), at_7, Option.bind_some, ck_nI (by omega) (by decide), nI_clamp (by omega), nI_clamp (by omega)]
  have hX0 : in_join N rl p e (nI j) o h = if nI (nB p o j 4) < nI q then (if nI (nB p o j 4) + nI (nB p o j 1) < nI q then in_join_35 N rl p e (nI j) (nI q) (nI (nB p o j 4)) o h else some (o, h)) else in_join_35 N rl p e (nI j) (nI q) (nI (nB p o j 4)) o h := by
    unfold in_join
    rw [rd_nI (by omega) (by decide), Option.bind_some, hq1, bw_ev hbd (by omega), Option.bind_some]
    by_cases q2 : nI (nB p o j 4) < nI q
    · rw [if_pos q2, if_pos q2, bw_ev hbd (by omega), Option.bind_some]
    · rw [if_neg q2, if_neg q2]
  rw [nI_add] at hM0 hX0
  by_cases c1 : nB p o j 4 < q ∧ q ≤ nB p o j 4 + nB p o j 1
  · refine Or.inl ⟨c1.1, c1.2, ?_, ?_⟩
    · rw [hX0, if_pos (nI_lt c1.1 (by omega)), if_neg (nI_nlt c1.2 (by omega))]
    · rw [hM0, if_neg (nI_nlt c1.2 (by omega)), if_pos (nI_lt c1.1 (by omega))]
  · obtain ⟨o1, h1', μ1, x1, x2, x3, x4, x5, x6, x7⟩ := cb_sim hi hS hN hD hc hb h5 hB H pb hst
    have e18 : o1 18 j = 1 := by rw [x4 18 j (by omega)]; exact h1
    have e23 : o1 23 j = 0 := by rw [x4 23 j (by omega)]; exact h23
    have e7 : Fm μ1 i (nd j) 7 = -1 := (x7.2.2.1 j hj (by omega) 7 (by omega)).trans g7
    have fr1 : Fr nd its i j (j + 1) (En p j) o e μ o1 e μ1 := ⟨⟨fun w hw => x4 0 w (by omega), fun k hk => ⟨x4 18 k (by omega), x4 22 k (by omega), x4 23 k (by omega), x4 24 k (by omega)⟩, fun k hk => ⟨x4 19 k (by omega), x4 20 k (by omega)⟩, fun v _ => x4 17 v (by omega)⟩, fun _ _ => rfl, x7.mono (by omega) (Nat.le_refl _) (Nat.le_refl _)⟩
    by_cases c2 : nB p o j 4 < q
    · -- out of reach
      refine Or.inr (Or.inl ?_)
      obtain ⟨z1, z2⟩ := x3.st (B' := B) (x := 5) hi hn hj (by rw [e18]; exact Gi1) (Or.inl rfl) e7 (by rw [e18, e23, wt1_0, wt5]; omega)
      refine ⟨_, h1', _, ?_, ?_, z1.w24 (j := j) (x := -1) (by omega) (by rw [up_at]; decide), by rw [up_other (by omega), up_at], fun k k1 k2 => by rw [up_other (by omega), up_other (by omega)]; exact x5 k k1 k2, ?_⟩
      · rw [hX0, if_pos (nI_lt c2 (by omega)), if_pos (nI_lt (by omega) (by omega))]
        unfold in_join_35
        rw [x1, Option.bind_some]
        dsimp only
        rw [if_pos (nI_lt c2 (by omega)), ck_nI (by omega) (by decide), ck_nI (by omega) (by decide), nI_clamp (by omega)]
      · rw [hM0, if_pos (nI_lt (by omega) (by omega)), x2, Option.bind_some, comesTo_ev hi h64]
        rfl
      · refine fr1.trans ((z2.mono (Nat.le_refl _) (Nat.le_refl _) hjm.1).trans ⟨⟨fun w hw => up_other (by omega), fun k hk => ⟨up_other (by omega), up_other (by omega), up_other (by omega), up_other (by omega)⟩, fun k hk => ⟨up_other (by omega), up_other (by omega)⟩, fun v _ => up_other (by omega)⟩, fun _ _ => rfl, FrM.refl⟩)
    · -- reached
      refine Or.inr (Or.inr ?_)
      have w24 := x3.w24 (j := j) (x := -1) (by omega) (by rw [e18]; decide)
      obtain ⟨E, E1, E2⟩ := w24.2.2.2.1
      have hir1 := x3.2.2.2.2.2.1 j hj
      have g6 := hir1.g6 (Or.inr (by rw [e18]; exact Gi1))
      obtain ⟨z1, z2⟩ := w24.node (B' := B) (x := 0) (o' := up (up o1 24 j (-1)) 18 j 3) (h' := h1') (μ' := up (up μ1 5 (643 + 1262 * i + 10 * nd j + 0) 5) 5 (643 + 1262 * i + 10 * nd j + 7) (-1)) hi hn hj
        (fun c k q => up_other (by omega)) (fun r hr => by rw [up_row hr, up_row hr]) (fun k q1 q2 q3 => by rw [up_in (by omega), up_in (by omega)]) E2 (E1.fr (by rw [up_in (by omega), up_in (by omega)]) (fun k _ _ => by rw [up_in (by omega), up_in (by omega)]))
        (by rw [up_at, up_other (by omega), up_other (by omega), up_other (by omega), up_at, up_other (by omega), e18, e23, wt1_0]
            rw [show wt 3 0 (-1) = 5 from by decide]; omega)
        (fun q => absurd (h5.symm.trans q) (by decide)) (fun q => absurd q (by rw [up_other (by omega), e18]; exact Gi_nDn Gi1))
        (by
          unfold IR
          have f0 : Fm (up (up μ1 5 (643 + 1262 * i + 10 * nd j + 0) 5) 5 (643 + 1262 * i + 10 * nd j + 7) (-1)) i (nd j) 0 = 5 := by show up _ _ _ _ _ _ = _; rw [up_in (by omega), up_at]
          have f6 : Fm (up (up μ1 5 (643 + 1262 * i + 10 * nd j + 0) 5) 5 (643 + 1262 * i + 10 * nd j + 7) (-1)) i (nd j) 6 = 0 := by show up _ _ _ _ _ _ = _; rw [up_in (by omega), up_in (by omega)]; exact g6
          have f7 : Fm (up (up μ1 5 (643 + 1262 * i + 10 * nd j + 0) 5) 5 (643 + 1262 * i + 10 * nd j + 7) (-1)) i (nd j) 7 = -1 := up_at
          rw [f0, f6, f7, up_at, up_other (c' := 24) (by omega), up_at]
          exact ⟨rfl, ⟨3, by omega, rfl⟩, fun q => absurd q (by decide), fun q => absurd rfl q, fun q => absurd q (by decide), fun _ _ => rfl, fun _ q => absurd q (by decide), fun _ q => absurd q (by decide), fun q => absurd q (by decide), fun _ => h5, fun _ q => absurd q (by decide), fun _ q => absurd q (by decide), fun _ q => absurd q (by decide), fun _ => Or.inl ⟨rfl, rfl⟩, fun _ q => absurd q (by decide)⟩)
      have ecomm : up (up o1 24 j (-1)) 18 j 3 = up (up o1 18 j 3) 24 j (-1) := up_comm (by omega)
      rw [ecomm] at z1 z2
      refine ⟨_, h1', _, ?_, ?_, z1, by rw [up_other (by omega), up_at], up_at, up_at, fun k k1 k2 => by rw [up_other (by omega), up_other (by omega)]; exact x5 k k1 k2, fun k hk hp => ?_, ?_⟩
      · rw [hX0, if_neg (nI_nlt (by omega) (by omega))]
        unfold in_join_35
        rw [x1, Option.bind_some]
        dsimp only
        rw [if_neg (nI_nlt (by omega) (by omega)), ck_nI (by omega) (by decide), ck_nI (by omega) (by decide), nI_clamp (by omega)]
      · rw [hM0, if_neg (nI_nlt (by omega) (by omega)), if_neg (nI_nlt (by omega) (by omega)), x2, Option.bind_some]
      · obtain ⟨v1, v2⟩ := x6 k hk hp
        obtain ⟨s1, _⟩ := hst k hk hp
        obtain ⟨b1, b2, b3, _, _, b6⟩ := hc.body (by omega) hk hp hl
        rw [up_other (by omega), up_other (by omega)]
        refine ⟨?_, ?_⟩
        · rw [z2.2.2.2.2.2 _ (by omega) b6 (by omega) 0 (by omega)]; exact v2
        · rw [v1]
          rcases s1 with z | z | z
          · rw [if_pos z]; exact Or.inr (Or.inr rfl)
          · rw [if_neg (by rw [z]; decide)]; exact Or.inl z
          · rw [if_neg (by rw [z]; decide)]; exact Or.inr (Or.inl z)
      · refine fr1.trans ⟨⟨fun w hw => ?_, fun k hk => ⟨?_, ?_, ?_, ?_⟩, fun k hk => ⟨?_, ?_⟩, fun v _ => ?_⟩, fun _ _ => rfl, z2.2.2.mono (Nat.le_refl _) (Nat.le_refl _) hjm.1⟩
        all_goals rw [up_other (by omega), up_other (by omega)]
/-- a parallel that compensates -/
theorem par_rev {f d bn j be : Nat} {Bx : Bool → Int32 → Int32 → Mem → Mem → Mem → Option (Mem × Mem × Mem)} {Bm : Int32 → Int32 → Mem → Option (Int32 × Mem)} (hN : 100 ≤ N) (hB : B < 3600) (hi : i < 6) (hS : ST p nd sv its) (hc : Ch p nd sv (f + 1) d bn j be) (hb : be ≤ its) (h5 : p 7 j = 5) (h3 : o 18 j = 3) (H : R p nd sv i V its rl B o h e μ)
    (hbd : ∀ k, k < 4 → p 15 (4 * j + k) ≠ -1 → Fm μ i (nd (Bs p j k) - 1) 0 = mS (o 19 (Bs p j k)) ∧ (o 19 (Bs p j k) = 4 ∨ o 19 (Bs p j k) = 5 ∨ o 19 (Bs p j k) = 6)) (hst : (o 24 j = -1 ∧ Fm μ i (nd j) 7 = -1) ∨ RevX p nd i j (nd j) o μ (j + 1) (En p j)) (hqt : Qt o (j + 1) (En p j)) :
    ∃ o' h' e' μ' r, in_lookAtParallel_42 N rl p Bx (nI j) o h e = some (o', h', e') ∧ md_looksAtParallel_150 N D Bm (nI i) (nI (nd j)) μ = some (r, μ') ∧ R p nd sv i V its rl B o' h' e' μ' ∧ Fr nd its i j (j + 1) (En p j) o e μ o' e' μ' ∧ r = mS (o' 18 j) ∧ Qt o' (j + 1) (En p j) ∧
      ((o' 18 j = 3 ∧ RevX p nd i j (nd j) o' μ' (j + 1) (En p j) ∧ e' 1 2 < o' 22 j ∧ ∀ k, k < 4 → p 15 (4 * j + k) ≠ -1 → Fm μ' i (nd (Bs p j k) - 1) 0 = mS (o' 19 (Bs p j k)) ∧ (o' 19 (Bs p j k) = 4 ∨ o' 19 (Bs p j k) = 5 ∨ o' 19 (Bs p j k) = 6)) ∨ o' 18 j = 4) := by
  have hn := hS.1
  have hits := hn.2.1
  have hjl := hc.lt
  have hj : j < its := by omega
  have h64 := hn.l64 hj
  have hl : ¬ Lf (p 7 j) := by rw [h5]; unfold Lf; decide
  have hjm : j + 1 ≤ En p j ∧ En p j ≤ be := by
    obtain ⟨m, nb, z1, z2, z3, _⟩ := hc
    rw [En_eq z3 (by omega)]; omega
  obtain ⟨b, o1, h1, e1, μ1, x1, x2, x3, x4, x5⟩ := comp_par hN (by omega) hi hS hc hb h5 h3 H hbd hst
  have e18 : o1 18 j = 3 := by rw [x4.1 18 j (by omega)]; exact h3
  have hq1 : Qt o1 (j + 1) (En p j) := fun k k1 k2 => by
    rcases x4.2.1 k with z | ⟨_, z⟩
    · rw [z]; exact hqt k k1 k2
    · rcases z with z | z <;> rw [z]
      · exact nGi7
      · exact nGi8
  have hbd1 : ∀ k, k < 4 → p 15 (4 * j + k) ≠ -1 → Fm μ1 i (nd (Bs p j k) - 1) 0 = mS (o1 19 (Bs p j k)) ∧ (o1 19 (Bs p j k) = 4 ∨ o1 19 (Bs p j k) = 5 ∨ o1 19 (Bs p j k) = 6) := fun k hk hp => by
    obtain ⟨b1, b2, b3, _, _, b6⟩ := hc.body (by omega) hk hp hl
    rw [x4.1 19 _ (by omega), x4.2.2.2.2.2.2.1 _ (by omega) b6 (hn.bst hj (by omega) b6) 0 (by omega)]
    exact hbd k hk hp
  have fr1 := x4.fr hn hj (by omega)
  have hX0 : in_lookAtParallel_42 N rl p Bx (nI j) o h e = if b = true then ((in_bodiesWith N p (up o1 18 j 4) (nI j) 4).bind fun k76 => (hi_add rl e1 9 k76 h1).bind fun h79 => some (up o1 18 j 4, h79, e1)) else some (o1, h1, e1) := by
    unfold in_lookAtParallel_42
    rw [rd_nI (by omega) (by decide), Option.bind_some, h3, if_pos rfl, x1, Option.bind_some]
    dsimp only
    rw [ck_nI (by omega) (by decide), nI_clamp (by omega)]
  have hM0 : md_looksAtParallel_150 N D Bm (nI i) (nI (nd j)) μ = if b = true then ((md_bodiesIn N μ1 (nI i) (nI (nd j)) 2).bind fun k169 => (md_notes (nI i) 9 k169 μ1).bind fun μ172 => some (2, up μ172 5 (643 + 1262 * i + 10 * nd j + 0) 2)) else some (5, μ1) := by
    unfold md_looksAtParallel_150
    rw [x2, Option.bind_some]
    dsimp only
    by_cases q : b = true
    · rw [if_pos q, if_pos q]
      congr 1
      funext k169
      congr 1
      funext μ172
      rw [comesTo_ev hi h64]; rfl
    · rw [if_neg q, if_neg q]
  rcases x5 with ⟨q1, q2, q3⟩ | ⟨q1, q2, q3⟩
  · subst q1
    have hnb : nB p (up o1 18 j 4) j 4 = nB p o1 j 4 := by unfold nB; rw [up_row (by decide)]
    have n4 := nB_le (p := p) (o := o1) (j := j) (x := 4)
    obtain ⟨h2, μ2, n1, n2, n3, n4', n5⟩ := x3.note (kd := 9) (v := nB p o1 j 4) (x1 := 9) hi (by omega) rfl (by decide) rfl (by omega)
    have g7 : Fm μ2 i (nd j) 7 = -1 := (n4'.2 _ (by omega) (by omega)).trans q3
    obtain ⟨z1, z2⟩ := n3.st (B' := B) (x := 4) hi hn hj (by rw [e18]; exact Gi3) (Or.inr (Or.inr ⟨rfl, by rw [h5]; decide⟩)) g7 (by
      rw [e18, q2, wt4]
      have : ∀ a : Int32, wt 3 a (-1) = 5 := fun a => by unfold wt; rw [if_neg (by decide), if_neg (by decide), if_neg (by decide), if_pos rfl, if_pos (by decide)]
      rw [this]; omega)
    refine ⟨_, h2, e1, _, 2, ?_, ?_, z1, fr1.trans ((n5 _ _ _).trans (z2.mono (Nat.le_refl _) (Nat.le_refl _) hjm.1)), by rw [up_at]; rfl, fun k k1 k2 => by rw [up_other (by omega)]; exact hq1 k k1 k2, Or.inr up_at⟩
    · rw [hX0, if_pos rfl, bw_ev (hc.bd (by omega) hl) (by omega), Option.bind_some, hnb, n1, Option.bind_some]
    · rw [hM0, if_pos rfl, bi_ev (N := N) (o := o1) (x' := 4) hn x3.1 hi hc hb hl (by omega) (fun k hk hp => by
        obtain ⟨v1, v2⟩ := hbd1 k hk hp
        rw [v1]; exact mS_2_iff (by rcases v2 with z | z | z <;> simp [z])), Option.bind_some, n2, Option.bind_some, mS_4]
  · subst q1
    refine ⟨o1, h1, e1, μ1, 5, ?_, ?_, x3, fr1, by rw [e18]; rfl, hq1, Or.inl ⟨e18, q2, q3, hbd1⟩⟩
    · rw [hX0, if_neg (by decide)]
    · rw [hM0, if_neg (by decide)]
/-- bodies of what lies in a range lie in it -/
theorem Ch.inn {p : Mem} {nd : Nat → Nat} {sv : Nat → Nat → Int32} : ∀ (f d bn a c : Nat), Ch p nd sv f d bn a c → c ≤ 24 → ∀ x k, a ≤ x → x < c → k < 4 → ¬ Lf (p 7 x) → p 15 (4 * x + k) ≠ -1 → x + 1 ≤ Bs p x k ∧ Bs p x k < c
  | 0, _, _, _, _, h, _ => h.elim
  | f + 1, d, bn, a, c, h, hc24 => fun x k h1 h2 hk hl hp => by
    have hch := h
    obtain ⟨m, nb, g1, g2, g3, g4, g5, g6⟩ := h
    have he : En p a = m := En_eq g3 (by omega)
    by_cases q : x = a
    · subst q
      obtain ⟨b1, b2, b3, _⟩ := hch.body hc24 hk hp hl
      omega
    · by_cases q2 : x < m
      · have hla : ¬ Lf (p 7 a) := fun z => by
          rcases g6 with ⟨_, w, _⟩ | ⟨w, _⟩
          · omega
          · rcases w with w | w <;> rw [w.1] at z <;> (unfold Lf at z; revert z; decide)
        obtain ⟨nb', c1, c2, c3, c4, c5, c6, c7, c8, c9, c10, c11⟩ := hch.cont hc24 hla
        obtain ⟨K, k1, k2, k3⟩ := Bs_find (p := p) (j := a) (nb := nb') (t := x) nb' 0 (by omega) (by omega) (by omega)
        obtain ⟨w1, w2, w3, w4, w5, w6, w7, w8, w9, w10, w11⟩ := c11 K k1
        have := Ch.inn f _ _ _ _ w11 (by omega) x k k2 k3 hk hl hp
        omega
      · rcases g5 with ⟨r1, _⟩ | ⟨r1, r2, r3, r4⟩
        · omega
        · exact Ch.inn f d bn m c r4 hc24 x k (by omega) h2 hk hl hp
theorem StR.ag {f d bn a c : Nat} (hc : Ch p nd sv f d bn a c) (h24 : c ≤ 24) (h : StR p e o a c) (g : Ag nd i a (a + 1) c o μ o' μ') (hpe : ∀ v, ¬ 0 < o 17 v → o' 17 v = o 17 v) (he : e' 1 2 = e 1 2) : StR p e' o' a c := fun j h1 h2 hg => by
  obtain ⟨w1, w2, w3, w4, _⟩ := g.1 j h1 h2
  rw [w1] at hg
  obtain ⟨q1, q2, q3, q4, q5⟩ := h j h1 h2 hg
  have hnB : p 7 j = 5 → ∀ x, nB p o' j x = nB p o j x := fun hp x => by
    unfold nB
    apply sm_same
    intro k hk
    show (if p 15 (4 * j + k) ≠ -1 ∧ o' 19 (Bs p j k) = x then 1 else 0) = if p 15 (4 * j + k) ≠ -1 ∧ o 19 (Bs p j k) = x then 1 else 0
    by_cases z : p 15 (4 * j + k) ≠ -1
    · obtain ⟨b1, b2⟩ := hc.inn f _ _ _ _ h24 j k h1 h2 hk (by rw [hp]; unfold Lf; decide) z
      rw [(g.2 (Bs p j k) (by omega) b2).1]
    · rw [if_neg (fun y => z y.1), if_neg (fun y => z y.1)]
  refine ⟨by rw [he, w2]; exact q1, q2, fun hp x hx hx2 => ?_, fun hp h18 q hq hq2 => ?_, fun h18 => ?_⟩
  · have := q3 hp x hx hx2
    rw [hpe x this]; exact this
  · rw [hnB hp, hnB hp]
    rw [w1] at h18
    exact q4 hp h18 q hq hq2
  · rw [w4]; rw [w1] at h18; exact q5 h18
end RJ
