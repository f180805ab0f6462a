/-! items without bodies: begun and looked at -/
section RB
variable {p : Mem} {nd : Nat → Nat} {sv : Nat → Nat → Int32} {i V its rl B B' : Nat} {o h e μ o' h' e' μ' : Mem}
theorem task_sim {j N D : Nat} {x2 : Int32} {Bx : Bool → Int32 → Int32 → Mem → Mem → Mem → Option (Mem × Mem × Mem)} {Bm : Int32 → Int32 → Mem → Option (Int32 × Mem)} (hN : 30 ≤ N) (H : R p nd sv i V its rl B o h e μ) (hB : B < 3700) (hi : i < 6) (hn : NdS nd its) (hj : j < its) (hs : SI p nd sv j) (hk : p 7 j = 0) (h1 : o 18 j = 1 ∨ o 18 j = 2) :
    ∃ o' h' e' μ' r, in_lookAt N rl p Bx (nI j) x2 o h e = some (o', h', e') ∧ md_looks N D Bm (nI i) (nI (nd j)) μ = some (r, μ') ∧ LfP p nd sv i V its rl B o e μ j o' h' e' μ' r := by
  have h64 := hn.l64 hj
  have hj24 : j < 24 := by have := hn.2.1; omega
  have hir := H.2.2.2.2.2.1 j hj
  obtain ⟨s0, ⟨c, hc, c1, c2⟩, _⟩ := hs.k0 hk
  have hst : (o 18 j = 1 ∧ ∃ a : Nat, o 23 j = nI a ∧ 1 ≤ a ∧ a ≤ 10 ∧ 2 * (10 - a) + 1 ≤ 20) ∨ (o 18 j = 2 ∧ ∃ a : Nat, o 23 j = nI a ∧ 1 ≤ a ∧ a ≤ 9 ∧ 2 * (10 - a) ≤ 20) := by
    rcases h1 with q | q
    · obtain ⟨_, _, ⟨a, a1, a2, a3⟩, _⟩ := hir.2.2.2.2.2.2.1 hk q
      exact Or.inl ⟨q, a, a3, a1, a2, by omega⟩
    · obtain ⟨_, _, _, ⟨a, a1, a2, a3⟩, _⟩ := hir.2.2.2.2.2.2.2.1 hk q
      exact Or.inr ⟨q, a, a3, a1, a2, by omega⟩
  obtain ⟨o', h', e', μ', r, y1, y2, y3⟩ := task_loop hB hi hn hj hs hk hc c1 c2 20 N N 0 o h e μ H hst (by omega) (by omega) (by omega)
  refine ⟨o', h', e', μ', r, ?_, ?_, y3⟩
  · unfold in_lookAt
    rw [rd_nI hj24 (by decide), Option.bind_some, hk, if_pos rfl]
    unfold in_lookAtTask
    rw [show (0 : Int32) = nI 0 from rfl, y1]
    rfl
  · unfold md_looks
    rw [H.1.np0 hi h64, Option.bind_some, s0, if_pos rfl]
    unfold md_looksAtTask
    rw [H.1.np1 hi h64, Option.bind_some, c2, y2]
    rfl
theorem leaf_sim {j N D : Nat} {x2 : Int32} {Bx : Bool → Int32 → Int32 → Mem → Mem → Mem → Option (Mem × Mem × Mem)} {Bm : Int32 → Int32 → Mem → Option (Int32 × Mem)} (hN : 30 ≤ N) (H : R p nd sv i V its rl B o h e μ) (hB : B < 3700) (hi : i < 6) (hn : NdS nd its) (hj : j < its) (hs : SI p nd sv j) (hk : Lf (p 7 j)) (h1 : Gi (o 18 j)) :
    ∃ o' h' e' μ' r, in_lookAt N rl p Bx (nI j) x2 o h e = some (o', h', e') ∧ md_looks N D Bm (nI i) (nI (nd j)) μ = some (r, μ') ∧ LfP p nd sv i V its rl B o e μ j o' h' e' μ' r := by
  have hir := H.2.2.2.2.2.1 j hj
  have h3 : o 18 j ≠ 3 := fun q => by
    have := hir.2.2.2.2.2.2.2.2.2.1 q
    rw [this] at hk
    unfold Lf at hk
    revert hk; decide
  have h12 : o 18 j = 1 ∨ o 18 j = 2 := by
    rcases h1 with q | q | q
    · exact Or.inl q
    · exact Or.inr q
    · exact absurd q h3
  have h1' : p 7 j ≠ 0 → o 18 j = 1 := fun q => by
    rcases h12 with w | w
    · exact w
    · exact absurd (hir.2.2.2.2.2.2.2.2.1 w) q
  rcases hk with q | q | q | q
  · exact task_sim hN H hB hi hn hj hs q h12
  · exact wait_sim H hi hn hj hs q (h1' (by rw [q]; decide))
  · exact signal_sim H (by omega) hi hn hj hs q (h1' (by rw [q]; decide))
  · exact set_sim H (by omega) hi hn hj hs q (h1' (by rw [q]; decide))
theorem begins_ev {n N D : Nat} {Bm : Int32 → Int32 → Mem → Option (Int32 × Mem)} (hV : Vr i V sv μ) (hi : i < 6) (hn : n < 64) :
    md_begins N D Bm (nI i) (nI n) μ = (if sv n 0 = 1 then ((md_tries (nI i) (nI n) (up (up μ 5 (643 + 1262 * i + 10 * n + 0) 1) 5 (643 + 1262 * i + 10 * n + 1) (μ 5 0))).bind fun μ45 => md_begins_48 N D Bm (nI i) (nI n) (sv n 0) μ45) else md_begins_48 N D Bm (nI i) (nI n) (sv n 0) (up (up μ 5 (643 + 1262 * i + 10 * n + 0) 1) 5 (643 + 1262 * i + 10 * n + 1) (μ 5 0)))
    ∧ Vr i V sv (up (up μ 5 (643 + 1262 * i + 10 * n + 0) 1) 5 (643 + 1262 * i + 10 * n + 1) (μ 5 0)) := by
  have hV2 : Vr i V sv (up (up μ 5 (643 + 1262 * i + 10 * n + 0) 1) 5 (643 + 1262 * i + 10 * n + 1) (μ 5 0)) := hV.fr (by rw [up_row (by decide), up_row (by decide)]) (by rw [up_row (by decide), up_row (by decide)]) (by show up _ _ _ _ _ _ = _; rw [up_in (by omega), up_in (by omega)]) (by show up _ _ _ _ _ _ = _; rw [up_in (by omega), up_in (by omega)])
  refine ⟨?_, hV2⟩
  unfold md_begins
  rw [at_0, Option.bind_some, ck_nI (by omega) (by decide), at_1, Option.bind_some, rd70, Option.bind_some, ck_nI (by omega) (by decide), nI_clamp (by omega), nI_clamp (by omega), up_in (by omega), hV2.np0 hi hn, Option.bind_some]
theorem begins48_ev {N D : Nat} {Bm : Int32 → Int32 → Mem → Option (Int32 × Mem)} {x y k : Int32} (h5 : k ≠ 5) (h6 : k ≠ 6) : md_begins_48 N D Bm x y k μ = md_looks N D Bm x y μ := by
  unfold md_begins_48 md_begins_128 md_begins_171
  rw [if_neg h5, if_neg h6, bind_eta2]
theorem begin_leaf {j N D : Nat} {x2 : Int32} {Bx : Bool → Int32 → Int32 → Mem → Mem → Mem → Option (Mem × Mem × Mem)} {Bm : Int32 → Int32 → Mem → Option (Int32 × Mem)} (H : R p nd sv i V its rl B o h e μ) (hB : B < 3700) (hi : i < 6) (hn : NdS nd its) (hj : j < its) (hs : SI p nd sv j) (hk : Lf (p 7 j)) (h0 : o 18 j = 0) :
    ∃ o1 h1 μ1, in_beginItem N rl p Bx (nI j) x2 o h e = some (o1, h1, e) ∧ md_begins N D Bm (nI i) (nI (nd j)) μ = md_looks N D Bm (nI i) (nI (nd j)) μ1 ∧ R p nd sv i V its rl B o1 h1 e μ1 ∧ Fr nd its i j (j + 1) (j + 1) o e μ o1 e μ1 ∧ o1 18 j = 1 := by
  have h64 := hn.l64 hj
  have hj24 : j < 24 := by have := hn.2.1; omega
  have hir := H.2.2.2.2.2.1 j hj
  have g7 := hir.g7 (by rw [h0]; decide)
  have g6 := hir.g6 (Or.inl h0)
  have g2 := hir.2.2.1 h0
  obtain ⟨t, t1, t2, t3⟩ := H.t
  obtain ⟨E, E1, E2⟩ := H.2.2.2.1
  obtain ⟨b1, b2⟩ := begins_ev (n := nd j) (N := N) (D := D) (Bm := Bm) H.1 hi h64
  rw [t3] at b1 b2
  -- the parts that all kinds share
  have fin : ∀ (u w : Nat) (ku : Int32), (p 7 j ≠ 0) → (p 7 j = 1 → ku = nI w ∧ w < 1048576 ∧ p 10 j + nI t = nI w) → (p 7 j = 2 → (p 10 j = -1 → ku = 1000000000) ∧ (p 10 j ≠ -1 → ku = nI w ∧ w < 1048576 ∧ p 10 j + nI t = nI w)) →
      R p nd sv i V its rl B (up (up (up o 18 j 1) 22 j ku) 23 j 0) h e (up (up μ 5 (643 + 1262 * i + 10 * nd j + 0) 1) 5 (643 + 1262 * i + 10 * nd j + 1) (nI t)) ∧ Fr nd its i j (j + 1) (j + 1) o e μ (up (up (up o 18 j 1) 22 j ku) 23 j 0) e (up (up μ 5 (643 + 1262 * i + 10 * nd j + 0) 1) 5 (643 + 1262 * i + 10 * nd j + 1) (nI t)) := by
    intro u w ku hk0 hw hsg
    have e1 : Fm (up (up μ 5 (643 + 1262 * i + 10 * nd j + 0) 1) 5 (643 + 1262 * i + 10 * nd j + 1) (nI t)) i (nd j) 1 = nI t := up_at
    have e22 : (up (up (up o 18 j 1) 22 j ku) 23 j 0) 22 j = ku := by rw [up_other (by omega), up_at]
    refine H.node (B' := B) (x := 0) hi hn hj (fun c k q => by rw [up_other (by omega), up_other (by omega), up_other (by omega)]) (fun r hr => by rw [up_row hr, up_row hr]) (fun k q1 q2 q3 => by rw [up_in (by omega), up_in (by omega)]) E2 (E1.fr (by rw [up_in (by omega), up_in (by omega)]) (fun k _ _ => by rw [up_in (by omega), up_in (by omega)]))
      (by rw [up_other (by omega), up_other (by omega), up_at, up_at, wt1_0, h0, wt0]; omega)
      (fun _ => by rw [up_other (by omega), up_other (by omega), up_at, h0]; exact ⟨fun q => absurd q (Gi_nDn Gi1), fun q => absurd q nDn0⟩)
      (fun q => absurd q (by rw [h0]; exact nDn0))
      (IR.mk1 (by rw [up_other (by omega), up_other (by omega), up_at])
        (by show up _ _ _ _ _ _ = _; rw [up_in (by omega), up_at])
        (by show up _ _ _ _ _ _ = _; rw [up_in (by omega), up_in (by omega)]; exact g7)
        (by show up _ _ _ _ _ _ = _; rw [up_in (by omega), up_in (by omega)]; exact g6)
        (fun q => absurd q hk0)
        (fun q => ?_) (fun q => ⟨fun q2 => ?_, fun q2 => ?_⟩) (fun q => ?_) (fun _ => up_at))
    · obtain ⟨w1, w2, w3⟩ := hw q
      rw [e1, e22, w1, Int32.add_comm, w3]; exact ⟨rfl, w, w2, rfl⟩
    · rw [e22]; exact (hsg q).1 q2
    · obtain ⟨w1, w2, w3⟩ := (hsg q).2 q2
      rw [e1, e22, w1, Int32.add_comm, w3]; exact ⟨rfl, w, w2, rfl⟩
    · exfalso
      rcases q with q | q <;> rw [q] at hk <;> (unfold Lf at hk; revert hk; decide)
  rcases hk with hk | hk | hk | hk
  · obtain ⟨s0, ⟨c, hc, c1, c2⟩, _⟩ := hs.k0 hk
    obtain ⟨d1, _, ⟨dd, d2, d3⟩, _⟩ := H.2.1.2.2 c hc
    have hE : E < 4000 := by unfold Pot at E2; omega
    obtain ⟨h', μ2, n1, n2, n3, n4⟩ := note_sim (kd := 0) (v := c) (x1 := 0) (t := t) (e := e) (μ := up (up μ 5 (643 + 1262 * i + 10 * nd j + 0) 1) 5 (643 + 1262 * i + 10 * nd j + 1) (nI t)) hi (by rw [up_in (by omega), up_in (by omega)]; exact H.2.1.1) t1 t2 (E1.fr (by rw [up_in (by omega), up_in (by omega)]) (fun k _ _ => by rw [up_in (by omega), up_in (by omega)])) hE rfl (by decide) rfl (by omega)
    have eM : ∀ k, k ≠ 30 + 1262 * i → ¬ (43 + 1262 * i ≤ k ∧ k < 643 + 1262 * i) → k ≠ 643 + 1262 * i + 10 * nd j + 0 → k ≠ 643 + 1262 * i + 10 * nd j + 1 → μ2 5 k = μ 5 k := fun k q1 q2 q3 q4 => by rw [n4.2 k q1 q2, up_in q4, up_in q3]
    have e2 : Fm μ2 i (nd j) 2 = 0 := (eM _ (by omega) (by omega) (by omega) (by omega)).trans g2
    have et : μ2 5 0 + μ2 5 (1 + c) = nI (t + dd) := by rw [eM 0 (by omega) (by omega) (by omega) (by omega), eM (1 + c) (by omega) (by omega) (by omega) (by omega), t3, d1, d2, nI_add]
    obtain ⟨z1, z2⟩ := H.node (B' := B) (x := 1) (o' := up (up (up (up (up (up o 18 j 1) 22 j 1000000000) 23 j 0) 18 j 1) 23 j 1) 22 j (nI (t + dd))) (h' := h') (μ' := up (up μ2 5 (643 + 1262 * i + 10 * nd j + 2) 1) 5 (643 + 1262 * i + 10 * nd j + 3) (nI (t + dd))) hi hn hj
      (fun c k q => by rw [up_other (by omega), up_other (by omega), up_other (by omega), up_other (by omega), up_other (by omega), up_other (by omega)]) (fun r hr => by rw [up_row hr, up_row hr, n4.1 r hr, up_row hr, up_row hr]) (fun k q1 q2 q3 => by rw [up_in (by omega), up_in (by omega), eM k q2 q3 (by omega) (by omega)]) E2
      (n3.fr (by rw [up_in (by omega), up_in (by omega)]) (fun k _ _ => by rw [up_in (by omega), up_in (by omega)]))
      (by rw [up_other (by omega), up_other (by omega), up_at, up_other (by omega), up_at, h0, wt0]
          rw [show (1 : Int32) = nI 1 from rfl]
          rw [show wt (nI 1) (nI 1) ((up (up (up (up (up (up o 18 j (nI 1)) 22 j 1000000000) 23 j 0) 18 j (nI 1)) 23 j (nI 1)) 22 j (nI (t + dd))) 24 j) = 36 from wt1 (a := 1) (by omega)]; omega)
      (fun _ => by rw [up_other (by omega), up_other (by omega), up_at, h0]; exact ⟨fun q => absurd q (Gi_nDn Gi1), fun q => absurd q nDn0⟩)
      (fun q => absurd q (by rw [h0]; exact nDn0))
      (IR.mk1 (by rw [up_other (by omega), up_other (by omega), up_at])
        (by show up _ _ _ _ _ _ = _; rw [up_in (by omega), up_in (by omega), n4.2 _ (by omega) (by omega), up_in (by omega), up_at])
        (by show up _ _ _ _ _ _ = _; rw [up_in (by omega), up_in (by omega), eM _ (by omega) (by omega) (by omega) (by omega)]; exact g7)
        (by show up _ _ _ _ _ _ = _; rw [up_in (by omega), up_in (by omega), eM _ (by omega) (by omega) (by omega) (by omega)]; exact g6)
        (fun _ => ⟨by rw [up_at]; show up _ _ _ _ _ _ = _; rw [up_at], by rw [up_other (by omega), up_at]; show up _ _ _ _ _ _ = _; rw [up_in (by omega), up_at], ⟨1, by omega, by omega, by rw [up_other (by omega), up_at]; rfl⟩, ⟨t + dd, by omega, by rw [up_at]⟩⟩)
        (fun q => absurd (hk.symm.trans q) (by decide)) (fun q => absurd (hk.symm.trans q) (by decide)) (fun q => by rcases q with q | q <;> exact absurd (hk.symm.trans q) (by decide)) (fun q => absurd hk q))
    refine ⟨_, h', _, ?_, ?_, z1, z2, by rw [up_other (by omega), up_other (by omega), up_at]⟩
    · unfold in_beginItem
      rw [ins24 hj24, Option.bind_some, if_pos rfl, ck_nI hj24 (by decide), ck_nI (by omega) (by decide), ck_nI (by omega) (by decide), rd_nI hj24 (by decide), Option.bind_some, hk, if_pos rfl, nI_clamp (by omega), beginAttempt_ev hj24 hc c1 n1, Option.bind_some, up_at, t1, d2, nI_add]
      rfl
    · rw [b1, s0, if_pos rfl, tries_ev b2 hi h64 hc c2 n2, Option.bind_some, begins48_ev (by decide) (by decide), e2, et]
      rfl
  · obtain ⟨s0, am, ham, a1, a2⟩ := hs.k1 hk
    obtain ⟨z1, z2⟩ := fin 0 (am + t) (nI (t + am)) (by rw [hk]; decide) (fun _ => ⟨by rw [Nat.add_comm], by omega, by rw [a1, nI_add]⟩) (fun q => absurd (hk.symm.trans q) (by decide))
    have eo : up (up (up (up o 18 j 1) 22 j 1000000000) 23 j 0) 22 j (nI (t + am)) = up (up (up o 18 j 1) 22 j (nI (t + am))) 23 j 0 := by
      funext c' k'
      simp only [up_eq]
      by_cases q1 : c' = 22 ∧ k' = j
      · obtain ⟨rfl, rfl⟩ := q1; simp
      · simp [q1]
    refine ⟨_, h, _, ?_, ?_, z1, z2, by rw [up_other (by omega), up_other (by omega), up_at]⟩
    · unfold in_beginItem
      rw [ins24 hj24, Option.bind_some, if_pos rfl, ck_nI hj24 (by decide), ck_nI (by omega) (by decide), ck_nI (by omega) (by decide), rd_nI hj24 (by decide), Option.bind_some, hk, if_neg (by decide), if_pos rfl, rd_nI hj24 (by decide), Option.bind_some, ck_nI (by omega) (by decide), nI_clamp (by omega), t1, a1, nI_add, eo]
    · rw [b1, s0, if_neg (by decide), begins48_ev (by decide) (by decide)]
  · obtain ⟨s0, ⟨c, hc, c1, c2⟩, s2⟩ := hs.k2 hk
    rcases s2 with ⟨a1, a2⟩ | ⟨am, ham, a1, a2⟩
    · obtain ⟨z1, z2⟩ := fin 0 0 1000000000 (by rw [hk]; decide) (fun q => absurd (hk.symm.trans q) (by decide)) (fun _ => ⟨fun _ => rfl, fun q => absurd a1 q⟩)
      refine ⟨_, h, _, ?_, ?_, z1, z2, by rw [up_other (by omega), up_other (by omega), up_at]⟩
      · unfold in_beginItem
        rw [ins24 hj24, Option.bind_some, if_pos rfl, ck_nI hj24 (by decide), ck_nI (by omega) (by decide), ck_nI (by omega) (by decide), rd_nI hj24 (by decide), Option.bind_some, hk, if_neg (by decide), if_neg (by decide), if_pos rfl]
        unfold in_beginSignal
        rw [rd_nI hj24 (by decide), Option.bind_some, a1, if_pos (by decide), nI_clamp (by omega)]
        rfl
      · rw [b1, s0, if_neg (by decide), begins48_ev (by decide) (by decide)]
    · obtain ⟨z1, z2⟩ := fin 0 (am + t) (nI (t + am)) (by rw [hk]; decide) (fun q => absurd (hk.symm.trans q) (by decide)) (fun _ => ⟨fun q => absurd (a1.symm.trans q) (nI_m1 (by omega)), fun _ => ⟨by rw [Nat.add_comm], by omega, by rw [a1, nI_add]⟩⟩)
      have eo : up (up (up (up o 18 j 1) 22 j 1000000000) 23 j 0) 22 j (nI (t + am)) = up (up (up o 18 j 1) 22 j (nI (t + am))) 23 j 0 := by
        funext c' k'
        simp only [up_eq]
        by_cases q1 : c' = 22 ∧ k' = j
        · obtain ⟨rfl, rfl⟩ := q1; simp
        · simp [q1]
      refine ⟨_, h, _, ?_, ?_, z1, z2, by rw [up_other (by omega), up_other (by omega), up_at]⟩
      · unfold in_beginItem
        rw [ins24 hj24, Option.bind_some, if_pos rfl, ck_nI hj24 (by decide), ck_nI (by omega) (by decide), ck_nI (by omega) (by decide), rd_nI hj24 (by decide), Option.bind_some, hk, if_neg (by decide), if_neg (by decide), if_pos rfl]
        unfold in_beginSignal
        rw [rd_nI hj24 (by decide), Option.bind_some, a1, if_neg (nI_pos (by omega)), Option.bind_some, ck_nI (by omega) (by decide), nI_clamp (by omega), t1, nI_add, eo]
        rfl
      · rw [b1, s0, if_neg (by decide), begins48_ev (by decide) (by decide)]
  · obtain ⟨s0, _⟩ := hs.k3 hk
    obtain ⟨z1, z2⟩ := fin 0 0 1000000000 (by rw [hk]; decide) (fun q => absurd (hk.symm.trans q) (by decide)) (fun q => absurd (hk.symm.trans q) (by decide))
    refine ⟨_, h, _, ?_, ?_, z1, z2, by rw [up_other (by omega), up_other (by omega), up_at]⟩
    · unfold in_beginItem
      rw [ins24 hj24, Option.bind_some, if_pos rfl, ck_nI hj24 (by decide), ck_nI (by omega) (by decide), ck_nI (by omega) (by decide), rd_nI hj24 (by decide), Option.bind_some, hk, if_neg (by decide), if_neg (by decide), if_neg (by decide), if_pos rfl, nI_clamp (by omega)]
    · rw [b1, s0, if_neg (by decide), begins48_ev (by decide) (by decide)]
end RB
