/-! signals, sets, tasks -/
section RL2
variable {p : Mem} {nd : Nat → Nat} {sv : Nat → Nat → Int32} {i V its rl B B' : Nat} {o h e μ o' h' e' μ' : Mem}
theorem SI.k2 {j : Nat} (hs : SI p nd sv j) (hk : p 7 j = 2) : sv (nd j) 0 = 3 ∧ (∃ c : Nat, c < 8 ∧ p 9 j = nI c ∧ sv (nd j) 1 = nI c) ∧ ((p 10 j = -1 ∧ sv (nd j) 2 = -1) ∨ ∃ a : Nat, a ≤ 999 ∧ p 10 j = nI a ∧ sv (nd j) 2 = nI a) := by
  rcases hs.2.2.2 with q | q | q | q | q | q
  · exact absurd (hk.symm.trans q.1) (by decide)
  · exact absurd (hk.symm.trans q.1) (by decide)
  · exact q.2
  · exact absurd (hk.symm.trans q.1) (by decide)
  · exact absurd (hk.symm.trans q.1) (by decide)
  · exact absurd (hk.symm.trans q.1) (by decide)
theorem SI.k3 {j : Nat} (hs : SI p nd sv j) (hk : p 7 j = 3) : sv (nd j) 0 = 4 ∧ (∃ c : Nat, c < 4 ∧ p 9 j = nI c ∧ sv (nd j) 1 = nI c) ∧ ((p 11 j = 1 ∧ sv (nd j) 2 = 1) ∨ (p 11 j = 0 ∧ sv (nd j) 2 = 0)) ∧ sv (nd j) 3 = p 10 j := by
  rcases hs.2.2.2 with q | q | q | q | q | q
  · exact absurd (hk.symm.trans q.1) (by decide)
  · exact absurd (hk.symm.trans q.1) (by decide)
  · exact absurd (hk.symm.trans q.1) (by decide)
  · exact q.2
  · exact absurd (hk.symm.trans q.1) (by decide)
  · exact absurd (hk.symm.trans q.1) (by decide)
theorem SI.k0 {j : Nat} (hs : SI p nd sv j) (hk : p 7 j = 0) : sv (nd j) 0 = 1 ∧ (∃ c : Nat, c < 8 ∧ p 9 j = nI c ∧ sv (nd j) 1 = nI c) ∧ (∃ g : Nat, g ≤ 9 ∧ p 11 j = nI g ∧ sv (nd j) 2 = nI g) ∧ ∃ a : Nat, a ≤ 999 ∧ p 10 j = nI a ∧ sv (nd j) 3 = nI a := by
  rcases hs.2.2.2 with q | q | q | q | q | q
  · exact q.2
  · exact absurd (hk.symm.trans q.1) (by decide)
  · exact absurd (hk.symm.trans q.1) (by decide)
  · exact absurd (hk.symm.trans q.1) (by decide)
  · exact absurd (hk.symm.trans q.1) (by decide)
  · exact absurd (hk.symm.trans q.1) (by decide)
theorem SI.k1 {j : Nat} (hs : SI p nd sv j) (hk : p 7 j = 1) : sv (nd j) 0 = 2 ∧ ∃ a : Nat, a ≤ 999 ∧ p 10 j = nI a ∧ sv (nd j) 1 = nI a := by
  rcases hs.2.2.2 with q | q | q | q | q | q
  · exact absurd (hk.symm.trans q.1) (by decide)
  · exact q.2
  · exact absurd (hk.symm.trans q.1) (by decide)
  · exact absurd (hk.symm.trans q.1) (by decide)
  · exact absurd (hk.symm.trans q.1) (by decide)
  · exact absurd (hk.symm.trans q.1) (by decide)
theorem SI.k4 {j : Nat} (hs : SI p nd sv j) (hk : p 7 j = 4) : sv (nd j) 0 = 5 ∧ (∃ c : Nat, c < 4 ∧ p 9 j = nI c ∧ sv (nd j) 1 = nI c) ∧ sv (nd j) 2 = p 10 j := by
  rcases hs.2.2.2 with q | q | q | q | q | q
  · exact absurd (hk.symm.trans q.1) (by decide)
  · exact absurd (hk.symm.trans q.1) (by decide)
  · exact absurd (hk.symm.trans q.1) (by decide)
  · exact absurd (hk.symm.trans q.1) (by decide)
  · exact q.2
  · exact absurd (hk.symm.trans q.1) (by decide)
theorem SI.k5 {j : Nat} (hs : SI p nd sv j) (hk : p 7 j = 5) : sv (nd j) 0 = 6 ∧ ∃ q : Nat, 1 ≤ q ∧ q ≤ 4 ∧ p 11 j = nI q ∧ sv (nd j) 1 = nI q := by
  rcases hs.2.2.2 with q | q | q | q | q | q
  · exact absurd (hk.symm.trans q.1) (by decide)
  · exact absurd (hk.symm.trans q.1) (by decide)
  · exact absurd (hk.symm.trans q.1) (by decide)
  · exact absurd (hk.symm.trans q.1) (by decide)
  · exact absurd (hk.symm.trans q.1) (by decide)
  · exact q.2
theorem R.t (H : R p nd sv i V its rl B o h e μ) : ∃ t : Nat, e 1 2 = nI t ∧ t < 131072 ∧ μ 5 0 = nI t := by
  obtain ⟨t, h1, h2⟩ := H.2.1.2.1
  exact ⟨t, h1, h2, H.2.1.1.trans h1⟩
theorem signal_sim {j N D : Nat} {x2 : Int32} {Bx : Bool → Int32 → Int32 → Mem → Mem → Mem → Option (Mem × Mem × Mem)} {Bm : Int32 → Int32 → Mem → Option (Int32 × Mem)} (H : R p nd sv i V its rl B o h e μ) (hB : B < 3800) (hi : i < 6) (hn : NdS nd its) (hj : j < its) (hs : SI p nd sv j) (hk : p 7 j = 2) (h1 : o 18 j = 1) :
    ∃ o' h' e' μ' r, in_lookAt N rl p Bx (nI j) x2 o h e = some (o', h', e') ∧ md_looks N D Bm (nI i) (nI (nd j)) μ = some (r, μ') ∧ LfP p nd sv i V its rl B o e μ j o' h' e' μ' r := by
  have h64 := hn.l64 hj
  have hj24 : j < 24 := by have := hn.2.1; omega
  have hir := H.2.2.2.2.2.1 j hj
  obtain ⟨hu1, hu2⟩ := hir.2.2.2.2.2.2.2.2.2.2.2.1 hk h1
  have h23 : o 23 j = 0 := hir.2.2.2.2.2.2.2.2.2.2.2.2.2.2 (by rw [hk]; decide) h1
  obtain ⟨s0, ⟨c, hc, c1, c2⟩, s2⟩ := hs.k2 hk
  obtain ⟨t, t1, t2, t3⟩ := H.t
  have hpe : μ 5 (21 + 1262 * i + (14 + c)) = o 17 c := (H.2.2.1.2.2.2.2 c hc).1
  by_cases hp : 0 < o 17 c
  · obtain ⟨r1, r2⟩ := H.pend hi hc hp (o 17 c - 1) (pend9 hp (H.2.2.1.2.2.2.2 c hc).2)
    obtain ⟨h', μ', n1, n2, n3, n4, n5⟩ := r1.note (kd := 3) (v := c) hi (by omega) rfl (by decide) rfl hc
    have g7 : Fm μ' i (nd j) 7 = -1 := by
      rw [show Fm μ' i (nd j) 7 = _ from n4.2 _ (by omega) (by omega), up_in (by omega)]; exact hir.g7 (by rw [h1]; decide)
    obtain ⟨z1, z2⟩ := n3.st (B' := B) (x := 4) hi hn hj (by rw [up_cell (by decide), h1]; exact Gi1) (Or.inr (Or.inr ⟨rfl, by rw [hk]; decide⟩)) g7 (by rw [up_cell (by decide), up_cell (by decide), up_cell (by decide), h1, h23, wt1_0, wt4]; omega)
    refine ⟨_, _, _, _, 2, ?_, ?_, z1, (r2 _ _ _).trans ((n5 _ _ _).trans z2), by rw [up_at]; rfl, Or.inr (Or.inl up_at)⟩
    · unfold in_lookAt
      rw [rd_nI hj24 (by decide), Option.bind_some, hk, if_neg (by decide), if_neg (by decide), if_pos rfl]
      unfold in_lookAtSignal
      rw [rd_nI hj24 (by decide), Option.bind_some, c1, ins8 hc, Option.bind_some, if_pos rfl, rd_nI hc (by decide), Option.bind_some, if_pos hp, Option.bind_some, ck_nI hc (by decide), ck_nI hj24 (by decide), show (3 : Int32) = nI 3 from rfl, n1, Option.bind_some, nI_clamp (by omega), nI_clamp (by omega)]
      rfl
    · unfold md_looks
      rw [H.1.np0 hi h64, Option.bind_some, s0, if_neg (by decide), if_neg (by decide), if_pos rfl]
      unfold md_looksAtSignal
      rw [H.1.np1 hi h64, Option.bind_some, H.1.np2 hi h64, Option.bind_some, c2, of_14, Option.bind_some, rd_nI (by omega) (by decide), Option.bind_some, hpe, if_pos hp, Option.bind_some, rd_nI (by omega) (by decide), Option.bind_some, hpe, ck_nI (by omega) (by decide), nI_clamp (by omega), show (3 : Int32) = nI 3 from rfl, n2, Option.bind_some, comesTo_ev hi h64]
      rfl
  · have hX : in_lookAt N rl p Bx (nI j) x2 o h e = if e 1 2 < o 22 j then some (o, h, e) else (hi_add rl e 4 (nI c) h).bind fun h86 => some (up o 18 j 5, h86, e) := by
      unfold in_lookAt
      rw [rd_nI hj24 (by decide), Option.bind_some, hk, if_neg (by decide), if_neg (by decide), if_pos rfl]
      unfold in_lookAtSignal
      rw [rd_nI hj24 (by decide), Option.bind_some, c1, ins8 hc, Option.bind_some, if_pos rfl, rd_nI hc (by decide), Option.bind_some, if_neg hp]
      unfold in_lookAtSignal_57
      rw [rd_nI (by omega) (by decide), Option.bind_some]
      by_cases q : e 1 2 < o 22 j
      · rw [if_pos q, if_pos q]; rfl
      · rw [if_neg q, if_neg q, ck_nI hj24 (by decide), nI_clamp (by omega)]
        cases hi_add rl e 4 (nI c) h <;> rfl
    have hM : md_looks N D Bm (nI i) (nI (nd j)) μ = if e 1 2 < o 22 j then some (1, μ) else (md_notes (nI i) 4 (nI c) μ).bind fun μ97 => some (3, up μ97 5 (643 + 1262 * i + 10 * nd j + 0) 3) := by
      unfold md_looks
      rw [H.1.np0 hi h64, Option.bind_some, s0, if_neg (by decide), if_neg (by decide), if_pos rfl]
      unfold md_looksAtSignal
      rw [H.1.np1 hi h64, Option.bind_some, H.1.np2 hi h64, Option.bind_some, c2, of_14, Option.bind_some, rd_nI (by omega) (by decide), Option.bind_some, hpe, if_neg hp]
      rcases s2 with ⟨w1, w2⟩ | ⟨a, wa, w1, w2⟩
      · rw [w2, if_pos (by decide), hu1 w1, if_pos]
        · rfl
        · rw [t1]; exact nI_lt (b := 1000000000) (by omega) (by decide)
      · obtain ⟨hu3, _⟩ := hu2 (by rw [w1]; exact nI_m1 (by omega))
        rw [w2, if_neg (nI_pos (by omega)), rd70, Option.bind_some, at_1, Option.bind_some, rd_nI (by omega) (by decide), Option.bind_some, H.2.1.1, hu3, w1]
        by_cases q : e 1 2 < μ 5 (643 + 1262 * i + 10 * nd j + 1) + nI a
        · rw [if_pos q, if_pos q]; rfl
        · rw [if_neg q, if_neg q]
          cases md_notes (nI i) 4 (nI c) μ with
          | none => rfl
          | some μ97 =>
            rw [Option.bind_some, comesTo_ev hi h64]; rfl
    by_cases q : e 1 2 < o 22 j
    · refine ⟨o, h, e, μ, 1, by rw [hX, if_pos q], by rw [hM, if_pos q], H, Fr.refl, by rw [h1]; rfl, Or.inl ⟨by rw [h1]; exact Gi1, q, by rw [hk]; decide, fun _ c' hc' w => ?_⟩⟩
      have : c' = c := nI_inj (by omega) (by omega) (w.symm.trans c1)
      subst this; exact hp
    · obtain ⟨h', μ', n1, n2, n3, n4, n5⟩ := H.note (kd := 4) (v := c) (x1 := 4) hi (by omega) rfl (by decide) rfl hc
      have g7 : Fm μ' i (nd j) 7 = -1 := by
        rw [show Fm μ' i (nd j) 7 = _ from n4.2 _ (by omega) (by omega)]; exact hir.g7 (by rw [h1]; decide)
      obtain ⟨z1, z2⟩ := n3.st (B' := B) (x := 5) hi hn hj (by rw [h1]; exact Gi1) (Or.inl rfl) g7 (by rw [h1, h23, wt1_0, wt5]; omega)
      exact ⟨_, _, _, _, 3, by rw [hX, if_neg q, n1, Option.bind_some], by rw [hM, if_neg q, n2, Option.bind_some, mS_5], z1, (n5 _ _ _).trans z2, by rw [up_at]; rfl, Or.inr (Or.inr up_at)⟩
theorem set_sim {j N D : Nat} {x2 : Int32} {Bx : Bool → Int32 → Int32 → Mem → Mem → Mem → Option (Mem × Mem × Mem)} {Bm : Int32 → Int32 → Mem → Option (Int32 × Mem)} (H : R p nd sv i V its rl B o h e μ) (hB : B < 3800) (hi : i < 6) (hn : NdS nd its) (hj : j < its) (hs : SI p nd sv j) (hk : p 7 j = 3) (h1 : o 18 j = 1) :
    ∃ o' h' e' μ' r, in_lookAt N rl p Bx (nI j) x2 o h e = some (o', h', e') ∧ md_looks N D Bm (nI i) (nI (nd j)) μ = some (r, μ') ∧ LfP p nd sv i V its rl B o e μ j o' h' e' μ' r := by
  have h64 := hn.l64 hj
  have hj24 : j < 24 := by have := hn.2.1; omega
  have hir := H.2.2.2.2.2.1 j hj
  have h23 : o 23 j = 0 := hir.2.2.2.2.2.2.2.2.2.2.2.2.2.2 (by rw [hk]; decide) h1
  obtain ⟨s0, ⟨c, hc, c1, c2⟩, s2, s3⟩ := hs.k3 hk
  have hva : μ 5 (21 + 1262 * i + (10 + c)) = o 16 c := H.2.2.1.2.2.2.1 c hc
  have key : ∃ v : Int32, in_lookAt N rl p Bx (nI j) x2 o h e = (hi_add rl e 8 (nI c) h).bind (fun h66 => some (up (up o 16 c v) 18 j 4, h66, e)) ∧ md_looks N D Bm (nI i) (nI (nd j)) μ = (md_notes (nI i) 8 (nI c) (up μ 5 (21 + 1262 * i + (10 + c)) v)).bind fun μ65 => some (2, up μ65 5 (643 + 1262 * i + 10 * nd j + 0) 2) := by
    rcases s2 with ⟨w1, w2⟩ | ⟨w1, w2⟩
    · refine ⟨o 16 c + p 10 j, ?_, ?_⟩
      · unfold in_lookAt
        rw [rd_nI hj24 (by decide), Option.bind_some, hk, if_neg (by decide), if_neg (by decide), if_neg (by decide), if_pos rfl]
        unfold in_changeVariable
        rw [rd_nI hj24 (by decide), Option.bind_some, c1, ins4 hc, Option.bind_some, if_pos rfl, rd_nI hj24 (by decide), Option.bind_some, w1, if_pos rfl, rd_nI hc (by decide), Option.bind_some]
        unfold in_changeVariable_41
        rw [rd_nI hj24 (by decide), Option.bind_some, ck_nI hc (by decide)]
        cases hi_add rl e 8 (nI c) h with
        | none => rfl
        | some h66 => rw [Option.bind_some, ck_nI hj24 (by decide), nI_clamp (by omega), nI_clamp (by omega)]; rfl
      · unfold md_looks
        rw [H.1.np0 hi h64, Option.bind_some, s0, if_neg (by decide), if_neg (by decide), if_neg (by decide), if_pos rfl]
        unfold md_sets
        rw [H.1.np1 hi h64, Option.bind_some, H.1.np3 hi h64, Option.bind_some, c2, of_10, Option.bind_some, H.1.np2 hi h64, Option.bind_some, w2, if_pos rfl, rd_nI (by omega) (by decide), Option.bind_some, hva, s3]
        unfold md_sets_59
        rw [ck_nI (by omega) (by decide), nI_clamp (by omega)]
        cases md_notes (nI i) 8 (nI c) (up μ 5 (21 + 1262 * i + (10 + c)) (o 16 c + p 10 j)) with
        | none => rfl
        | some μ97 => rw [Option.bind_some, comesTo_ev hi h64]; rfl
    · refine ⟨p 10 j, ?_, ?_⟩
      · unfold in_lookAt
        rw [rd_nI hj24 (by decide), Option.bind_some, hk, if_neg (by decide), if_neg (by decide), if_neg (by decide), if_pos rfl]
        unfold in_changeVariable
        rw [rd_nI hj24 (by decide), Option.bind_some, c1, ins4 hc, Option.bind_some, if_pos rfl, rd_nI hj24 (by decide), Option.bind_some, w1, if_neg (by decide)]
        unfold in_changeVariable_41
        rw [rd_nI hj24 (by decide), Option.bind_some, ck_nI hc (by decide), Int32.zero_add]
        cases hi_add rl e 8 (nI c) h with
        | none => rfl
        | some h66 => rw [Option.bind_some, ck_nI hj24 (by decide), nI_clamp (by omega), nI_clamp (by omega)]; rfl
      · unfold md_looks
        rw [H.1.np0 hi h64, Option.bind_some, s0, if_neg (by decide), if_neg (by decide), if_neg (by decide), if_pos rfl]
        unfold md_sets
        rw [H.1.np1 hi h64, Option.bind_some, H.1.np3 hi h64, Option.bind_some, c2, of_10, Option.bind_some, H.1.np2 hi h64, Option.bind_some, w2, if_neg (by decide), s3]
        unfold md_sets_59
        rw [ck_nI (by omega) (by decide), nI_clamp (by omega)]
        cases md_notes (nI i) 8 (nI c) (up μ 5 (21 + 1262 * i + (10 + c)) (p 10 j)) with
        | none => rfl
        | some μ97 => rw [Option.bind_some, comesTo_ev hi h64]; rfl
  obtain ⟨v, k1, k2⟩ := key
  obtain ⟨r1, r2⟩ := H.var hi hc v
  obtain ⟨h', μ', n1, n2, n3, n4, n5⟩ := r1.note (kd := 8) (v := c) (x1 := 8) hi (by omega) rfl (by decide) rfl (by omega)
  have g7 : Fm μ' i (nd j) 7 = -1 := by
    rw [show Fm μ' i (nd j) 7 = _ from n4.2 _ (by omega) (by omega), up_in (by omega)]; exact hir.g7 (by rw [h1]; decide)
  obtain ⟨z1, z2⟩ := n3.st (B' := B) (x := 4) hi hn hj (by rw [up_cell (by decide), h1]; exact Gi1) (Or.inr (Or.inr ⟨rfl, by rw [hk]; decide⟩)) g7 (by rw [up_cell (by decide), up_cell (by decide), up_cell (by decide), h1, h23, wt1_0, wt4]; omega)
  exact ⟨_, _, _, _, 2, by rw [k1, n1, Option.bind_some], by rw [k2, n2, Option.bind_some, mS_4], z1, (r2 _ _ _).trans ((n5 _ _ _).trans z2), by rw [up_at]; rfl, Or.inr (Or.inl up_at)⟩
end RL2
