/-! a look at an instance; an instance begins; an instance is given up -/
section RK2
variable {p : Mem} {nd : Nat → Nat} {sv : Nat → Nat → Int32} {i V its rl B B' N D : Nat} {o h e μ o' h' e' μ' : Mem}
/-- what follows when the body of an instance has been looked at -/
theorem tail_sim {F : Nat} (hi : i < 6) (hS : ST p nd sv its) (hN : 100 ≤ N) (H : R p nd sv i V its rl 2000 o h e μ) (h1 : Gm μ i 1 = o 0 3) (h4 : Gm μ i 4 = o 0 4) (h5 : Gm μ i 5 = o 0 5) (h0 : o 0 3 = 0) (h55 : o 0 5 = -5) (h7 : Fm μ i 0 7 = -1) (hF0 : Fm μ i 0 0 = mS (o 19 0)) (hb : BodyS p nd i F o e μ 0 its) :
    ∃ o' h' e' μ', in_look_13 N D rl p o h e = some (o', h', e') ∧ (if mS (o 19 0) = 2 then (md_becomes (nI i) 1 μ).bind fun μ28 => md_looksAt_58 N D (nI i) μ28
      else (if mS (o 19 0) = 3 then (md_at (nI i) 0 7).bind fun k47 => ck 7593 k47 <| (md_becomes (nI i) 2 (up μ 5 k47.toNatClampNeg ((-1)))).bind fun μ55 => md_looksAt_58 N D (nI i) μ55 else md_looksAt_58 N D (nI i) μ)) = some μ' ∧ LkR p nd sv i V its rl F o' h' e' μ' ∧ SetR p e' o' its ∧ LkF i o e μ o' e' μ' := by
  have hn := hS.1
  have hits := hn.2.1
  unfold in_look_13
  rw [if_pos h0, show (0 : Int32) = nI 0 from rfl, rd_nI (by omega) (by decide), Option.bind_some]
  rcases hb with ⟨q1, cu, q2, q3, q4⟩ | ⟨q1 | q1, q2⟩
  · -- it goes on
    have e58 : md_looksAt_58 N D (nI i) μ = some μ := by
      unfold md_looksAt_58
      rw [of_1, Option.bind_some, rd_nI (by omega) (by decide), Option.bind_some, show μ 5 (21 + 1262 * i + 1) = 0 from h1.trans h0, if_neg (by decide)]
    refine ⟨o, h, e, μ, ?_, ?_, ⟨H, h1, h4, h5, Or.inl ⟨h0, q1, by rw [hF0, q1]; rfl, h7, h55, cu, q2, q3⟩⟩, ⟨fun j hj hg => ?_, fun q => absurd (h0.symm.trans q) (by decide)⟩, LkF.refl⟩
    · rw [q1, if_neg (by decide)]
      unfold in_look_35
      rw [if_pos h0, show (0 : Int32) = nI 0 from rfl, rd_nI (by omega) (by decide), Option.bind_some, q1, if_neg (by decide)]
      unfold in_look_65
      rw [if_neg (by rw [h0]; decide)]
    · rw [q1, if_neg (by decide), if_neg (by decide), e58]
    · obtain ⟨s1, s2, _, _, s5⟩ := q4 j (by omega) hj hg
      exact ⟨s1, s2, s5⟩
  · -- completed
    obtain ⟨o1, h1', μ1, x1, x2, _, x3, x4, x5, x6⟩ := end_sim (x := 1) (s := 1) hi hS H rfl (by omega) h4 (Or.inl h0) q2 h7
    refine ⟨o1, h1', e, μ1, ?_, ?_, x3 F, x4, x5⟩
    · rw [q1, if_pos rfl, x1, Option.bind_some]
      dsimp only
      unfold in_look_35
      rw [if_neg (by rw [x6]; decide)]
      unfold in_look_65
      rw [if_neg (by rw [x6]; decide)]
    · rw [q1, if_pos (show mS 4 = 2 by decide), x2, Option.bind_some]
      unfold md_looksAt_58
      rw [of_1, Option.bind_some, rd_nI (by omega) (by decide), Option.bind_some, show μ1 5 (21 + 1262 * i + 1) = 1 from ((x3 F).2.1).trans x6, if_neg (by decide)]
  · -- failed
    obtain ⟨o1, h1', μ1, x1, x2, o2, h2, e2, μ2, y1, y2, y3, y4, y5⟩ := fail_sim (D := D) hi hS hN H h4 h5 h0 h55 q2
    refine ⟨o2, h2, e2, μ2, ?_, ?_, y3 F, y4, y5⟩
    · rw [q1, if_neg (by decide)]
      unfold in_look_35
      rw [if_pos h0, show (0 : Int32) = nI 0 from rfl, rd_nI (by omega) (by decide), Option.bind_some, q1, if_pos rfl, x1, Option.bind_some]
      dsimp only
      rw [show (24 : Int32) = nI 24 from rfl, ck_nI (by omega) (by decide), nI_clamp (by omega)]
      exact y1
    · rw [q1, if_neg (by decide), if_pos (show mS 5 = 3 by decide), at_7, Option.bind_some, ck_nI (by omega) (by decide), nI_clamp (by omega), show 643 + 1262 * i + 10 * 0 + 7 = 643 + 1262 * i + 7 by omega, x2, Option.bind_some]
      exact y2
theorem bst0 : Bst nd 0 := Or.inl rfl
theorem ST.ch0 (hS : ST p nd sv its) {F : Nat} (h : Ch p nd sv F 0 0 0 its) : Ch p nd sv F 0 (nd 0 - 1) 0 its := by
  rw [hS.1.2.2.1]; exact h
theorem looksAt_ev (hi : i < 6) (h1 : Gm μ i 1 = 0) : md_looksAt N D (nI i) μ = (md_looksAtBody N D (kn_mlook N D D) (nI i) 0 μ).bind fun (k16, μ16) => if k16 = 2 then (md_becomes (nI i) 1 μ16).bind fun μ28 => md_looksAt_58 N D (nI i) μ28
      else (if k16 = 3 then (md_at (nI i) 0 7).bind fun k47 => ck 7593 k47 <| (md_becomes (nI i) 2 (up μ16 5 k47.toNatClampNeg ((-1)))).bind fun μ55 => md_looksAt_58 N D (nI i) μ55 else md_looksAt_58 N D (nI i) μ16) := by
  unfold md_looksAt
  rw [of_1, Option.bind_some, rd_nI (by omega) (by decide), Option.bind_some, show μ 5 (21 + 1262 * i + 1) = 0 from h1, if_pos rfl]
theorem look_sim {F : Nat} (hi : i < 6) (hS : ST p nd sv its) (hN : 100 ≤ N) (hD : 16 ≤ D) (hF : Ch p nd sv F 0 0 0 its) (H : LkR p nd sv i V its rl F o h e μ) :
    ∃ o' h' e' μ', in_look N D rl p o h e = some (o', h', e') ∧ md_looksAt N D (nI i) μ = some μ' ∧ LkR p nd sv i V its rl F o' h' e' μ' ∧ ((o 0 3 = 0 ∨ o 0 3 = 2) → SetR p e' o' its) ∧ ((o 0 3 ≠ 0 ∧ o 0 3 ≠ 2) → o' = o) ∧ LkF i o e μ o' e' μ' := by
  have hn := hS.1
  have hits := hn.2.1
  obtain ⟨H1, H2, H3, H4, H5⟩ := H
  rcases H5 with ⟨q0, q1, q2, q3, q4, cu, q5, q6⟩ | ⟨q0, q1, q2, q3⟩ | ⟨q0, q1, q2, t, q3, q4⟩
  · have e0 : nd 0 - 1 = 0 := by rw [hn.2.2.1]
    obtain ⟨o1, h1, e1, μ1, r, x1, x2, ⟨x3, x4, x5, x6, x7⟩, x8⟩ := (go_all (B := 2000) (N := N) (D := D) hi hS hN (by omega) (by omega) F).1 0 0 its D D cu o h e μ (hS.ch0 hF) (Nat.le_refl _) (by omega) bst0 (by rw [e0, hn.2.2.1]; exact hS.2.2.2.2.1) H1 q1 (by rw [e0]; exact q2) q5 q6 (by omega) (by omega)
    rw [e0] at x2 x6 x8
    have eG : ∀ w, w < 6 → Gm μ1 i w = Gm μ i w := fun w hw => x4.2.2.2.1 _ (by omega) (by omega)
    obtain ⟨o2, h2, e2, μ2, y1, y2, y3, y4, y5⟩ := tail_sim (N := N) (D := D) hi hS hN x3 (by rw [eG 1 (by omega), H2, x4.1.1 3 (by omega)]) (by rw [eG 4 (by omega), H3, x4.1.1 4 (by omega)]) (by rw [eG 5 (by omega), H4, x4.1.1 5 (by omega)]) (by rw [x4.1.1 3 (by omega)]; exact q0) (by rw [x4.1.1 5 (by omega)]; exact q4) (by rw [x8 7 (by omega) (by omega)]; exact q3) x6 x7
    refine ⟨o2, h2, e2, μ2, ?_, ?_, y3, fun _ => y4, fun z => absurd q0 z.1, x4.lk.trans y5⟩
    · unfold in_look
      rw [if_pos q0, show (0 : Int32) = nI 0 from rfl, x1, Option.bind_some]
      exact y1
    · rw [looksAt_ev hi (H2.trans q0), show (0 : Int32) = nI 0 from rfl, x2, Option.bind_some]
      dsimp only
      rw [x5]
      exact y2
  · obtain ⟨o2, h2, e2, μ2, y1, y2, y3, y4, y5⟩ := rev_sim (D := D) hi hS hN H1 H2 H3 H4 q0 q2 q1 (Or.inr q3)
    refine ⟨o2, h2, e2, μ2, ?_, ?_, y3 F, fun _ => y4, fun z => absurd q0 z.2, y5⟩
    · unfold in_look
      rw [if_neg (by rw [q0]; decide)]
      unfold in_look_13
      rw [if_neg (by rw [q0]; decide)]
      unfold in_look_35
      rw [if_neg (by rw [q0]; decide)]
      exact y1
    · unfold md_looksAt
      rw [of_1, Option.bind_some, rd_nI (by omega) (by decide), Option.bind_some, show μ 5 (21 + 1262 * i + 1) = 2 from H2.trans q0, if_neg (by decide)]
      exact y2
  · have n0 : o 0 3 ≠ 0 := by rcases q0 with z | z | z <;> rw [z] <;> decide
    have n2 : o 0 3 ≠ 2 := by rcases q0 with z | z | z <;> rw [z] <;> decide
    refine ⟨o, h, e, μ, ?_, ?_, ⟨H1, H2, H3, H4, Or.inr (Or.inr ⟨q0, q1, q2, t, q3, q4⟩)⟩, fun z => z.elim (fun w => absurd w n0) (fun w => absurd w n2), fun _ => rfl, LkF.refl⟩
    · unfold in_look
      rw [if_neg n0]
      unfold in_look_13
      rw [if_neg n0]
      unfold in_look_35
      rw [if_neg n0]
      unfold in_look_65
      rw [if_neg n2]
    · unfold md_looksAt
      rw [of_1, Option.bind_some, rd_nI (by omega) (by decide), Option.bind_some, show μ 5 (21 + 1262 * i + 1) = o 0 3 from H2, if_neg n0]
      unfold md_looksAt_58
      rw [of_1, Option.bind_some, rd_nI (by omega) (by decide), Option.bind_some, show μ 5 (21 + 1262 * i + 1) = o 0 3 from H2, if_neg n2]
/-- an instance without a free place, of which nothing runs, is looked at without a change -/
theorem look_free (h : o 0 3 = -1) : in_look N D rl p o h' e = some (o, h', e) := by
  unfold in_look
  rw [if_neg (by rw [h]; decide)]
  unfold in_look_13
  rw [if_neg (by rw [h]; decide)]
  unfold in_look_35
  rw [if_neg (by rw [h]; decide)]
  unfold in_look_65
  rw [if_neg (by rw [h]; decide)]
/-- an instance is given up -/
theorem give_sim {F : Nat} (hi : i < 6) (hS : ST p nd sv its) (hN : 100 ≤ N) (hD : 16 ≤ D) (hF : Ch p nd sv F 0 0 0 its) (H : LkR p nd sv i V its rl F o h e μ) (h0 : o 0 3 = 0) :
    ∃ o' h' e' μ1 μ2 μ', in_giveUp N D rl p o h e = some (o', h', e') ∧ md_cancels N (kn_mcancel N D) (nI i) 0 μ = some μ1 ∧ md_becomes (nI i) 2 μ1 = some μ2 ∧ md_looksAt N D (nI i) μ2 = some μ' ∧ LkR p nd sv i V its rl F o' h' e' μ' ∧ SetR p e' o' its ∧ LkF i o e μ o' e' μ' := by
  have hn := hS.1
  have hits := hn.2.1
  have hp1 := hn.1
  obtain ⟨H1, H2, H3, H4, H5⟩ := H
  rcases H5 with ⟨q0, q1, q2, q3, q4, cu, q5, q6⟩ | ⟨q0, _⟩ | ⟨q0, _⟩
  · have e0 : nd 0 - 1 = 0 := by rw [hn.2.2.1]
    obtain ⟨z1, z2⟩ := H1.bnode (x := 4) hi hn (b := 0) (by omega) bst0
    rw [e0] at z1 z2
    have hag : Ag nd i 0 (0 + 1) its o μ o (up μ 5 (643 + 1262 * i + 10 * 0 + 0) 4) := ⟨fun x _ x2 => ⟨rfl, rfl, rfl, rfl, fun y hy => z2.2.2.1 x (by omega) (by omega) y hy⟩, fun x x1 x2 => ⟨rfl, rfl, fun hs y hy => z2.2.2.2 x (by omega) hs (by omega) y hy⟩⟩
    obtain ⟨o1, μ1, x1, x2, x3, x4⟩ := kc_run (N := N) hi hS (by omega) F 0 0 0 its cu N D o h e _ hF (Nat.le_refl _) (by omega) z1 (q6.ag F _ _ _ _ _ hF hits hag) (by omega) (by omega)
    have e7 : (up μ 5 (643 + 1262 * i + 10 * 0 + 0) 4) 5 (643 + 1262 * i + 10 * 0 + 7) = -1 := by rw [up_in (by omega)]; exact q3
    have hM1 : md_cancels N (kn_mcancel N D) (nI i) 0 μ = some μ1 := by
      rw [show (0 : Int32) = nI 0 from rfl, cancels_ev hi (by omega), up_self e7, z1.1.np5 hi (by omega), Option.bind_some, hS.2.2.2.2.1]
      have : nI (nd 0) = 1 := by rw [hn.2.2.1]; rfl
      rw [this] at x1
      exact x1
    have eG : ∀ w, w < 6 → Gm μ1 i w = Gm μ i w := fun w hw => by
      rw [show Gm μ1 i w = _ from x4.2.1 _ (by omega) (by omega)]; exact z2.2.1 _ (by omega) (by omega)
    have e70 : Fm μ1 i 0 7 = -1 := by
      have := x4.2.2.2 0 (by omega) bst0 (by omega) 7 (by omega)
      rw [e0] at this
      rw [this]; exact e7
    have q00 : o1 0 3 = 0 := by rw [x2.1 0 3 (by omega)]; exact q0
    obtain ⟨o2, h2, μ2, y1, y2, o3, h3, e3, μ3, y3, y4, y5, y6, y7⟩ := fail_sim (D := D) (o := up o1 19 0 5) hi hS hN (x3.c19 (fun c x w1 w2 => up_other (by omega))) (by rw [eG 4 (by omega), H3, up_other (by omega), x2.1 0 4 (by omega)]) (by rw [eG 5 (by omega), H4, up_other (by omega), x2.1 0 5 (by omega)]) (by rw [up_other (by omega)]; exact q00) (by rw [up_other (by omega), x2.1 0 5 (by omega)]; exact q4) (fun k k1 k2 => by rw [up_other (by omega)]; exact x2.qt' k k1 k2)
    have e71 : μ1 5 (643 + 1262 * i + 7) = -1 := e70
    rw [up_self e71] at y2
    obtain ⟨o4, v1, v2⟩ := cancel_ev (N := N) (o := o) (a := 0) (c := 24) (by omega) (Nat.le_refl _) (by omega)
    have ho4 : o4 = o1 := Kx.eq v2 (x2.app (Kx.qt (fun k k1 k2 => by rw [x2.1 18 k (by omega), H1.2.2.2.2.2.2.1 k k1 k2]; exact nGi0)) (by omega) hits)
    subst ho4
    have hbec : ∀ x, in_become rl e 2 (up o4 19 0 5) h = some (o2, h2) → (up o4 19 0 5) 0 3 = 0 := fun _ _ => by rw [up_other (by omega)]; exact q00
    refine ⟨o3, h3, e3, μ1, μ2, μ3, ?_, hM1, y2, ?_, y5 F, y6, ?_⟩
    · unfold in_giveUp
      rw [show (0 : Int32) = nI 0 from rfl, show (24 : Int32) = nI 24 from rfl, v1, Option.bind_some, ck_nI (by omega) (by decide), nI_clamp (by omega)]
      have hl : in_look N D rl p (up o4 19 0 5) h e = some (o3, h3, e3) := by
        unfold in_look
        rw [if_pos (by rw [up_other (by omega)]; exact q00), show (0 : Int32) = nI 0 from rfl, goOn_not (by omega) (by rw [up_at]; decide), Option.bind_some]
        dsimp only
        unfold in_look_13
        rw [if_pos (by rw [up_other (by omega)]; exact q00), show (0 : Int32) = nI 0 from rfl, rd_nI (by omega) (by decide), Option.bind_some, up_at, if_neg (by decide)]
        unfold in_look_35
        rw [if_pos (by rw [up_other (by omega)]; exact q00), show (0 : Int32) = nI 0 from rfl, rd_nI (by omega) (by decide), Option.bind_some, up_at, if_pos rfl, y1, Option.bind_some]
        dsimp only
        rw [show (24 : Int32) = nI 24 from rfl, ck_nI (by omega) (by decide), nI_clamp (by omega)]
        exact y3
      rw [hl]; rfl
    · have g1 : Gm μ2 i 1 = 2 := by
        unfold md_becomes at y2
        rw [of_1, Option.bind_some, ck_nI (by omega) (by decide), nI_clamp (by omega)] at y2
        obtain ⟨t, t1, t2, t3⟩ := x3.t
        obtain ⟨E, E1, E2⟩ := x3.2.2.2.1
        obtain ⟨h9, μ9, n1, n2, n3, n4⟩ := note_sim (kd := 11) (v := 2) (x1 := 11) (x2 := 2) (t := t) (e := e) (μ := up μ1 5 (21 + 1262 * i + 1) 2) hi (by rw [up_in (by omega)]; exact x3.2.1.1) t1 t2 (E1.fr (up_in (by omega)) (fun k _ _ => up_in (by omega))) (by unfold Pot at E2; omega) rfl (by decide) rfl (by omega)
        rw [n2, Option.bind_some, if_pos rfl] at y2
        have := Option.some.inj y2
        subst this
        rw [show Gm μ9 i 1 = _ from n4.2 _ (by omega) (by omega), up_at]
      unfold md_looksAt
      rw [of_1, Option.bind_some, rd_nI (by omega) (by decide), Option.bind_some, show μ2 5 (21 + 1262 * i + 1) = 2 from g1, if_neg (by decide)]
      exact y4
    · refine LkF.trans ⟨⟨?_, Or.inl (by rw [up_other (by omega), x2.1 0 5 (by omega)])⟩, fun _ _ => rfl, fun r hr => ?_, fun k k1 k2 k3 k4 => ?_⟩ y7
      · rw [up_other (by omega), x2.1 0 4 (by omega)]
      · rw [x4.1 r hr, z2.1 r hr]
      · rw [x4.2.1 k k1 k4, z2.2.1 k k1 k4]
  · exact absurd (h0.symm.trans q0) (by decide)
  · rcases q0 with z | z | z <;> exact absurd (h0.symm.trans z) (by decide)
end RK2
