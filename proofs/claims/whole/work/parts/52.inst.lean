/-! an instance as a whole: looked at, given up -/
section RK
variable {p : Mem} {nd : Nat → Nat} {sv : Nat → Nat → Int32} {i V its rl B B' N D : Nat} {o h e μ o' h' e' μ' : Mem}
/-- an instance changes its status -/
theorem R.become {s s' E : Nat} {a' r' : Int32} (H : R p nd sv i V its rl B o h e μ) (ho : ∀ c x, ¬ (c = 0 ∧ (x = 3 ∨ x = 5)) → ¬ (c = 24 ∧ x = 24) → o' c x = o c x) (hr : ∀ c, c ≠ 5 → μ' c = μ c)
    (hm : ∀ k, k ≠ 21 + 1262 * i + 1 → k ≠ 21 + 1262 * i + 5 → k ≠ 643 + 1262 * i + 7 → k ≠ 30 + 1262 * i → ¬ (43 + 1262 * i ≤ k ∧ k < 643 + 1262 * i) → μ' 5 k = μ 5 k) (hn : NdS nd its) (hE : HisR rl i E h' μ') (hP : Pot E o' ≤ B') : R p nd sv i V its rl B' o' h' e μ' := by
  have hits := hn.2.1
  obtain ⟨H1, H2, H3, _, H6, H7, H8, H9⟩ := H
  have hF : ∀ j, j < its → ∀ w, w < 10 → Fm μ' i (nd j) w = Fm μ i (nd j) w := fun j hj w hw => by
    have := hn.pos hj
    exact hm _ (by omega) (by omega) (by omega) (by omega) (by omega)
  refine ⟨H1.fr (hr 1 (by decide)) (hr 3 (by decide)) (hm _ (by omega) (by omega) (by omega) (by omega) (by omega)) (hm _ (by omega) (by omega) (by omega) (by omega) (by omega)), H2.fr (fun k hk => hm k (by omega) (by omega) (by omega) (by omega) (by omega)), H3.fr (fun w w1 w2 => ho 0 w (by omega) (by omega)) (funext fun x => ho 16 x (by omega) (by omega)) (funext fun x => ho 17 x (by omega) (by omega)) (fun k k1 k2 k3 => hm k (by omega) (by omega) (by omega) k3 (by omega)), ⟨E, hE, hP⟩, H6.fr (ho 0 6 (by omega) (by omega)) (fun k _ => ho 21 k (by omega) (by omega)) (fun j _ _ => by rw [ho 18 j (by omega) (by omega)]) (fun j hj _ _ => hF j hj 5 (by omega)), fun j hj => (H7 j hj).fr (ho 18 j (by omega) (by omega)) (ho 22 j (by omega) (by omega)) (ho 23 j (by omega) (by omega)) (ho 24 j (by omega) (by omega)) (fun w hw => hF j hj w hw), fun j j1 j2 => by rw [ho 18 j (by omega) (by omega)]; exact H8 j j1 j2, fun b hb hs h0 => ?_⟩
  have h1 := hn.lt hb (show 0 < b by omega)
  have h2 := hn.2.2.1
  exact (hm (643 + 1262 * i + 10 * (nd b - 1) + 7) (by omega) (by omega) (by omega) (by omega) (by omega)).trans (H9 b hb hs h0)
/-- what stands of an instance between calls, but for the minute -/
def LkR (p : Mem) (nd : Nat → Nat) (sv : Nat → Nat → Int32) (i V its rl F : Nat) (o h e μ : Mem) : Prop :=
  R p nd sv i V its rl 2000 o h e μ ∧ Gm μ i 1 = o 0 3 ∧ Gm μ i 4 = o 0 4 ∧ Gm μ i 5 = o 0 5 ∧
  ((o 0 3 = 0 ∧ o 19 0 = 1 ∧ Fm μ i 0 0 = 1 ∧ Fm μ i 0 7 = -1 ∧ o 0 5 = -5 ∧ ∃ cu : Nat, o 20 0 = nI cu ∧ RunC p nd i o μ F 0 its cu) ∨
   (o 0 3 = 2 ∧ Qt o 0 its ∧ o 0 5 = -5 ∧ RevX p nd i 24 0 o μ 0 its) ∨
   ((o 0 3 = 1 ∨ o 0 3 = 3 ∨ o 0 3 = 4) ∧ Qt o 0 its ∧ Fm μ i 0 7 = -1 ∧ ∃ t : Nat, o 0 5 = nI t ∧ t < 131072))
/-- nothing more is to be done at this minute -/
def SetR (p e o : Mem) (its : Nat) : Prop := (∀ j, j < its → Gi (o 18 j) → e 1 2 < o 22 j ∧ p 7 j ≠ 3 ∧ (o 18 j = 3 → o 24 j ≠ -1)) ∧ (o 0 3 = 2 → e 1 2 < o 22 24)
/-- what keeps when an instance is looked at -/
def LkF (i : Nat) (o e μ o' e' μ' : Mem) : Prop := (o' 0 4 = o 0 4 ∧ (o' 0 5 = o 0 5 ∨ o' 0 5 = e 1 2)) ∧ (∀ r, r ≠ 3 → e' r = e r) ∧ (∀ r, r ≠ 5 → μ' r = μ r) ∧ (∀ k, (k < 9 ∨ 17 ≤ k) → k ≠ 21 + 1262 * i + 1 → k ≠ 21 + 1262 * i + 5 → ¬ (21 + 1262 * i + 6 ≤ k ∧ k < 21 + 1262 * i + 1262) → μ' 5 k = μ 5 k)
theorem LkF.refl : LkF i o e μ o e μ := ⟨⟨rfl, Or.inl rfl⟩, fun _ _ => rfl, fun _ _ => rfl, fun _ _ _ _ _ => rfl⟩
theorem LkF.trans {o1 e1 μ1 o2 e2 μ2 : Mem} (h1 : LkF i o e μ o1 e1 μ1) (h2 : LkF i o1 e1 μ1 o2 e2 μ2) : LkF i o e μ o2 e2 μ2 :=
  ⟨⟨h2.1.1.trans h1.1.1, h2.1.2.elim (fun z => h1.1.2.elim (fun y => Or.inl (z.trans y)) (fun y => Or.inr (z.trans y))) (fun z => Or.inr (by rw [z, h1.2.1 1 (by decide)]))⟩, fun r hr => (h2.2.1 r hr).trans (h1.2.1 r hr), fun r hr => (h2.2.2.1 r hr).trans (h1.2.2.1 r hr), fun k a b c d => (h2.2.2.2 k a b c d).trans (h1.2.2.2 k a b c d)⟩
theorem Fr.lk {a a' c : Nat} (h : Fr nd its i a a' c o e μ o' e' μ') : LkF i o e μ o' e' μ' := ⟨⟨h.1.1 4 (by omega), Or.inl (h.1.1 5 (by omega))⟩, h.2.1, h.2.2.1, fun k q1 _ _ q2 => h.2.2.2.1 k q1 q2⟩
theorem NF.lk (h : NF i μ μ') : LkF i o e μ o e μ' := ⟨⟨rfl, Or.inl rfl⟩, fun _ _ => rfl, h.1, fun k q1 q2 q3 q4 => h.2 k (by omega) (by omega)⟩
/-- the status becomes completed, compensated or broken -/
theorem end_sim {x : Int32} {s : Nat} (hi : i < 6) (hS : ST p nd sv its) (H : R p nd sv i V its rl 2000 o h e μ) (hx : x = nI s) (hs : s = 1 ∨ s = 3 ∨ s = 4) (h4 : Gm μ i 4 = o 0 4) (hst : o 0 3 = 0 ∨ (o 0 3 = 2 ∧ o 24 24 = -1)) (hq : Qt o 0 its) (h7 : Fm μ i 0 7 = -1) :
    ∃ o' h' μ', in_become rl e x o h = some (o', h') ∧ md_becomes (nI i) x μ = some μ' ∧ LkR p nd sv i V its rl 0 o' h' e μ' ∧ (∀ F, LkR p nd sv i V its rl F o' h' e μ') ∧ SetR p e o' its ∧ LkF i o e μ o' e μ' ∧ o' 0 3 = x := by
  have hn := hS.1
  have hits := hn.2.1
  obtain ⟨t, t1, t2, t3⟩ := H.t
  obtain ⟨E, E1, E2⟩ := H.2.2.2.1
  have hE4 : E < 4000 := by unfold Pot at E2; omega
  obtain ⟨h', μ1, n1, n2, n3, n4⟩ := note_sim (kd := 11) (v := s) (x1 := 11) (x2 := x) (t := t) (e := e) (μ := up μ 5 (21 + 1262 * i + 1) x) hi (by rw [up_in (by omega)]; exact H.2.1.1) t1 t2 (E1.fr (up_in (by omega)) (fun k _ _ => up_in (by omega))) hE4 rfl (by decide) hx (by omega)
  have hx2 : x ≠ 2 := by rcases hs with z | z | z <;> rw [hx, z] <;> decide
  have hend : in_hasEnded (up o 0 3 x) = some true := by
    unfold in_hasEnded
    rw [up_at]
    rcases hs with z | z | z <;> rw [hx, z] <;> rfl
  have hR : R p nd sv i V its rl 2000 (up (up o 0 3 x) 0 5 (e 1 2)) h' e (up μ1 5 (21 + 1262 * i + 5) (nI t)) := by
    refine H.become (s := 0) (s' := 0) (a' := 0) (r' := 0) (E := E + 1) (fun c k q1 q2 => by rw [up_other (by omega), up_other (by omega)]) (fun c hc => by rw [up_row hc, n4.1 c hc, up_row hc]) (fun k k1 k2 k3 k4 k5 => by rw [up_in (by omega), n4.2 k (by omega) (by omega), up_in (by omega)]) hn (n3.fr (up_in (by omega)) (fun k _ _ => up_in (by omega))) ?_
    unfold Pot at E2 ⊢
    rw [sm_same (f := fun j => wt (o 18 j) (o 23 j) (o 24 j)) (fun k hk => by
      show wt ((up (up o 0 3 x) 0 5 (e 1 2)) 18 k) ((up (up o 0 3 x) 0 5 (e 1 2)) 23 k) ((up (up o 0 3 x) 0 5 (e 1 2)) 24 k) = _
      rw [up_other (by omega), up_other (by omega), up_other (c' := 23) (by omega), up_other (c' := 23) (by omega), up_other (c' := 24) (by omega), up_other (c' := 24) (by omega)])]
    have w0 : wW ((up (up o 0 3 x) 0 5 (e 1 2)) 0 3) ((up (up o 0 3 x) 0 5 (e 1 2)) 23 24) ((up (up o 0 3 x) 0 5 (e 1 2)) 24 24) = 0 := by
      rw [up_other (c' := 0) (i' := 3) (by omega), up_at]
      unfold wW
      rw [if_neg (by rcases hs with z | z | z <;> rw [hx, z] <;> decide), if_neg hx2]
    have w1 : 1 ≤ wW (o 0 3) (o 23 24) (o 24 24) := by
      rcases hst with z | ⟨z1, z2⟩
      · rw [z]; unfold wW; rw [if_pos rfl]; decide
      · rw [z1, z2]; unfold wW; rw [if_neg (by decide), if_pos rfl, if_pos (by decide)]; decide
    rw [w0]; omega
  have hl : ∀ F, LkR p nd sv i V its rl F (up (up o 0 3 x) 0 5 (e 1 2)) h' e (up μ1 5 (21 + 1262 * i + 5) (nI t)) := fun F => by
    refine ⟨hR, ?_, ?_, ?_, Or.inr (Or.inr ⟨?_, fun k k1 k2 => by rw [up_other (by omega), up_other (by omega)]; exact hq k k1 k2, ?_, t, by rw [up_at]; exact t1, t2⟩)⟩
    · show up _ _ _ _ _ _ = _
      rw [up_in (by omega), n4.2 _ (by omega) (by omega), up_at, up_other (by omega), up_at]
    · show up _ _ _ _ _ _ = _
      rw [up_in (by omega), n4.2 _ (by omega) (by omega), up_in (by omega), up_other (by omega), up_other (by omega)]; exact h4
    · show up _ _ _ _ _ _ = _
      rw [up_at, up_at, t1]
    · rw [up_other (by omega), up_at, hx]
      rcases hs with z | z | z <;> rw [z]
      · exact Or.inl rfl
      · exact Or.inr (Or.inl rfl)
      · exact Or.inr (Or.inr rfl)
    · show up _ _ _ _ _ _ = _
      rw [up_in (by omega), n4.2 _ (by omega) (by omega), up_in (by omega)]; exact h7
  refine ⟨_, h', _, ?_, ?_, hl 0, hl, ⟨fun j hj hg => ?_, fun q => ?_⟩, ⟨⟨?_, Or.inr up_at⟩, fun _ _ => rfl, fun r hr => ?_, fun k k1 k2 k3 k4 => ?_⟩, by rw [up_other (by omega), up_at]⟩
  · unfold in_become
    rw [hend, Option.bind_some, if_pos rfl]
    unfold in_become_23
    rw [n1, Option.bind_some]
  · unfold md_becomes
    rw [of_1, Option.bind_some, ck_nI (by omega) (by decide), nI_clamp (by omega), n2, Option.bind_some, if_neg hx2, of_5, Option.bind_some, rd70, Option.bind_some, ck_nI (by omega) (by decide), nI_clamp (by omega), n4.2 0 (by omega) (by omega), up_in (by omega), t3]
  · rw [up_other (by omega), up_other (by omega)] at hg
    exact absurd hg (hq j (by omega) hj)
  · rw [up_other (by omega), up_at] at q; exact absurd q hx2
  · rw [up_other (by omega), up_other (by omega)]
  · rw [up_row hr, n4.1 r hr, up_row hr]
  · rw [up_in (by omega), n4.2 k (by omega) (by omega), up_in (by omega)]
/-- the compensation of an instance goes on -/
theorem rev_sim (hi : i < 6) (hS : ST p nd sv its) (hN : 100 ≤ N) (H : R p nd sv i V its rl 2000 o h e μ) (h1 : Gm μ i 1 = o 0 3) (h4 : Gm μ i 4 = o 0 4) (h5 : Gm μ i 5 = o 0 5) (h2 : o 0 3 = 2) (h55 : o 0 5 = -5) (hq : Qt o 0 its) (hst : (o 24 24 = -1 ∧ Fm μ i 0 7 = -1) ∨ RevX p nd i 24 0 o μ 0 its) :
    ∃ o' h' e' μ', in_look_65 N D rl p o h e = some (o', h', e') ∧ md_looksAt_58 N D (nI i) μ = some μ' ∧ (∀ F, LkR p nd sv i V its rl F o' h' e' μ') ∧ SetR p e' o' its ∧ LkF i o e μ o' e' μ' := by
  have hn := hS.1
  have hits := hn.2.1
  obtain ⟨b, o1, h1', e1, μ1, x1, x2, x3, x4, x5⟩ := comp_whole hN (by omega) hi hS h2 H hst
  have hlf : LkF i o e μ o1 e1 μ1 := ⟨⟨x4.1 0 4 (by omega), Or.inl (x4.1 0 5 (by omega))⟩, x4.2.2.1, x4.2.2.2.1, fun k k1 _ _ k2 => x4.2.2.2.2.1 k k1 k2⟩
  have e03 : o1 0 3 = 2 := by rw [x4.1 0 3 (by omega)]; exact h2
  have eG : ∀ w, w < 6 → Gm μ1 i w = Gm μ i w := fun w hw => x4.2.2.2.2.1 _ (by omega) (by omega)
  have hq1 : Qt o1 0 its := fun k k1 k2 => by
    rcases x4.2.1 k with z | ⟨_, z⟩
    · rw [z]; exact hq k k1 k2
    · rcases z with z | z <;> rw [z]
      · exact nGi7
      · exact nGi8
  have g8 : μ1 5 (21 + 1262 * i + 8) = o1 0 8 := x3.2.2.1.2.2.1
  have hX0 : in_look_65 N D rl p o h e = if b = true then (if 0 < o1 0 8 then (in_become rl e1 4 o1 h1').bind fun (o95, h95) => some (o95, h95, e1) else (in_become rl e1 3 o1 h1').bind fun (o95, h95) => some (o95, h95, e1)) else some (o1, h1', e1) := by
    unfold in_look_65
    rw [if_pos h2, x1, Option.bind_some]
  have hM0 : md_looksAt_58 N D (nI i) μ = if b = true then (if 0 < o1 0 8 then md_becomes (nI i) 4 μ1 else md_becomes (nI i) 3 μ1) else some μ1 := by
    unfold md_looksAt_58
    rw [of_1, Option.bind_some, rd_nI (by omega) (by decide), Option.bind_some, show μ 5 (21 + 1262 * i + 1) = 2 from h1.trans h2, if_pos rfl, x2, Option.bind_some]
    dsimp only
    by_cases q : b = true
    · rw [if_pos q, if_pos q, of_8, Option.bind_some, rd_nI (by omega) (by decide), Option.bind_some, g8]
      by_cases q2 : 0 < o1 0 8
      · rw [if_pos q2, if_pos q2]; cases md_becomes (nI i) 4 μ1 <;> rfl
      · rw [if_neg q2, if_neg q2]; cases md_becomes (nI i) 3 μ1 <;> rfl
    · rw [if_neg q, if_neg q]
  rcases x5 with ⟨q1, q2, q3⟩ | ⟨q1, q2, q3⟩
  · subst q1
    rw [if_pos rfl] at hX0 hM0
    by_cases q4 : 0 < o1 0 8
    · obtain ⟨o2, h2', μ2, y1, y2, _, y3, y4, y5, _⟩ := end_sim (x := 4) (s := 4) hi hS x3 rfl (by omega) ((eG 4 (by omega)).trans (h4.trans (x4.1 0 4 (by omega)).symm)) (Or.inr ⟨e03, q2⟩) hq1 q3
      refine ⟨o2, h2', e1, μ2, ?_, ?_, y3, y4, hlf.trans y5⟩
      · rw [hX0, if_pos q4, y1]; rfl
      · rw [hM0, if_pos q4, y2]
    · obtain ⟨o2, h2', μ2, y1, y2, _, y3, y4, y5, _⟩ := end_sim (x := 3) (s := 3) hi hS x3 rfl (by omega) ((eG 4 (by omega)).trans (h4.trans (x4.1 0 4 (by omega)).symm)) (Or.inr ⟨e03, q2⟩) hq1 q3
      refine ⟨o2, h2', e1, μ2, ?_, ?_, y3, y4, hlf.trans y5⟩
      · rw [hX0, if_neg q4, y1]; rfl
      · rw [hM0, if_neg q4, y2]
  · subst q1
    refine ⟨o1, h1', e1, μ1, by rw [hX0, if_neg (by decide)], by rw [hM0, if_neg (by decide)], fun F => ⟨x3, ?_, ?_, ?_, Or.inr (Or.inl ⟨e03, hq1, by rw [x4.1 0 5 (by omega)]; exact h55, q2⟩)⟩, ⟨fun j hj hg => absurd hg (hq1 j (by omega) hj), fun _ => q3⟩, hlf⟩
    · rw [eG 1 (by omega), h1, x4.1 0 3 (by omega)]
    · rw [eG 4 (by omega), h4, x4.1 0 4 (by omega)]
    · rw [eG 5 (by omega), h5, x4.1 0 5 (by omega)]
/-- an instance begins to compensate -/
theorem fail_sim (hi : i < 6) (hS : ST p nd sv its) (hN : 100 ≤ N) (H : R p nd sv i V its rl 2000 o h e μ) (h4 : Gm μ i 4 = o 0 4) (h5 : Gm μ i 5 = o 0 5) (h0 : o 0 3 = 0) (h55 : o 0 5 = -5) (hq : Qt o 0 its) :
    ∃ o1 h1 μ1, in_become rl e 2 o h = some (o1, h1) ∧ md_becomes (nI i) 2 (up μ 5 (643 + 1262 * i + 7) (-1)) = some μ1 ∧
    ∃ o' h' e' μ', in_look_65 N D rl p (up o1 24 24 (-1)) h1 e = some (o', h', e') ∧ md_looksAt_58 N D (nI i) μ1 = some μ' ∧ (∀ F, LkR p nd sv i V its rl F o' h' e' μ') ∧ SetR p e' o' its ∧ LkF i o e μ o' e' μ' := by
  have hn := hS.1
  have hits := hn.2.1
  obtain ⟨t, t1, t2, t3⟩ := H.t
  obtain ⟨E, E1, E2⟩ := H.2.2.2.1
  have hE4 : E < 4000 := by unfold Pot at E2; omega
  obtain ⟨h', μ1, n1, n2, n3, n4⟩ := note_sim (kd := 11) (v := 2) (x1 := 11) (x2 := 2) (t := t) (e := e) (μ := up (up μ 5 (643 + 1262 * i + 7) (-1)) 5 (21 + 1262 * i + 1) 2) hi (by rw [up_in (by omega), up_in (by omega)]; exact H.2.1.1) t1 t2 (E1.fr (by rw [up_in (by omega), up_in (by omega)]) (fun k _ _ => by rw [up_in (by omega), up_in (by omega)])) hE4 rfl (by decide) rfl (by omega)
  have hend : in_hasEnded (up o 0 3 2) = some false := by unfold in_hasEnded; rw [up_at]; rfl
  have hR : R p nd sv i V its rl 2000 (up (up o 0 3 2) 24 24 (-1)) h' e μ1 := by
    refine H.become (s := 0) (s' := 0) (a' := 0) (r' := 0) (E := E + 1) (fun c k q1 q2 => by rw [up_other (by omega), up_other (by omega)]) (fun c hc => by rw [n4.1 c hc, up_row hc, up_row hc]) (fun k k1 k2 k3 k4 k5 => by rw [n4.2 k (by omega) (by omega), up_in (by omega), up_in (by omega)]) hn n3 ?_
    unfold Pot at E2 ⊢
    rw [sm_same (f := fun j => wt (o 18 j) (o 23 j) (o 24 j)) (fun k hk => by
      show wt ((up (up o 0 3 2) 24 24 (-1)) 18 k) ((up (up o 0 3 2) 24 24 (-1)) 23 k) ((up (up o 0 3 2) 24 24 (-1)) 24 k) = _
      rw [up_other (by omega), up_other (by omega), up_other (c' := 23) (by omega), up_other (c' := 23) (by omega), up_other (c' := 24) (by omega), up_other (c' := 24) (by omega)])]
    have w0 : wW ((up (up o 0 3 2) 24 24 (-1)) 0 3) ((up (up o 0 3 2) 24 24 (-1)) 23 24) ((up (up o 0 3 2) 24 24 (-1)) 24 24) = 5 := by
      rw [up_other (c' := 0) (i' := 3) (by omega), up_at, up_at]
      unfold wW
      rw [if_neg (by decide), if_pos rfl, if_pos (by decide)]
    have w1 : wW (o 0 3) (o 23 24) (o 24 24) = 10 := by rw [h0]; unfold wW; rw [if_pos rfl]
    rw [w0]; rw [w1] at E2; omega
  have g7 : Fm μ1 i 0 7 = -1 := by
    rw [show Fm μ1 i 0 7 = _ from n4.2 _ (by omega) (by omega), up_in (by omega), up_at]
  obtain ⟨o', h2, e', μ', x1, x2, x3, x4, x5⟩ := rev_sim (D := D) hi hS hN hR (by rw [show Gm μ1 i 1 = _ from n4.2 _ (by omega) (by omega), up_at, up_other (by omega), up_at]) (by rw [show Gm μ1 i 4 = _ from n4.2 _ (by omega) (by omega), up_in (by omega), up_in (by omega), up_other (by omega), up_other (by omega)]; exact h4) (by rw [show Gm μ1 i 5 = _ from n4.2 _ (by omega) (by omega), up_in (by omega), up_in (by omega), up_other (by omega), up_other (by omega)]; exact h5) (by rw [up_other (by omega), up_at]) (by rw [up_other (by omega), up_other (by omega)]; exact h55) (fun k k1 k2 => by rw [up_other (by omega), up_other (by omega)]; exact hq k k1 k2) (Or.inl ⟨up_at, g7⟩)
  refine ⟨_, h', μ1, ?_, ?_, o', h2, e', μ', x1, x2, x3, x4, LkF.trans ⟨⟨by rw [up_other (by omega), up_other (by omega)], Or.inl (by rw [up_other (by omega), up_other (by omega)])⟩, fun _ _ => rfl, fun r hr => by rw [n4.1 r hr, up_row hr, up_row hr], fun k k1 k2 k3 k4 => by rw [n4.2 k (by omega) (by omega), up_in (by omega), up_in (by omega)]⟩ x5⟩
  · unfold in_become
    rw [hend, Option.bind_some, if_neg (by decide)]
    unfold in_become_23
    rw [n1, Option.bind_some]
  · unfold md_becomes
    rw [of_1, Option.bind_some, ck_nI (by omega) (by decide), nI_clamp (by omega), n2, Option.bind_some, if_pos rfl]
end RK
