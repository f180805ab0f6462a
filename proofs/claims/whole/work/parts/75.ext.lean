/-! an instance on both sides, when what it doesn't see changes -/
section PD1
variable {p : Mem} {nd : Nat → Nat} {sv : Nat → Nat → Int32} {i V its rl rl' F : Nat} {o h e μ o' h' e' μ' : Mem}
/-- what is kept of an instance -/
def SmO (o o' : Mem) : Prop := (∀ w, 3 ≤ w → w ≤ 8 → o' 0 w = o 0 w) ∧ (∀ v, v < 4 → o' 16 v = o 16 v) ∧ (∀ c, c < 8 → o' 17 c = o 17 c) ∧ (∀ k, k < 24 → o' 18 k = o 18 k ∧ o' 19 k = o 19 k ∧ o' 20 k = o 20 k ∧ o' 21 k = o 21 k) ∧ ∀ k, k < 25 → o' 22 k = o 22 k ∧ o' 23 k = o 23 k ∧ o' 24 k = o 24 k
/-- what is kept of a history -/
def SmH (rl rl' : Nat) (h h' : Mem) : Prop := h' 4 2 = h 4 2 ∧ (rl' = 0 ∨ (rl' = rl ∧ ∀ k, k < 200 → nI k < h 4 2 → h' 5 k = h 5 k))
theorem SmO.refl : SmO o o := ⟨fun _ _ _ => rfl, fun _ _ => rfl, fun _ _ => rfl, fun _ _ => ⟨rfl, rfl, rfl, rfl⟩, fun _ _ => ⟨rfl, rfl, rfl⟩⟩
theorem SmH.refl : SmH rl rl h h := ⟨rfl, Or.inr ⟨rfl, fun _ _ _ => rfl⟩⟩
theorem LkR.ext (H : LkR p nd sv i V its rl F o h e μ) (hi : i < 6) (hn : NdS nd its) (hF : Ch p nd sv F 0 0 0 its) (ho0 : ∀ w, 3 ≤ w → w ≤ 6 → o' 0 w = o 0 w)
    (hor : ∀ k, k < 24 → o' 18 k = o 18 k ∧ o' 19 k = o 19 k ∧ o' 20 k = o 20 k ∧ o' 21 k = o 21 k) (hoq : ∀ k, k < 25 → o' 22 k = o 22 k ∧ o' 23 k = o 23 k ∧ o' 24 k = o 24 k) (hh : SmH rl rl' h h') (hE : EnvR e' μ') (hI : InsR i o' μ')
    (hm : ∀ k, 21 + 1262 * i ≤ k → k < 21 + 1262 * i + 1262 → ¬ (21 + 1262 * i + 10 ≤ k ∧ k < 21 + 1262 * i + 22) → μ' 5 k = μ 5 k) (hv : ∀ x, 576 * V ≤ x → x < 576 * V + 576 → μ' 1 x = μ 1 x) (h3 : μ' 3 (4 * V) = μ 3 (4 * V)) : LkR p nd sv i V its rl' F o' h' e' μ' := by
  have hits := hn.2.1
  obtain ⟨⟨H1, H2, H3, ⟨E, H4, H4b⟩, H5, H6, H7, H8⟩, G1, G2, G3, G4⟩ := H
  have hF' : ∀ n, n < 64 → ∀ w, w < 10 → Fm μ' i n w = Fm μ i n w := fun n hn w hw => hm (643 + 1262 * i + 10 * n + w) (by omega) (by omega) (by omega)
  have hG : ∀ w, w < 10 → Gm μ' i w = Gm μ i w := fun w hw => hm (21 + 1262 * i + w) (by omega) (by omega) (by omega)
  have hE4 : E < 4000 := by unfold Pot at H4b; omega
  refine ⟨⟨?_, hE, hI, ⟨E, ?_, ?_⟩, ?_, fun j hj => ?_, fun j j1 j2 => by rw [(hor j j2).1]; exact H7 j j1 j2, fun b hb hs h0 => ?_⟩, ?_, ?_, ?_, ?_⟩
  · obtain ⟨⟨wf, ve, q1, q2, q3, q4, q5⟩, q6, q7⟩ := H1
    exact ⟨⟨wf, ve, q1, q2, q3, (hG 2 (by omega)).trans q4, (hG 3 (by omega)).trans q5⟩, fun n n1 w w1 => by rw [hv _ (by omega) (by omega)]; exact q6 n n1 w w1, by rw [h3]; exact q7⟩
  · obtain ⟨hh1, hh2⟩ := hh
    rcases hh2 with z | ⟨z, z2⟩
    · subst z
      exact ⟨Or.inl rfl, by rw [hh1]; exact H4.2.1, (hG 9 (by omega)).trans H4.2.2.1, fun q => absurd q (by decide)⟩
    · subst z
      refine ⟨H4.1, by rw [hh1]; exact H4.2.1, (hG 9 (by omega)).trans H4.2.2.1, fun hrl k hk hk2 => ?_⟩
      obtain ⟨t, kd, v, q1, q2, q3, q4, q5, q6, q7⟩ := H4.2.2.2 hrl k hk hk2
      exact ⟨t, kd, v, q1, q2, q3, by rw [z2 k hk2 (by rw [H4.2.1]; exact nI_lt hk (by omega))]; exact q4, by rw [hm _ (by omega) (by omega) (by omega)]; exact q5, by rw [hm _ (by omega) (by omega) (by omega)]; exact q6, by rw [hm _ (by omega) (by omega) (by omega)]; exact q7⟩
  · unfold Pot at H4b ⊢
    rw [sm_same (f := fun j => wt (o 18 j) (o 23 j) (o 24 j)) (fun k hk => by
      show wt (o' 18 k) (o' 23 k) (o' 24 k) = wt (o 18 k) (o 23 k) (o 24 k)
      rw [(hor k hk).1, (hoq k (by omega)).2.1, (hoq k (by omega)).2.2]), ho0 3 (by omega) (by omega), (hoq 24 (by omega)).2.1, (hoq 24 (by omega)).2.2]
    exact H4b
  · exact H5.fr (ho0 6 (by omega) (by omega)) (fun k hk => (hor k hk).2.2.2) (fun j hj _ => by rw [(hor j (by omega)).1]) (fun j hj _ _ => hF' (nd j) (hn.l64 hj) 5 (by omega))
  · exact (H6 j hj).fr (hor j (by omega)).1 (hoq j (by omega)).1 (hoq j (by omega)).2.1 (hoq j (by omega)).2.2 (fun w hw => hF' (nd j) (hn.l64 hj) w hw)
  · have := hn.l64 hb
    exact (hF' (nd b - 1) (by omega) 7 (by omega)).trans (H8 b hb hs h0)
  · exact (hG 1 (by omega)).trans (G1.trans (ho0 3 (by omega) (by omega)).symm)
  · exact (hG 4 (by omega)).trans (G2.trans (ho0 4 (by omega) (by omega)).symm)
  · exact (hG 5 (by omega)).trans (G3.trans (ho0 5 (by omega) (by omega)).symm)
  · have hq : Qt o 0 its → Qt o' 0 its := fun z k k1 k2 => by rw [(hor k (by omega)).1]; exact z k k1 k2
    rcases G4 with ⟨z0, z1, z2, z3, z4, cu, z5, z6⟩ | ⟨z0, z1, z2, z3⟩ | ⟨z0, z1, z2, t, z3, z4⟩
    · have hag : Ag nd i 0 (0 + 1) its o μ o' μ' := ⟨fun x _ x2 => ⟨(hor x (by omega)).1, (hoq x (by omega)).1, (hoq x (by omega)).2.1, (hoq x (by omega)).2.2, fun y hy => hF' (nd x) (hn.l64 x2) y hy⟩, fun x x1 x2 => ⟨(hor x (by omega)).2.1, (hor x (by omega)).2.2.1, fun _ y hy => hF' (nd x - 1) (by have := hn.l64 x2; omega) y hy⟩⟩
      exact Or.inl ⟨by rw [ho0 3 (by omega) (by omega)]; exact z0, by rw [(hor 0 (by omega)).2.1]; exact z1, (hF' 0 (by omega) 0 (by omega)).trans z2, (hF' 0 (by omega) 7 (by omega)).trans z3, by rw [ho0 5 (by omega) (by omega)]; exact z4, cu, by rw [(hor 0 (by omega)).2.2.1]; exact z5, z6.ag F _ _ _ _ _ hF hits hag⟩
    · obtain ⟨t, f, u, cd, q1, q2, q3, q4, q5, q6, q7, q8, q9, q10, q11, q12, q13, q14⟩ := z3
      exact Or.inr (Or.inl ⟨by rw [ho0 3 (by omega) (by omega)]; exact z0, hq z1, by rw [ho0 5 (by omega) (by omega)]; exact z2, t, f, u, cd, q1, q2, by rw [(hoq 24 (by omega)).2.2]; exact q3, by rw [(hor t (by omega)).1]; exact q4, q5, q6, q7, (hF' 0 (by omega) 7 (by omega)).trans q8, q9, by rw [(hoq 24 (by omega)).2.1]; exact q10, (hF' 0 (by omega) 8 (by omega)).trans q11, q12, by rw [(hoq 24 (by omega)).1]; exact q13, (hF' 0 (by omega) 9 (by omega)).trans q14⟩)
    · exact Or.inr (Or.inr ⟨by rw [ho0 3 (by omega) (by omega)]; exact z0, hq z1, (hF' 0 (by omega) 7 (by omega)).trans z2, t, by rw [ho0 5 (by omega) (by omega)]; exact z3, z4⟩)
theorem SetR.ext (H : SetR p e o its) (hits : its ≤ 24) (he : e' 1 2 = e 1 2) (ho3 : o' 0 3 = o 0 3) (hor : ∀ k, k < 24 → o' 18 k = o 18 k) (hoq : ∀ k, k < 25 → o' 22 k = o 22 k ∧ o' 23 k = o 23 k ∧ o' 24 k = o 24 k) : SetR p e' o' its := by
  refine ⟨fun j hj hg => ?_, fun q => ?_⟩
  · rw [hor j (by omega)] at hg
    rw [he, hor j (by omega), (hoq j (by omega)).1, (hoq j (by omega)).2.2]
    exact H.1 j hj hg
  · rw [he, (hoq 24 (by omega)).1]
    rw [ho3] at q
    exact H.2 q
theorem VerR.ext (H : VerR p μ V nd sv its) (hv : ∀ x, 576 * V ≤ x → x < 576 * V + 576 → μ' 1 x = μ 1 x) (h3 : ∀ x, 4 * V ≤ x → x < 4 * V + 4 → μ' 3 x = μ 3 x) : VerR p μ' V nd sv its := by
  obtain ⟨a1, a2, a3, a4, a5, a6, a7, a8, a9, a10⟩ := H
  exact ⟨a1, a2, fun n hn w hw => by rw [hv _ (by omega) (by omega)]; exact a3 n hn w hw, by rw [h3 _ (by omega) (by omega)]; exact a4, a5, by rw [h3 _ (by omega) (by omega)]; exact a6, by rw [h3 _ (by omega) (by omega)]; exact a7, by rw [h3 _ (by omega) (by omega)]; exact a8, a9, a10⟩
theorem LkR.st (H : LkR p nd sv i V its rl F o h e μ) : o 0 3 = 0 ∨ o 0 3 = 2 ∨ o 0 3 = 1 ∨ o 0 3 = 3 ∨ o 0 3 = 4 := by
  obtain ⟨_, _, _, _, G⟩ := H
  rcases G with ⟨z, _⟩ | ⟨z, _⟩ | ⟨z, _⟩
  · exact Or.inl z
  · exact Or.inr (Or.inl z)
  · exact Or.inr (Or.inr z)
/-- when it began and when it ended -/
def Tm (e o : Mem) : Prop := ∃ t s : Nat, e 1 2 = nI t ∧ t < 131072 ∧ o 0 4 = nI s ∧ s ≤ t ∧ (o 0 5 = -5 ∨ ∃ q : Nat, o 0 5 = nI q ∧ s ≤ q ∧ q ≤ t)
/-- an instance in a world -/
def IW (st : Prop) (rl j pv : Nat) (vs : Fam) (o h e μ w : Mem) : Prop :=
  pv < 17 ∧ ((o 0 3 = -1 ∧ Gm μ j 0 = 0 ∧ ∃ E : Nat, E < 4000 ∧ h 4 2 = nI E) ∨ (Gm μ j 0 = 1 ∧ Tm e o ∧ (∃ wf ve v : Nat, pv = 4 * wf + ve ∧ wf < 4 ∧ ve < v ∧ v ≤ 4 ∧ w 5 wf = nI v) ∧ ∃ (nd : Nat → Nat) (sv : Nat → Nat → Int32) (its : Nat), VerR (vs pv) μ pv nd sv its ∧ LkR (vs pv) nd sv j pv its rl its o h e μ ∧ (st → SetR (vs pv) e o its)))
theorem IW.ext {st st' : Prop} {j pv : Nat} {vs vs' : Fam} {w w' : Mem} (H : IW st rl j pv vs o h e μ w) (hj : j < 6) (hst : st' → st) (ho : SmO o o') (hh : SmH rl rl' h h') (hE : EnvR e' μ') (he : st' → e' 1 2 = e 1 2) (hT : ∀ t : Nat, t < 131072 → e 1 2 = nI t → ∃ t' : Nat, t ≤ t' ∧ t' < 131072 ∧ e' 1 2 = nI t') (hm : ∀ k, 21 + 1262 * j ≤ k → k < 21 + 1262 * j + 1262 → μ' 5 k = μ 5 k)
    (hV : ∀ wf ve v : Nat, pv = 4 * wf + ve → wf < 4 → ve < v → v ≤ 4 → w 5 wf = nI v → vs' pv = vs pv ∧ (∃ v' : Nat, v' ≤ 4 ∧ ve < v' ∧ w' 5 wf = nI v') ∧ (∀ x, 576 * pv ≤ x → x < 576 * pv + 576 → μ' 1 x = μ 1 x) ∧ (∀ x, 4 * pv ≤ x → x < 4 * pv + 4 → μ' 3 x = μ 3 x)) : IW st' rl' j pv vs' o' h' e' μ' w' := by
  obtain ⟨H1, H2⟩ := H
  obtain ⟨s1, s2, s3, s4, s5⟩ := ho
  refine ⟨H1, ?_⟩
  rcases H2 with ⟨a1, a2, E, a3, a4⟩ | ⟨a1, a2, ⟨wf, ve, v, b1, b2, b3, b4, b5⟩, nd, sv, its, c1, c2, c3⟩
  · exact Or.inl ⟨by rw [s1 3 (by omega) (by omega)]; exact a1, (hm (21 + 1262 * j + 0) (by omega) (by omega)).trans a2, E, a3, by rw [hh.1]; exact a4⟩
  · obtain ⟨d1, ⟨v', d2, d3, d4⟩, d5, d6⟩ := hV wf ve v b1 b2 b3 b4 b5
    have hn := c1.1.1
    obtain ⟨t, s, t1, t2, t3, t4, t5⟩ := a2
    obtain ⟨t', u1, u2, u3⟩ := hT t t2 t1
    refine Or.inr ⟨(hm (21 + 1262 * j + 0) (by omega) (by omega)).trans a1, ⟨t', s, u3, u2, by rw [s1 4 (by omega) (by omega)]; exact t3, by omega, ?_⟩, ⟨wf, ve, v', b1, b2, d3, d2, d4⟩, nd, sv, its, ?_, ?_, ?_⟩
    · rw [s1 5 (by omega) (by omega)]
      rcases t5 with z | ⟨q, z1, z2, z3⟩
      · exact Or.inl z
      · exact Or.inr ⟨q, z1, z2, by omega⟩
    · rw [d1]; exact c1.ext d5 d6
    · rw [d1]
      have hI := c2.1.2.2.1
      refine c2.ext hj hn (c1.2.1 its (Nat.le_refl _)) (fun x x1 x2 => s1 x x1 (by omega)) s4 s5 hh hE ⟨?_, ?_, ?_, fun x hx => ?_, fun x hx => ?_⟩ (fun k k1 k2 _ => hm k k1 k2) d5 (d6 _ (by omega) (by omega))
      · rw [hm _ (by omega) (by omega), s1 6 (by omega) (by omega)]; exact hI.1
      · rw [hm _ (by omega) (by omega), s1 7 (by omega) (by omega)]; exact hI.2.1
      · rw [hm _ (by omega) (by omega), s1 8 (by omega) (by omega)]; exact hI.2.2.1
      · rw [hm _ (by omega) (by omega), s2 x hx]; exact hI.2.2.2.1 x hx
      · rw [hm _ (by omega) (by omega), s3 x hx]; exact hI.2.2.2.2 x hx
    · rw [d1]
      exact fun z => (c3 (hst z)).ext hn.2.1 (he z) (s1 3 (by omega) (by omega)) (fun k hk => (s4 k hk).1) s5
end PD1
