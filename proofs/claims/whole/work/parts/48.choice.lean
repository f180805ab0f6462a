/-! items with bodies, looked at and begun: what the bodies do is given -/
def BodyS (p : Mem) (nd : Nat → Nat) (i f : Nat) (o e μ : Mem) (b be : Nat) : Prop := (o 19 b = 1 ∧ ∃ cu : Nat, o 20 b = nI cu ∧ RunC p nd i o μ f b be cu ∧ StR p e o b be) ∨ ((o 19 b = 4 ∨ o 19 b = 5) ∧ Qt o b be)
def BPost (p : Mem) (nd : Nat → Nat) (sv : Nat → Nat → Int32) (i V its rl B f : Nat) (o e μ : Mem) (b be : Nat) (o' h' e' μ' : Mem) (r : Int32) : Prop :=
  R p nd sv i V its rl B o' h' e' μ' ∧ Fr nd its i b b be o e μ o' e' μ' ∧ r = mS (o' 19 b) ∧ Fm μ' i (nd b - 1) 0 = mS (o' 19 b) ∧ BodyS p nd i f o' e' μ' b be
def IPost (p : Mem) (nd : Nat → Nat) (sv : Nat → Nat → Int32) (i V its rl B f : Nat) (o e μ : Mem) (j : Nat) (o' h' e' μ' : Mem) (r : Int32) : Prop :=
  R p nd sv i V its rl B o' h' e' μ' ∧ Fr nd its i j (j + 1) (En p j) o e μ o' e' μ' ∧ r = mS (o' 18 j) ∧ ((Gi (o' 18 j) ∧ GoI p nd i o' μ' (RunC p nd i o' μ' f) j (En p j) ∧ StR p e' o' j (En p j)) ∨ ((o' 18 j = 4 ∨ o' 18 j = 5) ∧ Qt o' j (En p j)))
def GoS (p : Mem) (nd : Nat → Nat) (sv : Nat → Nat → Int32) (i V its rl B N D f : Nat) : Prop :=
  ∀ (d b be n nm cu : Nat) (o h e μ : Mem), Ch p nd sv f d (nd b - 1) b be → be ≤ its → d ≤ 4 → Bst nd b → sv (nd b - 1) 5 = nI (nd b) → R p nd sv i V its rl B o h e μ → o 19 b = 1 → Fm μ i (nd b - 1) 0 = 1 → o 20 b = nI cu → RunC p nd i o μ f b be cu → 9 ≤ n + 2 * d → 4 ≤ nm + d →
    ∃ o' h' e' μ' r, in_goOn N rl p (kn_igo N rl p n) (nI b) (nI d) o h e = some (o', h', e') ∧ md_looksAtBody N D (kn_mlook N D nm) (nI i) (nI (nd b - 1)) μ = some (r, μ') ∧ BPost p nd sv i V its rl B f o e μ b be o' h' e' μ' r
def BgS (p : Mem) (nd : Nat → Nat) (sv : Nat → Nat → Int32) (i V its rl B N D f : Nat) : Prop :=
  ∀ (d b be n nm : Nat) (o h e μ : Mem), Ch p nd sv f d (nd b - 1) b be → be ≤ its → d ≤ 4 → Bst nd b → sv (nd b - 1) 5 = nI (nd b) → R p nd sv i V its rl B o h e μ → IdleR nd i o μ b be → 10 ≤ n + 2 * d → 4 ≤ nm + d →
    ∃ o' h' e' μ' r, in_beginBody N rl p (kn_igo N rl p n) (nI b) (nI d) o h e = some (o', h', e') ∧ md_looksAtBody N D (kn_mlook N D nm) (nI i) (nI (nd b - 1)) μ = some (r, μ') ∧ BPost p nd sv i V its rl B f o e μ b be o' h' e' μ' r
section RM
variable {p : Mem} {nd : Nat → Nat} {sv : Nat → Nat → Int32} {i V its rl B B' N D : Nat} {o h e μ o' h' e' μ' : Mem}
theorem BodyS.st {f b be : Nat} (h : BodyS p nd i f o e μ b be) : o 19 b = 1 ∨ o 19 b = 4 ∨ o 19 b = 5 := by
  rcases h with ⟨q, _⟩ | ⟨q | q, _⟩
  · exact Or.inl q
  · exact Or.inr (Or.inl q)
  · exact Or.inr (Or.inr q)
theorem BodyS.ag {f d bn b be : Nat} (hc : Ch p nd sv f d bn b be) (h24 : be ≤ 24) (h : BodyS p nd i f o e μ b be) (g : Ag nd i b b be o μ o' μ') (hpe : ∀ v, ¬ 0 < o 17 v → o' 17 v = o 17 v) (he : e' 1 2 = e 1 2) : BodyS p nd i f o' e' μ' b be := by
  have hl := hc.lt
  obtain ⟨w1, w2, _⟩ := g.2 b (Nat.le_refl _) hl
  rcases h with ⟨q1, cu, q2, q3, q4⟩ | ⟨q1, q2⟩
  · exact Or.inl ⟨by rw [w1]; exact q1, cu, by rw [w2]; exact q2, q3.ag f _ _ _ _ _ hc h24 (g.sub (Nat.le_refl _) (by omega) (Nat.le_refl _)), q4.ag hc h24 (g.sub (Nat.le_refl _) (by omega) (Nat.le_refl _)) hpe he⟩
  · exact Or.inr ⟨by rw [w1]; exact q1, q2.ag g⟩
theorem never_gt (H : R p nd sv i V its rl B o h e μ) : e 1 2 < 1000000000 := by
  obtain ⟨t, t1, t2, t3⟩ := H.t
  rw [t1]
  exact nI_lt (b := 1000000000) (by omega) (by decide)
theorem lc_end {n j k : Nat} {Bx : Bool → Int32 → Int32 → Mem → Mem → Mem → Option (Mem × Mem × Mem)} {y : Int32} (hj : j < 24) : ∀ s k n, k + s = 4 → s < n → (∀ k', k ≤ k' → k' < 4 → p 15 (4 * j + k') = -1 ∨ ∃ b, b < 24 ∧ p 15 (4 * j + k') = nI b ∧ o 19 b = 0) → in_lookAtChoice_2 N rl p Bx n (nI j) y (nI k) o h e = some (o, h, e) := by
  intro s
  induction s with
  | zero =>
    intro k m hk hm _
    obtain ⟨m, rfl⟩ : ∃ x, m = x + 1 := ⟨m - 1, by omega⟩
    unfold in_lookAtChoice_2
    rw [show k = 4 by omega, if_neg (by decide)]
  | succ s ih =>
    intro k m hk hm hs
    obtain ⟨m, rfl⟩ : ∃ x, m = x + 1 := ⟨m - 1, by omega⟩
    unfold in_lookAtChoice_2
    rw [if_pos (show nI k < 4 from nI_lt (b := 4) (by omega) (by decide)), body_ev hj (by omega), Option.bind_some, nI_1]
    rcases hs k (Nat.le_refl _) (by omega) with z | ⟨b, z1, z2, z3⟩
    · rw [z, ins24m, Option.bind_some, if_neg (by decide)]
      exact ih (k + 1) m (by omega) (by omega) (fun k' q1 q2 => hs k' (by omega) q2)
    · rw [z2, ins24 z1, Option.bind_some, if_pos rfl, rd_nI z1 (by decide), Option.bind_some, z3, if_pos rfl]
      exact ih (k + 1) m (by omega) (by omega) (fun k' q1 q2 => hs k' (by omega) q2)
/-- the end of a look at a choice, once its body has been looked at -/
theorem choice_fin {f d bn j be k0 : Nat} {o1 h1 e1 μ1 : Mem} {s : Int32} (hi : i < 6) (hS : ST p nd sv its) (hc : Ch p nd sv (f + 1) d bn j be) (hb : be ≤ its) (h4 : p 7 j = 4) (hk0 : k0 < 2) (H : R p nd sv i V its rl B o1 h1 e1 μ1) (h18 : o1 18 j = 1) (hs : o1 19 (Bs p j k0) = s) (hF0 : Fm μ1 i (nd (Bs p j k0) - 1) 0 = mS s) (hF2 : Fm μ1 i (nd j) 2 = nI (nd (Bs p j k0) - 1)) (hid : IdleR nd i o1 μ1 (Bs p j (1 - k0)) (Bs p j (2 - k0))) (hbo : BodyS p nd i f o1 e1 μ1 (Bs p j k0) (Bs p j (k0 + 1))) (hfr : Fr nd its i j (j + 1) (En p j) o e μ o1 e1 μ1) :
    IPost p nd sv i V its rl B f o e μ j (up o1 18 j s) h1 e1 (up μ1 5 (643 + 1262 * i + 10 * nd j + 0) (mS s)) (mS s) := by
  have hn := hS.1
  have hits := hn.2.1
  have hjl := hc.lt
  have hj : j < its := by omega
  have h64 := hn.l64 hj
  have hl : ¬ Lf (p 7 j) := by rw [h4]; unfold Lf; decide
  have hir := H.2.2.2.2.2.1 j hj
  have h23 : o1 23 j = 0 := hir.2.2.2.2.2.2.2.2.2.2.2.2.2.2 (by rw [h4]; decide) h18
  have h22 : o1 22 j = 1000000000 := hir.2.2.2.2.2.2.2.2.2.2.2.2.1 (Or.inl h4) h18
  obtain ⟨nb, c1, c2, c3, c4, c5, c6, c7, c8, c9, c10, c11⟩ := hc.cont (by omega) hl
  have hnb : nb = 2 := c3 h4
  subst hnb
  obtain ⟨v1, v2, v3, v4, v5, v6, v7, v8, v9, v10, v11⟩ := c11 k0 hk0
  obtain ⟨u1, u2, u3, u4, u5, u6, _⟩ := c11 (1 - k0) (by omega)
  have hk2 : 1 - k0 + 1 = 2 - k0 := by omega
  rw [hk2] at u4 u5
  obtain ⟨a1, _, a3, a4, a5, _⟩ := c11 0 (by omega)
  obtain ⟨_, _, _, b4, b5, _⟩ := c11 1 (by omega)
  have cover : ∀ {P : Nat → Prop}, (∀ x, Bs p j k0 ≤ x → x < Bs p j (k0 + 1) → P x) → (∀ x, Bs p j (1 - k0) ≤ x → x < Bs p j (2 - k0) → P x) → ∀ x, j + 1 ≤ x → x < En p j → P x := by
    intro P p1 p2 x x1 x2
    have hk : k0 = 0 ∨ k0 = 1 := by omega
    rcases hk with z | z
    · subst z
      by_cases q : x < Bs p j 1
      · exact p1 x (by omega) q
      · exact p2 x (show Bs p j 1 ≤ x by omega) (show x < Bs p j 2 by rw [c8]; exact x2)
    · subst z
      by_cases q : x < Bs p j 1
      · exact p2 x (show Bs p j 0 ≤ x by omega) (show x < Bs p j 1 from q)
      · exact p1 x (by omega) (by rw [c8]; exact x2)
  rcases hbo with ⟨q1, cu, q2, q3, q4⟩ | ⟨q1, q2⟩
  · have hs1 : s = 1 := hs.symm.trans q1
    subst hs1
    have eo : up o1 18 j 1 = o1 := up_self h18
    have em : up μ1 5 (643 + 1262 * i + 10 * nd j + 0) (mS 1) = μ1 := up_self (by have := hir.1; rw [h18] at this; exact this)
    rw [eo, em]
    refine ⟨H, hfr, by rw [h18], Or.inl ⟨by rw [h18]; exact Gi1, Or.inr (Or.inl ⟨h4, h18, k0, hk0, hF2, hid, q1, hF0, cu, q2, q3⟩), fun x x1 x2 hg => ?_⟩⟩
    by_cases z : x = j
    · subst z
      exact ⟨by rw [h22]; exact never_gt H, by rw [h4]; decide, fun q => absurd (h4.symm.trans q) (by decide), fun q => absurd (h4.symm.trans q) (by decide), fun q => absurd (h18.symm.trans q) (by decide)⟩
    · exact cover (P := fun x => Gi (o1 18 x) → e1 1 2 < o1 22 x ∧ p 7 x ≠ 3 ∧ (p 7 x = 2 → ∀ y, y < 8 → p 9 x = nI y → ¬ 0 < o1 17 y) ∧ (p 7 x = 5 → o1 18 x = 1 → ∀ q, q < 5 → p 11 x = nI q → nB p o1 x 4 < q ∧ q ≤ nB p o1 x 4 + nB p o1 x 1) ∧ (o1 18 x = 3 → o1 24 x ≠ -1)) (fun y y1 y2 => q4 y y1 y2) (fun y y1 y2 hgy => absurd hgy (hid.qt y y1 y2)) x (by omega) x2 hg
  · rw [hs] at q1
    have hx : s = 5 ∨ s = 6 ∨ (s = 4 ∧ p 7 j ≠ 0) := by
      rcases q1 with z | z
      · exact Or.inr (Or.inr ⟨z, by rw [h4]; decide⟩)
      · exact Or.inl z
    obtain ⟨z1, z2⟩ := H.st (B' := B) (x := s) hi hn hj (by rw [h18]; exact Gi1) hx (hir.g7 (by rw [h18]; decide)) (by
      rw [h18, h23, wt1_0]
      rcases q1 with z | z <;> rw [z]
      · rw [wt4]; omega
      · rw [wt5]; omega)
    refine ⟨z1, hfr.trans (z2.mono (Nat.le_refl _) (Nat.le_refl _) (by omega)), by rw [up_at], Or.inr ⟨by rw [up_at]; exact q1, fun x x1 x2 => ?_⟩⟩
    by_cases z : x = j
    · subst z
      rw [up_at]
      rcases q1 with w | w <;> rw [w]
      · exact nGi4
      · exact nGi5
    · rw [up_other (by omega)]
      exact cover (P := fun x => ¬ Gi (o1 18 x)) (fun y y1 y2 => q2 y y1 y2) (fun y y1 y2 => hid.qt y y1 y2) x (by omega) x2
/-- how a look at a choice goes, on the side of the class -/
theorem choice_ev {f d bn j be k0 : Nat} {o1 h1 e1 : Mem} {Bx : Bool → Int32 → Int32 → Mem → Mem → Mem → Option (Mem × Mem × Mem)} (hN : 20 ≤ N) (hc : Ch p nd sv (f + 1) d bn j be) (hb : be ≤ 24) (h4 : p 7 j = 4) (hk0 : k0 < 2) (h19 : o 19 (Bs p j k0) ≠ 0) (hoth : o 19 (Bs p j (1 - k0)) = 0) (hoth1 : o1 19 (Bs p j (1 - k0)) = 0)
    (hB : Bx true (nI (Bs p j k0)) (nI (d + 1)) o h e = some (o1, h1, e1)) : in_lookAt N rl p Bx (nI j) (nI d) o h e = some (up o1 18 j (o1 19 (Bs p j k0)), h1, e1) := by
  have hjl := hc.lt
  have hj24 : j < 24 := by omega
  have hl : ¬ Lf (p 7 j) := by rw [h4]; unfold Lf; decide
  obtain ⟨c1, c2⟩ := hc.choice h4
  obtain ⟨b1, b2, b3, _, b5, b6⟩ := hc.body hb (k := k0) (by omega) (c1 k0 hk0) hl
  obtain ⟨a1, a2, a3, _, a5, a6⟩ := hc.body hb (k := 1 - k0) (by omega) (c1 (1 - k0) (by omega)) hl
  have hen : En p j ≤ be := by
    obtain ⟨m, nb, z1, z2, z3, _⟩ := hc
    rw [En_eq z3 (by omega)]; exact z2
  unfold in_lookAt
  rw [rd_nI hj24 (by decide), Option.bind_some, h4, if_neg (by decide), if_neg (by decide), if_neg (by decide), if_neg (by decide), if_pos rfl, nI_1]
  unfold in_lookAtChoice
  obtain ⟨M, hM⟩ : ∃ M, N = M + 6 := ⟨N - 6, by omega⟩
  have go : ∀ K n, 4 < n → in_lookAtChoice_2 K rl p Bx (n + 1) (nI j) (nI (d + 1)) (nI k0) o h e = some (up o1 18 j (o1 19 (Bs p j k0)), h1, e1) := by
    intro K n hn
    unfold in_lookAtChoice_2
    rw [if_pos (show nI k0 < 4 from nI_lt (b := 4) (by omega) (by decide)), body_ev hj24 (by omega), Option.bind_some, nI_1, b5, ins24 (by omega), Option.bind_some, if_pos rfl, rd_nI (by omega) (by decide), Option.bind_some, if_neg h19, hB, Option.bind_some]
    dsimp only
    rw [rd_nI (by omega) (by decide), Option.bind_some, ck_nI hj24 (by decide), nI_clamp (by omega)]
    refine lc_end (j := j) (k := 0) (n := 0) hj24 (4 - (k0 + 1)) (k0 + 1) n (by omega) (by omega) (fun k' q1 q2 => ?_)
    by_cases z : k' < 2
    · have : k' = 1 - k0 := by omega
      subst this
      exact Or.inr ⟨_, by omega, a5, by rw [up_other (by omega)]; exact hoth1⟩
    · exact Or.inl (c2 k' (by omega) q2)
  have all : ∀ K, in_lookAtChoice_2 K rl p Bx (M + 6) (nI j) (nI (d + 1)) 0 o h e = some (up o1 18 j (o1 19 (Bs p j k0)), h1, e1) := by
    intro K
    have hk : k0 = 0 ∨ k0 = 1 := by omega
    rcases hk with z | z
    · subst z
      exact go K (M + 5) (by omega)
    · subst z
      unfold in_lookAtChoice_2
      rw [if_pos (by decide), show (0 : Int32) = nI 0 from rfl, body_ev hj24 (by omega), Option.bind_some]
      have a5' : p 15 (4 * j + 0) = nI (Bs p j 0) := a5
      have a2' : Bs p j 0 < Bs p j 1 := a2
      have a3' : Bs p j 1 ≤ En p j := a3
      have hoth' : o 19 (Bs p j 0) = nI 0 := hoth
      rw [a5', ins24 (by omega), Option.bind_some, if_pos rfl, rd_nI (by omega) (by decide), Option.bind_some, hoth', if_pos rfl, nI_1]
      exact go K (M + 4) (by omega)
  have := all N
  rw [← hM] at this
  rw [this]; rfl
theorem mlook_succ {nm : Nat} {x y : Int32} : kn_mlook N D (nm + 1) x y μ = md_looksAtBody N D (kn_mlook N D nm) x y μ := rfl
theorem looks4_ev {j : Nat} {b : Int32} {Bm : Int32 → Int32 → Mem → Option (Int32 × Mem)} (hn : NdS nd its) (hV : Vr i V sv μ) (hi : i < 6) (hj : j < its) (hs : SI p nd sv j) (h4 : p 7 j = 4) (hF2 : Fm μ i (nd j) 2 = b) :
    md_looks N D Bm (nI i) (nI (nd j)) μ = (Bm (nI i) b μ).bind fun (k117, μ117) => some (k117, up μ117 5 (643 + 1262 * i + 10 * nd j + 0) k117) := by
  have h64 := hn.l64 hj
  unfold md_looks
  rw [hV.np0 hi h64, Option.bind_some, (hs.k4 h4).1, if_neg (by decide), if_neg (by decide), if_neg (by decide), if_neg (by decide), if_pos rfl, at_2, Option.bind_some, rd_nI (by omega) (by decide), Option.bind_some, show μ 5 (643 + 1262 * i + 10 * nd j + 2) = b from hF2]
  congr 1
  funext x
  obtain ⟨k117, μ117⟩ := x
  dsimp only
  rw [comesTo_ev hi h64]
  rfl
theorem look_choice {f d bn j be n nm : Nat} (hi : i < 6) (hS : ST p nd sv its) (hN : 100 ≤ N) (hG : GoS p nd sv i V its rl B N D f) (hc : Ch p nd sv (f + 1) d bn j be) (hb : be ≤ its) (H : R p nd sv i V its rl B o h e μ) (h4 : p 7 j = 4) (hGo : GoI p nd i o μ (RunC p nd i o μ f) j (En p j)) (hn : 9 ≤ n + 2 * d) (hnm : 4 ≤ nm + d) :
    ∃ o' h' e' μ' r, in_lookAt N rl p (kn_igo N rl p n) (nI j) (nI d) o h e = some (o', h', e') ∧ md_looks N D (kn_mlook N D nm) (nI i) (nI (nd j)) μ = some (r, μ') ∧ IPost p nd sv i V its rl B f o e μ j o' h' e' μ' r := by
  have hnd := hS.1
  have hits := hnd.2.1
  have hjl := hc.lt
  have hj : j < its := by omega
  have hl : ¬ Lf (p 7 j) := by rw [h4]; unfold Lf; decide
  have hsj := hS.2.1 j hj
  obtain ⟨nb, c1, c2, c3, c4, c5, c6, c7, c8, c9, c10, c11⟩ := hc.cont (by omega) hl
  have hnb : nb = 2 := c3 h4
  subst hnb
  rcases hGo with q | ⟨q0, q1, k0, q2, q3, q4, q5, q6, cu, q7, q8⟩ | ⟨q0, _⟩
  · exact absurd q hl
  · obtain ⟨v1, v2, v3, v4, v5, v6, v7, v8, v9, v10, v11⟩ := c11 k0 q2
    obtain ⟨u1, u2, u3, u4, u5, u6, _⟩ := c11 (1 - k0) (by omega)
    have hk2 : 1 - k0 + 1 = 2 - k0 := by omega
    rw [hk2] at u4 u5
    obtain ⟨n, rfl⟩ : ∃ x, n = x + 1 := ⟨n - 1, by omega⟩
    obtain ⟨nm, rfl⟩ : ∃ x, nm = x + 1 := ⟨nm - 1, by omega⟩
    obtain ⟨o1, h1, e1, μ1, r, x1, x2, x3, x4, x5, x6, x7⟩ := hG (d + 1) _ _ n nm cu o h e μ v11 (by omega) (by omega) v6 v8 H q5 q6 q7 q8 (by omega) (by omega)
    have hdis : Bs p j (2 - k0) ≤ Bs p j k0 ∨ Bs p j (k0 + 1) ≤ Bs p j (1 - k0) := by
      have hk : k0 = 0 ∨ k0 = 1 := by omega
      rcases hk with z | z <;> subst z
      · right; exact Nat.le_refl _
      · left; exact Nat.le_refl _
    have hag : Ag nd i (Bs p j (1 - k0)) (Bs p j (1 - k0)) (Bs p j (2 - k0)) o μ o1 μ1 := x4.ag (by omega) (by omega) _ (by omega)
    have hid := q4.ag hag
    have e18 : o1 18 j = 1 := by rw [(x4.1.2.1 j (by omega)).1]; exact q1
    have e2 : Fm μ1 i (nd j) 2 = nI (nd (Bs p j k0) - 1) := by rw [x4.2.2.2.2.1 j hj (by omega) 2 (by omega)]; exact q3
    have hz := (q4 (Bs p j (1 - k0)) (Nat.le_refl _) u4).2.1
    have hz1 := (hid (Bs p j (1 - k0)) (Nat.le_refl _) u4).2.1
    have fin := choice_fin (o := o) (e := e) (μ := μ) hi hS hc hb h4 q2 x3 e18 rfl x6 e2 hid x7 (x4.mono (by omega) (by omega) (by omega))
    refine ⟨_, h1, e1, _, _, choice_ev (k0 := k0) (by omega) hc (by omega) h4 q2 (by rw [q5]; decide) hz hz1 (by rw [igo_t]; exact x1), ?_, fin⟩
    rw [looks4_ev hnd H.1 hi hj hsj h4 q3, mlook_succ, x2, Option.bind_some, x5]
  · exact absurd (h4.symm.trans q0) (by decide)
end RM
