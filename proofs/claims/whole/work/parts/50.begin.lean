/-! items begun -/
section RU
variable {p : Mem} {nd : Nat → Nat} {sv : Nat → Nat → Int32} {i V its rl B B' N D : Nat} {o h e μ o' h' e' μ' : Mem}
theorem begin_cont {j t : Nat} {z : Int32} (H : R p nd sv i V its rl B o h e μ) (hi : i < 6) (hn : NdS nd its) (hj : j < its) (hk : p 7 j = 4 ∨ p 7 j = 5) (h0 : o 18 j = 0) :
    R p nd sv i V its rl B (up (up (up o 18 j 1) 22 j 1000000000) 23 j 0) h e (up (up (up μ 5 (643 + 1262 * i + 10 * nd j + 0) 1) 5 (643 + 1262 * i + 10 * nd j + 1) (nI t)) 5 (643 + 1262 * i + 10 * nd j + 2) z) ∧ Fr nd its i j (j + 1) (j + 1) o e μ (up (up (up o 18 j 1) 22 j 1000000000) 23 j 0) e (up (up (up μ 5 (643 + 1262 * i + 10 * nd j + 0) 1) 5 (643 + 1262 * i + 10 * nd j + 1) (nI t)) 5 (643 + 1262 * i + 10 * nd j + 2) z) := by
  have h64 := hn.l64 hj
  have hir := H.2.2.2.2.2.1 j hj
  have g7 := hir.g7 (by rw [h0]; decide)
  have g6 := hir.g6 (Or.inl h0)
  obtain ⟨E, E1, E2⟩ := H.2.2.2.1
  have k0 : p 7 j ≠ 0 := by rcases hk with q | q <;> rw [q] <;> decide
  have k1 : p 7 j ≠ 1 := by rcases hk with q | q <;> rw [q] <;> decide
  have k2 : p 7 j ≠ 2 := by rcases hk with q | q <;> rw [q] <;> decide
  refine H.node (B' := B) (x := 0) hi hn hj (fun c k q => by rw [up_other (by omega), up_other (by omega), up_other (by omega)]) (fun r hr => by rw [up_row hr, up_row hr, up_row hr]) (fun k q1 q2 q3 => by rw [up_in (by omega), up_in (by omega), up_in (by omega)]) E2 (E1.fr (by rw [up_in (by omega), up_in (by omega), up_in (by omega)]) (fun k _ _ => by rw [up_in (by omega), up_in (by omega), up_in (by omega)]))
    (by rw [up_other (by omega), up_other (by omega), up_at, up_at, wt1_0, h0, wt0]; omega)
    (fun _ => by rw [up_other (by omega), up_other (by omega), up_at, h0]; exact ⟨fun q => absurd q (Gi_nDn Gi1), fun q => absurd q nDn0⟩)
    (fun q => absurd q (by rw [h0]; exact nDn0))
    (IR.mk1 (by rw [up_other (by omega), up_other (by omega), up_at])
      (by show up _ _ _ _ _ _ = _; rw [up_in (by omega), up_in (by omega), up_at])
      (by show up _ _ _ _ _ _ = _; rw [up_in (by omega), up_in (by omega), up_in (by omega)]; exact g7)
      (by show up _ _ _ _ _ _ = _; rw [up_in (by omega), up_in (by omega), up_in (by omega)]; exact g6)
      (fun q => absurd q k0) (fun q => absurd q k1) (fun q => absurd q k2) (fun _ => by rw [up_other (by omega), up_at]) (fun _ => up_at))
/-- what the beginning of an item comes to: the item has begun, then it has been looked at -/
def GPost (p : Mem) (nd : Nat → Nat) (sv : Nat → Nat → Int32) (i V its rl B N D f : Nat) (o h e μ : Mem) (d j n1 n2 nm : Nat) : Prop :=
  ∃ o1 h1 e1 o' h' e' μ' r, in_beginItem N rl p (kn_igo N rl p n1) (nI j) (nI d) o h e = some (o1, h1, e1) ∧ in_lookAt N rl p (kn_igo N rl p n2) (nI j) (nI d) o1 h1 e1 = some (o', h', e') ∧ md_begins N D (kn_mlook N D nm) (nI i) (nI (nd j)) μ = some (r, μ') ∧ (∀ x, ¬ (j + 1 ≤ x ∧ x < En p j) → o1 19 x = o 19 x ∧ o1 20 x = o 20 x) ∧ IPost p nd sv i V its rl B f o e μ j o' h' e' μ' r
theorem begin_choice {f d bn j be n1 n2 nm : Nat} (hi : i < 6) (hS : ST p nd sv its) (hN : 100 ≤ N) (hG : BgS p nd sv i V its rl B N D f) (hc : Ch p nd sv (f + 1) d bn j be) (hb : be ≤ its) (H : R p nd sv i V its rl B o h e μ) (h4 : p 7 j = 4) (hid : IdleR nd i o μ (j + 1) (En p j)) (h0 : o 18 j = 0) (hn1 : 8 ≤ n1 + 2 * d) (hn2 : 9 ≤ n2 + 2 * d) (hnm : 4 ≤ nm + d) :
    GPost p nd sv i V its rl B N D f o h e μ d j n1 n2 nm := by
  have hnd := hS.1
  have hits := hnd.2.1
  have hjl := hc.lt
  have hj : j < its := by omega
  have h64 := hnd.l64 hj
  have hl : ¬ Lf (p 7 j) := by rw [h4]; unfold Lf; decide
  have hsj := hS.2.1 j hj
  obtain ⟨s0, ⟨c, hc4, cc1, cc2⟩, s2⟩ := hsj.k4 h4
  obtain ⟨nb, c1, c2, c3, c4, c5, c6, c7, c8, c9, c10, c11⟩ := hc.cont (by omega) hl
  have hnb : nb = 2 := c3 h4
  subst hnb
  obtain ⟨t, t1, t2, t3⟩ := H.t
  obtain ⟨nm, rfl⟩ : ∃ x, nm = x + 1 := ⟨nm - 1, by omega⟩
  have hva : μ 5 (21 + 1262 * i + (10 + c)) = o 16 c := H.2.2.1.2.2.2.1 c hc4
  obtain ⟨b1, b2⟩ := begins_ev (n := nd j) (N := N) (D := D) (Bm := kn_mlook N D (nm + 1)) H.1 hi h64
  rw [t3] at b1 b2
  -- which body
  obtain ⟨k0, hk0, hXk, hMk⟩ : ∃ k0, k0 < 2 ∧ in_chosenBody p (up (up (up o 18 j 1) 22 j 1000000000) 23 j 0) (nI j) = some (nI (Bs p j k0)) ∧
      md_begins_48 N D (kn_mlook N D (nm + 1)) (nI i) (nI (nd j)) 5 (up (up μ 5 (643 + 1262 * i + 10 * nd j + 0) 1) 5 (643 + 1262 * i + 10 * nd j + 1) (nI t)) = md_looks N D (kn_mlook N D (nm + 1)) (nI i) (nI (nd j)) (up (up (up μ 5 (643 + 1262 * i + 10 * nd j + 0) 1) 5 (643 + 1262 * i + 10 * nd j + 1) (nI t)) 5 (643 + 1262 * i + 10 * nd j + 2) (nI (nd (Bs p j k0) - 1))) := by
    obtain ⟨a1, a2, a3, a4, a5, a6, a7, a8, a9, _⟩ := c11 0 (by omega)
    obtain ⟨d1, d2, d3, d4, d5, d6, _⟩ := c11 1 (by omega)
    have hB0 := hnd.l64 (a := Bs p j 0) (by omega)
    by_cases q : o 16 c < p 10 j
    · refine ⟨0, by omega, ?_, ?_⟩
      · unfold in_chosenBody
        rw [rd_nI (by omega) (by decide), Option.bind_some, cc1, ins4 hc4, Option.bind_some, if_pos rfl, rd_nI hc4 (by decide), Option.bind_some, rd_nI (by omega) (by decide), Option.bind_some, up_other (by omega), up_other (by omega), up_other (by omega), if_pos q]
        unfold in_chosenBody_41
        rw [if_neg (by decide), show (0 : Int32) = nI 0 from rfl, body_ev (by omega) (by omega), Option.bind_some, a1]
      · unfold md_begins_48
        rw [if_pos rfl, b2.np5 hi h64, Option.bind_some, b2.np1 hi h64, Option.bind_some, cc2, of_10, Option.bind_some, rd_nI (by omega) (by decide), Option.bind_some, b2.np2 hi h64, Option.bind_some, up_in (by omega), up_in (by omega), hva, s2, if_pos q]
        unfold md_begins_96 md_begins_128 md_begins_171
        rw [at_2, Option.bind_some, if_neg (by decide), ck_nI (by omega) (by decide), if_neg (by decide), bind_eta2, nI_clamp (by omega), c6]
    · refine ⟨1, by omega, ?_, ?_⟩
      · unfold in_chosenBody
        rw [rd_nI (by omega) (by decide), Option.bind_some, cc1, ins4 hc4, Option.bind_some, if_pos rfl, rd_nI hc4 (by decide), Option.bind_some, rd_nI (by omega) (by decide), Option.bind_some, up_other (by omega), up_other (by omega), up_other (by omega), if_neg q]
        unfold in_chosenBody_41
        rw [if_pos rfl, show (1 : Int32) = nI 1 from rfl, body_ev (by omega) (by omega), Option.bind_some, d1]
      · unfold md_begins_48
        rw [if_pos rfl, b2.np5 hi h64, Option.bind_some, b2.np1 hi h64, Option.bind_some, cc2, of_10, Option.bind_some, rd_nI (by omega) (by decide), Option.bind_some, b2.np2 hi h64, Option.bind_some, up_in (by omega), up_in (by omega), hva, s2, if_neg q]
        unfold md_begins_96 md_begins_128 md_begins_171
        rw [at_2, Option.bind_some, if_pos rfl, c6, b2.np6 hi (by omega), Option.bind_some, a9, if_pos (show 0 + 1 < 2 by decide), ck_nI (by omega) (by decide), if_neg (show ¬ (5 : Int32) = 6 by decide), bind_eta2, nI_clamp (by omega)]
  obtain ⟨z1, z2⟩ := begin_cont (t := t) (z := nI (nd (Bs p j k0) - 1)) H hi hnd hj (Or.inl h4) h0
  obtain ⟨v1, v2, v3, v4, v5, v6, v7, v8, v9, v10, v11⟩ := c11 k0 hk0
  obtain ⟨u1, u2, u3, u4, u5, u6, _⟩ := c11 (1 - k0) (by omega)
  have hk2 : 1 - k0 + 1 = 2 - k0 := by omega
  rw [hk2] at u4 u5
  have hag : Ag nd i (j + 1) (j + 1) (En p j) o μ _ _ := z2.ag (y := En p j) (by omega) (x := j + 1) (by omega) (j + 1) (by omega)
  have hid1 := hid.ag hag
  obtain ⟨o1, h1, e1, μ1, r, x1, x2, x3, x4, x5, x6, x7⟩ := hG (d + 1) _ _ n1 nm _ h e _ v11 (by omega) (by omega) v6 v8 z1 (hid1.sub (by omega) (by omega)) (by omega) (by omega)
  have hdis : Bs p j (2 - k0) ≤ Bs p j k0 ∨ Bs p j (k0 + 1) ≤ Bs p j (1 - k0) := by
    have hk : k0 = 0 ∨ k0 = 1 := by omega
    rcases hk with z | z <;> subst z
    · right; exact Nat.le_refl _
    · left; exact Nat.le_refl _
  have hido := hid1.sub (b := Bs p j (1 - k0)) (g := Bs p j (2 - k0)) (by omega) (by omega)
  have hag2 : Ag nd i (Bs p j (1 - k0)) (Bs p j (1 - k0)) (Bs p j (2 - k0)) _ _ o1 μ1 := x4.ag (by omega) (by omega) _ (by omega)
  have hid2 := hido.ag hag2
  have e18 : o1 18 j = 1 := by rw [(x4.1.2.1 j (by omega)).1, up_other (by omega), up_other (by omega), up_at]
  have e2 : Fm μ1 i (nd j) 2 = nI (nd (Bs p j k0) - 1) := by rw [x4.2.2.2.2.1 j hj (by omega) 2 (by omega)]; exact up_at
  have fr1 : Fr nd its i j (j + 1) (En p j) o e μ o1 e1 μ1 := (z2.mono (Nat.le_refl _) (Nat.le_refl _) (by omega)).trans (x4.mono (by omega) (by omega) (by omega))
  have fin := choice_fin (o := o) (e := e) (μ := μ) hi hS hc hb h4 hk0 x3 e18 rfl x6 e2 hid2 x7 fr1
  have hne0 : o1 19 (Bs p j k0) ≠ 0 := by rcases x7.st with q | q | q <;> rw [q] <;> decide
  have hz1 := (hid2 (Bs p j (1 - k0)) (Nat.le_refl _) u4).2.1
  obtain ⟨n2, rfl⟩ : ∃ x, n2 = x + 1 := ⟨n2 - 1, by omega⟩
  have hsame : in_goOn N rl p (kn_igo N rl p n2) (nI (Bs p j k0)) (nI (d + 1)) o1 h1 e1 = some (o1, h1, e1) := by
    rcases x7 with ⟨q1, cu, q2, q3, q4⟩ | ⟨q1, _⟩
    · exact idem_go hi hS hN f (d + 1) _ _ _ cu n2 v11 (by omega) (by omega) x3 q1 q2 q3 q4 (by omega)
    · exact goOn_not (by omega) (by rcases q1 with q | q <;> rw [q] <;> decide)
  refine ⟨o1, h1, e1, _, h1, e1, _, _, ?_, choice_ev (k0 := k0) (by omega) hc (by omega) h4 hk0 hne0 hz1 hz1 (by rw [igo_t]; exact hsame), ?_, fun x hx => ?_, fin⟩
  · unfold in_beginItem
    rw [ins24 (by omega), Option.bind_some, if_pos rfl, ck_nI (by omega) (by decide), ck_nI (by omega) (by decide), ck_nI (by omega) (by decide), rd_nI (by omega) (by decide), Option.bind_some, h4, if_neg (by decide), if_neg (by decide), if_neg (by decide), if_neg (by decide), if_pos rfl, nI_clamp (by omega), hXk, Option.bind_some, nI_1, x1]
    rfl
  · rw [b1, s0, if_neg (by decide), hMk, looks4_ev hnd z1.1 hi hj hsj h4 (b := nI (nd (Bs p j k0) - 1)) up_at, mlook_succ, x2, Option.bind_some, x5]
  · rw [(x4.1.2.2.1 x (by omega)).1, (x4.1.2.2.1 x (by omega)).2]
    refine ⟨?_, ?_⟩
    all_goals rw [up_other (by omega), up_other (by omega), up_other (by omega)]
/-- the bodies of a parallel are begun -/
theorem bb_end {j n : Nat} {Bx : Bool → Int32 → Int32 → Mem → Mem → Mem → Option (Mem × Mem × Mem)} {y : Int32} (hj : j < 24) : ∀ s k n, k + s = 4 → s < n → (∀ k', k ≤ k' → k' < 4 → p 15 (4 * j + k') = -1) → in_beginBodies_2 N rl p Bx n (nI j) y (nI k) o h e = some (o, h, e) := by
  intro s
  induction s with
  | zero =>
    intro k m hk hm _
    obtain ⟨m, rfl⟩ : ∃ x, m = x + 1 := ⟨m - 1, by omega⟩
    unfold in_beginBodies_2
    rw [show k = 4 by omega, if_neg (by decide)]
  | succ s ih =>
    intro k m hk hm hs
    obtain ⟨m, rfl⟩ : ∃ x, m = x + 1 := ⟨m - 1, by omega⟩
    unfold in_beginBodies_2
    rw [if_pos (show nI k < 4 from nI_lt (b := 4) (by omega) (by decide)), body_ev hj (by omega), Option.bind_some, nI_1, hs k (Nat.le_refl _) (by omega)]
    unfold in_beginBody
    rw [ins24m, Option.bind_some, if_neg (by decide), Option.bind_some]
    exact ih (k + 1) m (by omega) (by omega) (fun k' q1 q2 => hs k' (by omega) q2)
theorem bb_loop {f d bn j be nb n nm : Nat} (hi : i < 6) (hS : ST p nd sv its) (hG : BgS p nd sv i V its rl B N D f) (hcb : CB p nd sv f d j nb) (hj : j < its) (hen : En p j ≤ its) (hd : d < 4) (hn : 10 ≤ n + 2 * (d + 1)) (hnm : 4 ≤ nm + (d + 1)) (hid : IdleR nd i o μ (j + 1) (En p j)) :
    ∀ (r k mx mm : Nat) (ok hk ek μk : Mem), k + r = nb → r + 6 ≤ mx → r < mm → R p nd sv i V its rl B ok hk ek μk → Fr nd its i (j + 1) (j + 1) (Bs p j k) o e μ ok ek μk → BDone p nd i f j k ok ek μk →
      ∃ o1 h1 e1 μ1, in_beginBodies_2 N rl p (kn_igo N rl p n) mx (nI j) (nI (d + 1)) (nI k) ok hk ek = some (o1, h1, e1) ∧
        md_begins_143 N D (kn_mlook N D (nm + 1)) mm (nI i) (nI (nd j)) (if k < nb then nI (nd (Bs p j k) - 1) else -1) μk = md_begins_171 N D (kn_mlook N D (nm + 1)) (nI i) (nI (nd j)) μ1 ∧
        R p nd sv i V its rl B o1 h1 e1 μ1 ∧ Fr nd its i (j + 1) (j + 1) (En p j) o e μ o1 e1 μ1 ∧ BDone p nd i f j nb o1 e1 μ1 := by
  have hnd := hS.1
  have hits := hnd.2.1
  obtain ⟨c2, c7, c8, c10, c11⟩ := hcb
  intro r
  induction r with
  | zero =>
    intro k mx mm ok hk ek μk hkr hmx hmm hR hF hD
    have hkn : k = nb := by omega
    subst hkn
    rw [c8] at hF
    obtain ⟨mm, rfl⟩ : ∃ x, mm = x + 1 := ⟨mm - 1, by omega⟩
    refine ⟨ok, hk, ek, μk, bb_end (j := j) (n := 0) (by omega) (4 - k) k mx (by omega) (by omega) c10, ?_, hR, hF, hD⟩
    rw [if_neg (by omega)]
    unfold md_begins_143
    rw [if_pos (by decide)]
  | succ r ih =>
    intro k mx mm ok hk ek μk hkr hmx hmm hR hF hD
    obtain ⟨mx, rfl⟩ : ∃ x, mx = x + 1 := ⟨mx - 1, by omega⟩
    obtain ⟨mm, rfl⟩ : ∃ x, mm = x + 1 := ⟨mm - 1, by omega⟩
    obtain ⟨w1, w2, w3, w4, w5, w6, w7, w8, w9, w10, w11⟩ := c11 k (by omega)
    have hB64 := hnd.l64 (a := Bs p j k) (by omega)
    have hBp := hnd.pos (a := Bs p j k) (by omega)
    have hag : Ag nd i (Bs p j k) (Bs p j k) (Bs p j (k + 1)) o μ ok μk := hF.ag (by omega) (by omega) _ (by omega)
    obtain ⟨o1, h1, e1, μ1, r1, x1, x2, x3⟩ := hG (d + 1) _ _ n nm ok hk ek μk w11 (by omega) (by omega) w6 w8 hR ((hid.sub (by omega) (by omega)).ag hag) hn hnm
    have hD' := hD.step (nb := nb) (d := d) (sv := sv) (V := V) (rl := rl) (B := B) (its := its) (h1 := h1) ⟨c2, c7, c8, c10, c11⟩ hen hits (by omega) x3
    obtain ⟨o2, h2, e2, μ2, y1, y2, y3⟩ := ih (k + 1) mx mm o1 h1 e1 μ1 (by omega) (by omega) (by omega) x3.1 ((hF.mono (Nat.le_refl _) (Nat.le_refl _) (by omega)).trans (x3.2.1.mono (by omega) (by omega) (Nat.le_refl _))) hD'
    refine ⟨o2, h2, e2, μ2, ?_, ?_, y3⟩
    · conv => lhs; unfold in_beginBodies_2
      rw [if_pos (show nI k < 4 from nI_lt (b := 4) (by omega) (by decide)), body_ev (by omega) (by omega), Option.bind_some, nI_1, w1, x1, Option.bind_some]
      exact y1
    · rw [if_pos (by omega)]
      conv => lhs; unfold md_begins_143
      rw [if_neg (nI_pos (by omega)), mlook_succ, x2, Option.bind_some]
      dsimp only
      rw [x3.1.1.np6 hi (by omega), Option.bind_some, w9]
      exact y2
theorem begin_par {f d bn j be n1 n2 nm : Nat} (hi : i < 6) (hS : ST p nd sv its) (hN : 100 ≤ N) (hD : 9 ≤ D) (hB : B < 3600) (hG : BgS p nd sv i V its rl B N D f) (hGo : GoS p nd sv i V its rl B N D f) (hc : Ch p nd sv (f + 1) d bn j be) (hb : be ≤ its) (H : R p nd sv i V its rl B o h e μ) (h5 : p 7 j = 5) (hid : IdleR nd i o μ (j + 1) (En p j)) (h0 : o 18 j = 0) (hn1 : 8 ≤ n1 + 2 * d) (hn2 : 9 ≤ n2 + 2 * d) (hnm : 4 ≤ nm + d) :
    GPost p nd sv i V its rl B N D f o h e μ d j n1 n2 nm := by
  have hnd := hS.1
  have hits := hnd.2.1
  have hjl := hc.lt
  have hj : j < its := by omega
  have h64 := hnd.l64 hj
  have hl : ¬ Lf (p 7 j) := by rw [h5]; unfold Lf; decide
  have hsj := hS.2.1 j hj
  obtain ⟨s0, q, hq1, hq4, hq2, hq3⟩ := hsj.k5 h5
  obtain ⟨nb, c1, c2, c3, c4, c5, c6, c7, c8, c9, c10, c11⟩ := hc.cont (by omega) hl
  have hcb : CB p nd sv f d j nb := ⟨c2, c7, c8, c10, c11⟩
  have hjm : j + 1 ≤ En p j := by
    obtain ⟨_, _, w3, w4, w5, _⟩ := c11 0 (by omega)
    omega
  obtain ⟨t, t1, t2, t3⟩ := H.t
  obtain ⟨nm, rfl⟩ : ∃ x, nm = x + 1 := ⟨nm - 1, by omega⟩
  obtain ⟨b1, b2⟩ := begins_ev (n := nd j) (N := N) (D := D) (Bm := kn_mlook N D (nm + 1)) H.1 hi h64
  rw [t3] at b1 b2
  obtain ⟨z1, z2⟩ := begin_cont (t := t) (z := Fm μ i (nd j) 2) H hi hnd hj (Or.inr h5) h0
  have esame : up (up (up μ 5 (643 + 1262 * i + 10 * nd j + 0) 1) 5 (643 + 1262 * i + 10 * nd j + 1) (nI t)) 5 (643 + 1262 * i + 10 * nd j + 2) (Fm μ i (nd j) 2) = up (up μ 5 (643 + 1262 * i + 10 * nd j + 0) 1) 5 (643 + 1262 * i + 10 * nd j + 1) (nI t) := up_self (by rw [up_in (by omega), up_in (by omega)])
  rw [esame] at z1 z2
  have hag : Ag nd i (j + 1) (j + 1) (En p j) o μ _ _ := z2.ag (y := En p j) (by omega) (x := j + 1) (by omega) (j + 1) (by omega)
  have hid1 := hid.ag hag
  obtain ⟨o1, h1, e1, μ1, x1, x2, x3, x4, x5⟩ := bb_loop (bn := bn) (be := be) (n := n1) (nm := nm) hi hS hG hcb hj (by omega) c5 (by omega) (by omega) hid1 nb 0 N N _ h e _ (by omega) (by omega) (by omega) z1 Fr.refl (fun k' hk' => by omega)
  rw [if_pos (by omega), ← c6] at x2
  have e18 : o1 18 j = 1 := by rw [(x4.1.2.1 j (by omega)).1, up_other (by omega), up_other (by omega), up_at]
  have fr1 : Fr nd its i j (j + 1) (En p j) o e μ o1 e1 μ1 := (z2.mono (Nat.le_refl _) (Nat.le_refl _) (by omega)).trans (x4.mono (by omega) (Nat.le_refl _) (Nat.le_refl _))
  obtain ⟨o2, h2, e2, μ2, r, y1, y2, y3, y4, y5, y6⟩ := look_par1 (n := n2) (nm := nm + 1) hi hS hN hD hB hGo hc hb x3 h5 e18 (x5.goI (e := e1) hc hcb h5 e18) hn2 (by omega)
  refine ⟨o1, h1, e1, o2, h2, e2, μ2, r, ?_, y1, ?_, fun x hx => ?_, y3, fr1.trans y4, y5, y6⟩
  · unfold in_beginItem
    rw [ins24 (by omega), Option.bind_some, if_pos rfl, ck_nI (by omega) (by decide), ck_nI (by omega) (by decide), ck_nI (by omega) (by decide), rd_nI (by omega) (by decide), Option.bind_some, h5, if_neg (by decide), if_neg (by decide), if_neg (by decide), if_neg (by decide), if_neg (by decide), if_pos rfl, nI_clamp (by omega), nI_1]
    unfold in_beginBodies
    rw [show (0 : Int32) = nI 0 from rfl] at *
    rw [x1]
    rfl
  · rw [b1, s0, if_neg (by decide)]
    unfold md_begins_48
    rw [if_neg (by decide)]
    unfold md_begins_128
    rw [if_pos rfl, b2.np5 hi h64, Option.bind_some, x2]
    unfold md_begins_171
    rw [bind_eta2, y2]
  · have := fr1.1.2.2.1 x hx
    exact this
/-- any item is begun -/
theorem begin_item {f d bn j be n1 n2 nm : Nat} (hi : i < 6) (hS : ST p nd sv its) (hN : 100 ≤ N) (hD : 9 ≤ D) (hB : B < 3600) (hG : BgS p nd sv i V its rl B N D f) (hGo : GoS p nd sv i V its rl B N D f) (hc : Ch p nd sv (f + 1) d bn j be) (hb : be ≤ its) (H : R p nd sv i V its rl B o h e μ) (hid : IdleR nd i o μ (j + 1) (En p j)) (h0 : o 18 j = 0) (hn1 : 8 ≤ n1 + 2 * d) (hn2 : 9 ≤ n2 + 2 * d) (hnm : 4 ≤ nm + d) :
    GPost p nd sv i V its rl B N D f o h e μ d j n1 n2 nm := by
  have hnd := hS.1
  have hits := hnd.2.1
  have hjl := hc.lt
  have hj : j < its := by omega
  have hsj := hS.2.1 j hj
  by_cases hl : Lf (p 7 j)
  · have he : En p j = j + 1 := by
      obtain ⟨m, nb, g1, g2, g3, g4, g5, g6⟩ := hc
      rw [En_eq g3 (by omega)]
      rcases g6 with ⟨_, w, _⟩ | ⟨w, _⟩
      · exact w
      · rcases w with w | w <;> rw [w.1] at hl <;> (exfalso; unfold Lf at hl; revert hl; decide)
    obtain ⟨o1, h1, μ1, x1, x2, x3, x4, x5⟩ := begin_leaf (N := N) (D := D) (x2 := nI d) (Bx := kn_igo N rl p n1) (Bm := kn_mlook N D nm) H (by omega) hi hnd hj hsj hl h0
    obtain ⟨o2, h2, e2, μ2, r, y1, y2, y3, y4, y5, y6⟩ := look_item (n := n2) (nm := nm) hi hS hN hD hB hGo hc hb x3 (by rw [x5]; exact Gi1) (Or.inl hl) hn2 hnm
    exact ⟨o1, h1, e, o2, h2, e2, μ2, r, x1, y1, by rw [x2]; exact y2, fun x _ => x4.1.2.2.1 x (by omega), y3, (x4.mono (Nat.le_refl _) (Nat.le_refl _) (by omega)).trans y4, y5, y6⟩
  · obtain ⟨nb, c1, c2, c3, c4, _⟩ := hc.cont (by omega) hl
    rcases c4 with q | q
    · exact begin_choice hi hS hN hG hc hb H q hid h0 hn1 hn2 hnm
    · exact begin_par hi hS hN hD hB hG hGo hc hb H q hid h0 hn1 hn2 hnm
end RU
