/-! a second look at the same minute changes nothing -/
theorem RunC.loc {p : Mem} {nd : Nat → Nat} {sv : Nat → Nat → Int32} {i : Nat} {o μ : Mem} : ∀ (f d bn j be cur : Nat), Ch p nd sv f d bn j be → be ≤ 24 → RunC p nd i o μ f j be cur →
    ∃ f', f' + 1 ≤ f ∧ Ch p nd sv (f' + 1) d bn cur be ∧ Gi (o 18 cur) ∧ IdleR nd i o μ (En p cur) be ∧ GoI p nd i o μ (RunC p nd i o μ f') cur (En p cur) ∧ j ≤ cur ∧ cur < be ∧ Qt o j cur
  | 0, _, _, _, _, _, h, _, _ => h.elim
  | f + 1, d, bn, j, be, cur, h, hb, hr => by
    have hch := h
    have hjl := h.lt
    rcases hr with ⟨q1, q2, q3, q4⟩ | ⟨q1, q2, q3, q4⟩
    · subst q1
      exact ⟨f, Nat.le_refl _, hch, q2, q3, q4, Nat.le_refl _, hjl, fun k k1 k2 => by omega⟩
    · obtain ⟨m, nb, h1, h2, h3, h4, h5, h6⟩ := h
      have he : En p j = m := En_eq h3 (by omega)
      rw [he] at q2 q3 q4
      rcases h5 with ⟨r1, _⟩ | ⟨r1, r2, r3, r4⟩
      · omega
      · obtain ⟨f', w1, w2, w3, w4, w5, w6, w7, w8⟩ := RunC.loc f d bn m be cur r4 hb q4
        exact ⟨f', by omega, w2, w3, w4, w5, by omega, w7, q2.app w8⟩
section RI
variable {p : Mem} {nd : Nat → Nat} {sv : Nat → Nat → Int32} {i V its rl B B' N D : Nat} {o h e μ o' h' e' μ' : Mem}
theorem igo_t {n : Nat} {x y : Int32} : kn_igo N rl p (n + 1) true x y o h e = in_goOn N rl p (kn_igo N rl p n) x y o h e := by
  unfold kn_igo
  exact if_pos rfl
theorem igo_f {n : Nat} {x y : Int32} : kn_igo N rl p (n + 1) false x y o h e = in_beginItem N rl p (kn_igo N rl p n) x y o h e := by
  unfold kn_igo
  exact if_neg (by decide)
theorem goOn_none {Bx : Bool → Int32 → Int32 → Mem → Mem → Mem → Option (Mem × Mem × Mem)} {y : Int32} : in_goOn N rl p Bx (-1) y o h e = some (o, h, e) := by
  unfold in_goOn
  rw [ins24m, Option.bind_some, if_neg (by decide)]
theorem goOn_not {b : Nat} {Bx : Bool → Int32 → Int32 → Mem → Mem → Mem → Option (Mem × Mem × Mem)} {y : Int32} (hb : b < 24) (h1 : o 19 b ≠ 1) : in_goOn N rl p Bx (nI b) y o h e = some (o, h, e) := by
  unfold in_goOn
  rw [ins24 hb, Option.bind_some, if_pos rfl, rd_nI hb (by decide), Option.bind_some, if_neg h1]
/-- a look at an item at which nothing is to be done -/
theorem look_same {f d bn j be n : Nat} (hi : i < 6) (hS : ST p nd sv its) (hN : 100 ≤ N) (hc : Ch p nd sv (f + 1) d bn j be) (hb : be ≤ its) (hd : d ≤ 4) (H : R p nd sv i V its rl B o h e μ) (hg : Gi (o 18 j)) (hGo : GoI p nd i o μ (RunC p nd i o μ f) j (En p j)) (hst : StR p e o j (En p j)) (hn : 9 ≤ n + 2 * d)
    (IH : ∀ k cu n, k < 4 → p 15 (4 * j + k) ≠ -1 → ¬ Lf (p 7 j) → d < 4 → o 19 (Bs p j k) = 1 → o 20 (Bs p j k) = nI cu → RunC p nd i o μ f (Bs p j k) (Bs p j (k + 1)) cu → 9 ≤ n + 2 * (d + 1) → in_goOn N rl p (kn_igo N rl p n) (nI (Bs p j k)) (nI (d + 1)) o h e = some (o, h, e)) :
    in_lookAt N rl p (kn_igo N rl p n) (nI j) (nI d) o h e = some (o, h, e) := by
  have hnd := hS.1
  have hits := hnd.2.1
  have hjl := hc.lt
  have hj : j < its := by omega
  have hsj := hS.2.1 j hj
  have hjm : j < En p j ∧ En p j ≤ be := by
    obtain ⟨m, nb, z1, z2, z3, _⟩ := hc
    rw [En_eq z3 (by omega)]; omega
  obtain ⟨s1, s2, s3, s4, s5⟩ := hst j (Nat.le_refl _) hjm.1 hg
  unfold in_lookAt
  rw [rd_nI (by omega) (by decide), Option.bind_some]
  rcases hGo with hl | ⟨q0, q1, k0, q2, q3, q4, q5, q6, cu, q7, q8⟩ | ⟨q0, q1, q2, q3⟩
  · rcases hl with z | z | z | z
    · rw [z, if_pos rfl]
      unfold in_lookAtTask
      obtain ⟨M, hM⟩ : ∃ M, N = M + 1 := ⟨N - 1, by omega⟩
      have : ∀ K, in_lookAtTask_2 K rl p (M + 1) (nI j) 0 o h e = some (o, h, e) := by
        intro K
        unfold in_lookAtTask_2
        rw [if_pos (by decide), goesOn_t (by omega) hg, Option.bind_some, if_pos rfl, rd_nI (by omega) (by decide), Option.bind_some, if_pos s1]
      have h2 := this N
      rw [← hM] at h2
      rw [h2]; rfl
    · rw [z, if_neg (by decide), if_pos rfl]
      unfold in_lookAtWait
      rw [rd_nI (by omega) (by decide), Option.bind_some, if_pos s1]; rfl
    · rw [z, if_neg (by decide), if_neg (by decide), if_pos rfl]
      obtain ⟨_, ⟨c, hc8, c1, _⟩, _⟩ := hsj.k2 z
      unfold in_lookAtSignal
      rw [rd_nI (by omega) (by decide), Option.bind_some, c1, ins8 hc8, Option.bind_some, if_pos rfl, rd_nI hc8 (by decide), Option.bind_some, if_neg (s3 z c hc8 c1)]
      unfold in_lookAtSignal_57
      rw [rd_nI (by omega) (by decide), Option.bind_some, if_pos s1]; rfl
    · exact absurd z s2
  · -- a choice
    have hl : ¬ Lf (p 7 j) := by rw [q0]; unfold Lf; decide
    have hd4 : d < 4 := by
      obtain ⟨nb, c1, c2, c3, c4, c5, _⟩ := hc.cont (by omega) hl
      exact c5
    obtain ⟨c1, c2⟩ := hc.choice q0
    rw [q0, if_neg (by decide), if_neg (by decide), if_neg (by decide), if_neg (by decide), if_pos rfl, nI_1]
    have loop : ∀ (s k m : Nat), k + s = 4 → s < m → in_lookAtChoice_2 N rl p (kn_igo N rl p n) m (nI j) (nI (d + 1)) (nI k) o h e = some (o, h, e) := by
      intro s
      induction s with
      | zero =>
        intro k m hk hm
        obtain ⟨m, rfl⟩ : ∃ x, m = x + 1 := ⟨m - 1, by omega⟩
        unfold in_lookAtChoice_2
        rw [show k = 4 by omega, if_neg (by decide)]
      | succ s ih =>
        intro k m hk hm
        obtain ⟨m, rfl⟩ : ∃ x, m = x + 1 := ⟨m - 1, by omega⟩
        unfold in_lookAtChoice_2
        rw [if_pos (show nI k < 4 from nI_lt (b := 4) (by omega) (by decide)), body_ev (by omega) (by omega), Option.bind_some, nI_1]
        by_cases hk2 : k < 2
        · obtain ⟨b1, b2, b3, _, b5, b6⟩ := hc.body (by omega) (k := k) (by omega) (c1 k hk2) hl
          rw [b5, ins24 (by omega), Option.bind_some, if_pos rfl, rd_nI (by omega) (by decide), Option.bind_some]
          by_cases z : k = k0
          · subst z
            obtain ⟨n', rfl⟩ : ∃ x, n = x + 1 := ⟨n - 1, by omega⟩
            rw [q5, if_neg (by decide), igo_t, IH k cu n' (by omega) (c1 k hk2) hl hd4 q5 q7 q8 (by omega), Option.bind_some]
            dsimp only
            rw [rd_nI (by omega) (by decide), Option.bind_some, q5, ck_nI (by omega) (by decide), nI_clamp (by omega), up_self q1]
            exact ih (k + 1) m (by omega) (by omega)
          · have e1 : 1 - k0 = k := by omega
            have e2 : 2 - k0 = k + 1 := by omega
            rw [e1, e2] at q4
            rw [(q4 (Bs p j k) (Nat.le_refl _) b2).2.1, if_pos rfl]
            exact ih (k + 1) m (by omega) (by omega)
        · rw [c2 k (by omega) (by omega), ins24m, Option.bind_some, if_neg (by decide)]
          exact ih (k + 1) m (by omega) (by omega)
    unfold in_lookAtChoice
    rw [show (0 : Int32) = nI 0 from rfl, loop 4 0 N (by omega) (by omega)]
    rfl
  · -- a parallel
    have hl : ¬ Lf (p 7 j) := by rw [q0]; unfold Lf; decide
    have hd4 : d < 4 := by
      obtain ⟨nb, c1, c2, c3, c4, c5, _⟩ := hc.cont (by omega) hl
      exact c5
    rw [q0, if_neg (by decide), if_neg (by decide), if_neg (by decide), if_neg (by decide), if_neg (by decide), nI_1]
    unfold in_lookAtParallel
    rw [rd_nI (by omega) (by decide), Option.bind_some]
    rcases q1 with h1 | h3
    · rw [h1, if_pos rfl]
      obtain ⟨_, q, hq1, hq4, hq2, _⟩ := hsj.k5 q0
      obtain ⟨j1, j2⟩ := s4 q0 h1 q (by omega) hq2
      have n4 := nB_le (p := p) (o := o) (j := j) (x := 4)
      have n1 := nB_le (p := p) (o := o) (j := j) (x := 1)
      have hbd := hc.bd (by omega) hl
      have loop : ∀ (s k m : Nat), k + s = 4 → s < m → in_lookAtParallel_12 N rl p (kn_igo N rl p n) m (nI j) (nI (d + 1)) (nI k) o h e = some (o, h, e) := by
        intro s
        induction s with
        | zero =>
          intro k m hk hm
          obtain ⟨m, rfl⟩ : ∃ x, m = x + 1 := ⟨m - 1, by omega⟩
          unfold in_lookAtParallel_12
          rw [show k = 4 by omega, if_neg (by decide)]
          unfold in_join
          rw [rd_nI (by omega) (by decide), Option.bind_some, hq2, bw_ev hbd (by omega), Option.bind_some, if_pos (nI_lt j1 (by omega)), bw_ev hbd (by omega), Option.bind_some, nI_add, if_neg (nI_nlt j2 (by omega)), Option.bind_some]
          dsimp only
          unfold in_lookAtParallel_42
          rw [rd_nI (by omega) (by decide), Option.bind_some, h1, if_neg (by decide)]
        | succ s ih =>
          intro k m hk hm
          obtain ⟨m, rfl⟩ : ∃ x, m = x + 1 := ⟨m - 1, by omega⟩
          obtain ⟨n', rfl⟩ : ∃ x, n = x + 1 := ⟨n - 1, by omega⟩
          unfold in_lookAtParallel_12
          rw [if_pos (show nI k < 4 from nI_lt (b := 4) (by omega) (by decide)), body_ev (by omega) (by omega), Option.bind_some, nI_1, igo_t]
          have hgo : in_goOn N rl p (kn_igo N rl p n') (p 15 (4 * j + k)) (nI (d + 1)) o h e = some (o, h, e) := by
            by_cases z : p 15 (4 * j + k) = -1
            · rw [z]; exact goOn_none
            · obtain ⟨b1, b2, b3, _, b5, b6⟩ := hc.body (by omega) (k := k) (by omega) z hl
              rw [b5]
              obtain ⟨r1, r2⟩ := q3 k (by omega) z
              rcases r2 with ⟨t1, t2, cu, t3, t4⟩ | ⟨t1, t2, t3⟩ | ⟨t1, t2⟩
              · exact IH k cu n' (by omega) z hl hd4 t2 t3 t4 (by omega)
              · exact goOn_not (by omega) (by rcases t2 with y | y <;> rw [y] <;> decide)
              · exact goOn_not (by omega) (by rcases t2 with y | y | y <;> rw [y] <;> decide)
          rw [hgo, Option.bind_some]
          exact ih (k + 1) m (by omega) (by omega)
      rw [show (0 : Int32) = nI 0 from rfl, loop 4 0 N (by omega) (by omega)]
      rfl
    · rw [h3, if_neg (by decide)]
      obtain ⟨_, t, ff, u, cd, r1, r2, r3, _⟩ := q2 h3
      unfold in_lookAtParallel_42
      rw [rd_nI (by omega) (by decide), Option.bind_some, h3, if_pos rfl]
      unfold in_reversesAll
      obtain ⟨M, hM⟩ : ∃ M, N = M + 1 := ⟨N - 1, by omega⟩
      have : ∀ K, in_reversesAll_2 K rl p (M + 1) (nI j) 0 o h e = some (false, o, h, e) := by
        intro K
        unfold in_reversesAll_2
        rw [if_neg (by decide), rd_nI (by omega) (by decide), Option.bind_some, r3, if_neg (nI_pos (by omega)), rd_nI (by omega) (by decide), Option.bind_some, if_pos s1]
      have h2 := this N
      rw [← hM] at h2
      rw [h2]; rfl
theorem idem_go (hi : i < 6) (hS : ST p nd sv its) (hN : 100 ≤ N) : ∀ (f d bn b be cu n : Nat), Ch p nd sv f d bn b be → be ≤ its → d ≤ 4 → R p nd sv i V its rl B o h e μ → o 19 b = 1 → o 20 b = nI cu → RunC p nd i o μ f b be cu → StR p e o b be → 9 ≤ n + 2 * d →
    in_goOn N rl p (kn_igo N rl p n) (nI b) (nI d) o h e = some (o, h, e) := by
  intro f
  induction f using Nat.strongRecOn with
  | _ f ihf =>
    intro d bn b be cu n hc hb hd H h19 h20 hr hst hn
    have hits := hS.1.2.1
    have hbl := hc.lt
    obtain ⟨f', w1, w2, w3, w4, w5, w6, w7, w8⟩ := hr.loc f d bn b be cu hc (by omega)
    have hm : En p cu ≤ be := by
      obtain ⟨m, nb, z1, z2, z3, _⟩ := w2
      rw [En_eq z3 (by omega)]; exact z2
    have hl := look_same (n := n) hi hS hN w2 hb hd H w3 w5 (fun x x1 x2 => hst x (by omega) (by omega)) hn (fun k cu' n' hk hp hlf hd4 a1 a2 a3 a4 => by
      obtain ⟨b1, b2, b3, b4, _, _⟩ := w2.body (by omega) hk hp hlf
      exact ihf f' (by omega) (d + 1) _ _ _ cu' n' b4 (by omega) (by omega) H a1 a2 a3 (fun x x1 x2 => hst x (by omega) (by omega)) a4)
    unfold in_goOn
    rw [ins24 (by omega), Option.bind_some, if_pos rfl, rd_nI (by omega) (by decide), Option.bind_some, h19, if_pos rfl, if_neg (show ¬ 4 < nI d from nI_nlt (a := 4) hd (by decide)), rd_nI (by omega) (by decide), Option.bind_some, h20]
    obtain ⟨M, hM⟩ : ∃ M, N = M + 1 := ⟨N - 1, by omega⟩
    have : ∀ K, in_lookAt K rl p (kn_igo N rl p n) (nI cu) (nI d) o h e = some (o, h, e) → in_goOn_35 K rl p (kn_igo N rl p n) (M + 1) (nI b) (nI d) (nI cu) 0 o h e = some (o, h, e) := by
      intro K hK
      unfold in_goOn_35
      rw [if_pos (by decide), ins24 (by omega), Option.bind_some, if_pos rfl, hK, Option.bind_some]
      dsimp only
      rw [goesOn_t (by omega) w3, Option.bind_some, if_pos rfl]
    have h2 := this N hl
    rw [← hM] at h2
    exact h2
end RI
