/-! a parallel: what is cancelled, asked and compensated -/
section RP
variable {p : Mem} {nd : Nat → Nat} {sv : Nat → Nat → Int32} {i V its rl B B' N D : Nat} {o h e μ o' h' e' μ' : Mem}
theorem up_comm {m : Mem} {c i c' i' : Nat} {v v' : Int32} (h : ¬ (c' = c ∧ i' = i)) : up (up m c i v) c' i' v' = up (up m c' i' v') c i v := by
  funext x y
  simp only [up_eq]
  by_cases q1 : x = c' ∧ y = i' <;> by_cases q2 : x = c ∧ y = i
  · exact absurd ⟨q1.1.symm.trans q2.1, q1.2.symm.trans q2.2⟩ h
  · rw [if_pos q1, if_neg q2, if_pos q1]
  · rw [if_neg q1, if_pos q2, if_pos q2]
  · rw [if_neg q1, if_neg q2, if_neg q2, if_neg q1]
/-- the relation says nothing of bodies, and of the task that is reversed only where one is -/
theorem R.c19 (H : R p nd sv i V its rl B o h e μ) (ho : ∀ c x, c ≠ 19 → c ≠ 20 → o' c x = o c x) : R p nd sv i V its rl B o' h e μ := by
  have hr : ∀ c, c ≠ 19 → c ≠ 20 → o' c = o c := fun c h1 h2 => funext fun x => ho c x h1 h2
  obtain ⟨H1, H2, H3, ⟨E, H4, H5⟩, H6, H7, H8, H9⟩ := H
  refine ⟨H1, H2, H3.fr (fun w _ _ => ho _ _ (by omega) (by omega)) (hr _ (by decide) (by decide)) (hr _ (by decide) (by decide)) (fun _ _ _ _ => rfl), ⟨E, H4, ?_⟩, H6.fr (ho _ _ (by omega) (by omega)) (fun _ _ => ho _ _ (by omega) (by omega)) (fun _ _ _ => by rw [ho 18 _ (by omega) (by omega)]) (fun _ _ _ _ => rfl), fun j hj => (H7 j hj).fr (ho _ _ (by omega) (by omega)) (ho _ _ (by omega) (by omega)) (ho _ _ (by omega) (by omega)) (ho _ _ (by omega) (by omega)) (fun _ _ => rfl), fun j q1 q2 => by rw [ho 18 _ (by omega) (by omega)]; exact H8 j q1 q2, H9⟩
  unfold Pot at H5 ⊢
  rw [hr 18 (by decide) (by decide), hr 23 (by decide) (by decide), hr 24 (by decide) (by decide), hr 0 (by decide) (by decide)]
  exact H5
theorem wt_r {st a r r' : Int32} (h : st ≠ 3) : wt st a r = wt st a r' := by
  unfold wt
  rw [if_neg h, if_neg h]
theorem R.w24 {j : Nat} {x : Int32} (H : R p nd sv i V its rl B o h e μ) (hj : j < 24) (h3 : o 18 j ≠ 3) : R p nd sv i V its rl B (up o 24 j x) h e μ := by
  obtain ⟨H1, H2, H3, ⟨E, H4, H5⟩, H6, H7, H8, H9⟩ := H
  refine ⟨H1, H2, H3.fr (fun w _ _ => up_other (by omega)) (up_row (by decide)) (up_row (by decide)) (fun _ _ _ _ => rfl), ⟨E, H4, ?_⟩, H6.fr (up_other (by omega)) (fun _ _ => up_other (by omega)) (fun _ _ _ => by rw [up_other (by omega)]) (fun _ _ _ _ => rfl), fun k hk => ?_, fun k q1 q2 => by rw [up_other (by omega)]; exact H8 k q1 q2, H9⟩
  · unfold Pot at H5 ⊢
    rw [up_other (c' := 0) (by omega), up_other (c' := 23) (by omega), up_other (c' := 24) (by omega)]
    rw [sm_same (f := fun j => wt (o 18 j) (o 23 j) (o 24 j)) (fun k hk => by
      show wt ((up o 24 j x) 18 k) ((up o 24 j x) 23 k) ((up o 24 j x) 24 k) = _
      rw [up_other (c' := 18) (by omega), up_other (c' := 23) (by omega)]
      by_cases q : k = j
      · subst q; exact wt_r h3
      · rw [up_other (by omega)])]
    exact H5
  · by_cases q : k = j
    · subst q
      obtain ⟨r1, r2, r3, r4, r5, r6, r7, r8, r9, r10, r11, r12, r13, r14, r15⟩ := H7 k hk
      unfold IR
      rw [up_other (c' := 18) (by omega), up_other (c' := 22) (by omega), up_other (c' := 23) (by omega)]
      exact ⟨r1, r2, r3, r4, r5, r6, r7, r8, r9, r10, r11, r12, r13, fun z => absurd z h3, r15⟩
    · exact (H7 k hk).fr (up_other (by omega)) (up_other (by omega)) (up_other (by omega)) (up_other (by omega)) (fun _ _ => rfl)
/-- nothing more is to be done in a range at this minute -/
def StR (p e o : Mem) (a c : Nat) : Prop := ∀ j, a ≤ j → j < c → Gi (o 18 j) → e 1 2 < o 22 j ∧ p 7 j ≠ 3 ∧ (p 7 j = 2 → ∀ x, x < 8 → p 9 j = nI x → ¬ 0 < o 17 x) ∧ (p 7 j = 5 → o 18 j = 1 → ∀ q, q < 5 → p 11 j = nI q → nB p o j 4 < q ∧ q ≤ nB p o j 4 + nB p o j 1) ∧ (o 18 j = 3 → o 24 j ≠ -1)
theorem StR.qt {a c : Nat} (h : Qt o a c) : StR p e o a c := fun j h1 h2 hg => absurd hg (h j h1 h2)
theorem StR.app {a b c : Nat} (h1 : StR p e o a b) (h2 : StR p e o b c) : StR p e o a c := fun j x y hg => by
  by_cases q : j < b
  · exact h1 j x q hg
  · exact h2 j (by omega) y hg
/-- the bodies are told one after the other that they are cancelled -/
theorem cb_loop {f d bn j be nb : Nat} (hi : i < 6) (hS : ST p nd sv its) (hN : 60 ≤ N) (hD : 9 ≤ D) (hc : Ch p nd sv (f + 1) d bn j be) (hb : be ≤ its) (h5 : p 7 j = 5) (hd : d < 4)
    (c2 : nb ≤ 4) (c8 : Bs p j nb = En p j) (c10 : ∀ k, nb ≤ k → k < 4 → p 15 (4 * j + k) = -1) (c11 : ∀ k, k < nb → p 15 (4 * j + k) = nI (Bs p j k) ∧ p 15 (4 * j + k) ≠ -1 ∧ j + 1 ≤ Bs p j k ∧ Bs p j k < Bs p j (k + 1) ∧ Bs p j (k + 1) ≤ En p j ∧ Bst nd (Bs p j k) ∧ sv (nd (Bs p j k) - 1) 0 = 0 ∧ sv (nd (Bs p j k) - 1) 5 = nI (nd (Bs p j k)) ∧
        sv (nd (Bs p j k) - 1) 6 = (if k + 1 < nb then nI (nd (Bs p j (k + 1)) - 1) else -1) ∧ sv (nd (Bs p j k) - 1) 8 = nI (nd j) ∧ Ch p nd sv f (d + 1) (nd (Bs p j k) - 1) (Bs p j k) (Bs p j (k + 1)))
    (hen : En p j ≤ be) (pb : ∀ k, k < 4 → p 15 (4 * j + k) ≠ -1 → PBd p nd i o μ f j k) (hst : ∀ k, k < 4 → p 15 (4 * j + k) ≠ -1 → (o 19 (Bs p j k) = 1 ∨ o 19 (Bs p j k) = 4 ∨ o 19 (Bs p j k) = 5) ∧ Fm μ i (nd (Bs p j k) - 1) 0 = mS (o 19 (Bs p j k))) :
    ∀ (r k nx nm BB : Nat) (ok ov hk μk : Mem), k + r = nb → r + 6 ≤ nx → r < nm → BB + r < 3800 →
      (∀ c' x, ¬ (c' = 19 ∧ j + 1 ≤ x ∧ x < Bs p j k) → ok c' x = o c' x) → (∀ k', k' < k → ok 19 (Bs p j k') = if o 19 (Bs p j k') = 1 then 6 else o 19 (Bs p j k')) →
      Kx o ov (j + 1) (Bs p j k) → R p nd sv i V its rl BB ov hk e μk → FrM nd its i (j + 1) (j + 1) (Bs p j k) μ μk → (∀ k', k' < k → Fm μk i (nd (Bs p j k') - 1) 0 = mS (ok 19 (Bs p j k'))) →
      ∃ o1 ov1 h1 μ1, in_cancelBodies_2 N rl p e nx (nI j) (nI k) ok hk = ((in_cancel N (nI j + 1) (nI (En p j)) o1).bind fun o73 => some (o73, h1)) ∧ md_cancelsBodies_11 N D nm (nI i) (nI k) (if k < nb then nI (nd (Bs p j k) - 1) else -1) μk = some μ1 ∧
        (∀ c' x, ¬ (c' = 19 ∧ j + 1 ≤ x ∧ x < En p j) → o1 c' x = o c' x) ∧ (∀ k', k' < nb → o1 19 (Bs p j k') = if o 19 (Bs p j k') = 1 then 6 else o 19 (Bs p j k')) ∧ Kx o ov1 (j + 1) (En p j) ∧ R p nd sv i V its rl (BB + r) ov1 h1 e μ1 ∧ FrM nd its i (j + 1) (j + 1) (En p j) μ μ1 ∧ (∀ k', k' < nb → Fm μ1 i (nd (Bs p j k') - 1) 0 = mS (o1 19 (Bs p j k'))) := by
  have hn := hS.1
  have hits := hn.2.1
  have hjl := hc.lt
  have hl : ¬ Lf (p 7 j) := by rw [h5]; unfold Lf; decide
  have hp14 : p 14 j = nI (En p j) := by
    obtain ⟨m, nb, _, _, q, _⟩ := hc
    rw [q, En_eq q (by omega)]
  have mono : ∀ a b, a ≤ b → b ≤ nb → Bs p j a ≤ Bs p j b := fun a b h3 h4 => by
    have := Bs_mono (fun k hk => (c11 k hk).2.2.2.1) (b - a) a (by omega)
    rw [show a + (b - a) = b by omega] at this
    exact this
  intro r
  induction r with
  | zero =>
    intro k nx nm BB ok ov hk μk hkr hnx hnm hBB g1 g2 g3 g4 g5 g6
    have hkn : k = nb := by omega
    subst hkn
    rw [c8] at g1 g3 g5
    refine ⟨ok, ov, hk, μk, ?_, ?_, g1, g2, g3, g4, g5, g6⟩
    · -- the rest of the four are none
      have tail : ∀ (s kk n : Nat), kk ≤ 4 → k ≤ kk → kk + s = 4 → s < n → in_cancelBodies_2 N rl p e n (nI j) (nI kk) ok hk = ((in_cancel N (nI j + 1) (nI (En p j)) ok).bind fun o73 => some (o73, hk)) := by
        intro s
        induction s with
        | zero =>
          intro kk n h1 h2 h3 h4
          obtain ⟨n, rfl⟩ : ∃ m, n = m + 1 := ⟨n - 1, by omega⟩
          unfold in_cancelBodies_2
          rw [show kk = 4 by omega, if_neg (by decide), rd_nI (by omega) (by decide), Option.bind_some, hp14]
        | succ s ih =>
          intro kk n h1 h2 h3 h4
          obtain ⟨n, rfl⟩ : ∃ m, n = m + 1 := ⟨n - 1, by omega⟩
          conv => lhs; unfold in_cancelBodies_2
          rw [if_pos (show nI kk < 4 from nI_lt (b := 4) (by omega) (by decide)), body_ev (by omega) (by omega), Option.bind_some, c10 kk h2 (by omega), ins24m, Option.bind_some, if_neg (by decide), nI_1]
          exact ih (kk + 1) n (by omega) (by omega) (by omega) (by omega)
      exact tail (4 - k) k nx c2 (Nat.le_refl _) (by omega) (by omega)
    · rw [if_neg (by omega)]
      obtain ⟨nm, rfl⟩ : ∃ m, nm = m + 1 := ⟨nm - 1, by omega⟩
      unfold md_cancelsBodies_11
      rw [if_pos (by decide)]
  | succ r ih =>
    intro k nx nm BB ok ov hk μk hkr hnx hnm hBB g1 g2 g3 g4 g5 g6
    obtain ⟨nx, rfl⟩ : ∃ m, nx = m + 1 := ⟨nx - 1, by omega⟩
    obtain ⟨nm, rfl⟩ : ∃ m, nm = m + 1 := ⟨nm - 1, by omega⟩
    obtain ⟨w1, w2, w3, w4, w5, w6, w7, w8, w9, w10, w11⟩ := c11 k (by omega)
    have hB64 := hn.l64 (a := Bs p j k) (by omega)
    have hBp := hn.pos (a := Bs p j k) (by omega)
    obtain ⟨s1, s2⟩ := hst k (by omega) w2
    have eF : ∀ x, x < 10 → Fm μk i (nd (Bs p j k) - 1) x = Fm μ i (nd (Bs p j k) - 1) x := fun x hx => g5.2.2.2 _ (by omega) w6 (by omega) x hx
    have eo19 : ok 19 (Bs p j k) = o 19 (Bs p j k) := g1 19 _ (by omega)
    rw [if_pos (by omega)]
    have hX0 : in_cancelBodies_2 N rl p e (nx + 1) (nI j) (nI k) ok hk = if o 19 (Bs p j k) = 1 then (hi_add rl e 10 (nI k) hk).bind fun h51 => in_cancelBodies_2 N rl p e nx (nI j) (nI (k + 1)) (up ok 19 (Bs p j k) 6) h51 else in_cancelBodies_2 N rl p e nx (nI j) (nI (k + 1)) ok hk := by
      conv => lhs; unfold in_cancelBodies_2
      rw [if_pos (show nI k < 4 from nI_lt (b := 4) (by omega) (by decide)), body_ev (by omega) (by omega), Option.bind_some, w1, ins24 (by omega), Option.bind_some, if_pos rfl, rd_nI (by omega) (by decide), Option.bind_some, eo19, nI_1, ck_nI (by omega) (by decide), nI_clamp (by omega)]
    have hM0 : md_cancelsBodies_11 N D (nm + 1) (nI i) (nI k) (nI (nd (Bs p j k) - 1)) μk = if o 19 (Bs p j k) = 1 then (md_cancels N (kn_mcancel N D) (nI i) (nI (nd (Bs p j k) - 1)) μk).bind fun μ36 => (md_notes (nI i) 10 (nI k) μ36).bind fun μ44 => (md_nodePart μ44 (nI i) (nI (nd (Bs p j k) - 1)) 6).bind fun k56 => md_cancelsBodies_11 N D nm (nI i) (nI (k + 1)) k56 μ44
        else (md_nodePart μk (nI i) (nI (nd (Bs p j k) - 1)) 6).bind fun k56 => md_cancelsBodies_11 N D nm (nI i) (nI (k + 1)) k56 μk := by
      conv => lhs; unfold md_cancelsBodies_11
      unfold md_cancelsBodies_47
      rw [if_neg (nI_pos (by omega)), at_0, Option.bind_some, rd_nI (by omega) (by decide), Option.bind_some, show μk 5 (643 + 1262 * i + 10 * (nd (Bs p j k) - 1) + 0) = mS (o 19 (Bs p j k)) from (eF 0 (by omega)).trans s2, nI_1]
      rcases s1 with z | z | z
      · rw [z, if_pos (by decide), if_pos rfl]
      · rw [z, if_neg (by decide), if_neg (by decide)]
      · rw [z, if_neg (by decide), if_neg (by decide)]
    rw [hX0, hM0]
    by_cases q : o 19 (Bs p j k) = 1
    · rw [if_pos q, if_pos q]
      rcases pb k (by omega) w2 with ⟨p1, cu, p2⟩ | ⟨p1, p2, p3⟩
      · rw [cancels_ev hi (by omega)]
        obtain ⟨t1, t2⟩ := g4.bnode (x := 4) hi hn (b := Bs p j k) (by omega) w6
        have e7 : (up μk 5 (643 + 1262 * i + 10 * (nd (Bs p j k) - 1) + 0) 4) 5 (643 + 1262 * i + 10 * (nd (Bs p j k) - 1) + 7) = -1 := t1.2.2.2.2.2.2.2 _ (by omega) w6 (by omega)
        rw [up_self e7, t1.1.np5 hi (by omega), Option.bind_some, w8]
        have hag : Ag nd i (Bs p j k) (Bs p j k + 1) (Bs p j (k + 1)) o μ ov (up μk 5 (643 + 1262 * i + 10 * (nd (Bs p j k) - 1) + 0) 4) := by
          refine ⟨fun x x1 x2 => ⟨g3.1 18 x (by omega), g3.1 22 x (by omega), g3.1 23 x (by omega), g3.1 24 x (by omega), fun y hy => ?_⟩, fun x x1 x2 => ⟨g3.1 19 x (by omega), g3.1 20 x (by omega), fun hs y hy => ?_⟩⟩
          · rw [t2.2.2.1 x (by omega) (by omega) y hy]; exact g5.2.2.1 x (by omega) (by omega) y hy
          · rw [t2.2.2.2 x (by omega) hs (by omega) y hy]; exact g5.2.2.2 x (by omega) hs (by omega) y hy
        obtain ⟨o2, μ2, u1, u2, u3, u4⟩ := kc_run hi hS hN f (d + 1) _ _ _ cu N D ov hk e _ w11 (by omega) (by omega) t1 (p2.ag f _ _ _ _ _ w11 (by omega) hag) (by omega) (by omega)
        rw [u1, Option.bind_some]
        obtain ⟨h3, μ3, n1, n2, n3, n4, n5⟩ := u3.note (kd := 10) (v := k) (x1 := 10) hi (by omega) rfl (by decide) rfl (by omega)
        rw [n1, n2, Option.bind_some, Option.bind_some, n3.1.np6 hi (by omega), Option.bind_some, w9]
        have ffin : FrM nd its i (j + 1) (j + 1) (Bs p j (k + 1)) μ μ3 := (g5.mono (Nat.le_refl _) (Nat.le_refl _) (by omega)).trans ((t2.mono (by omega) (by omega) (by omega)).trans ((u4.mono (by omega) (by omega) (Nat.le_refl _)).trans (n5 _ _ _).2.2))
        obtain ⟨o1, ov1, h1, μ1, y1, y2, y3, y4, y5, y6, y7, y8⟩ := ih (k + 1) nx nm (BB + 1) (up ok 19 (Bs p j k) 6) o2 h3 μ3 (by omega) (by omega) (by omega) (by omega)
          (fun c' x hx => by rw [up_other (by omega)]; exact g1 c' x (by omega))
          (fun k' hk' => by
            by_cases z : k' = k
            · subst z; rw [up_at, if_pos q]
            · have := mono (k' + 1) k (by omega) (by omega)
              have := (c11 k' (by omega)).2.2.2.1
              rw [up_other (by omega)]; exact g2 k' (by omega))
          (g3.app u2 (by omega) (by omega)) n3 ffin
          (fun k' hk' => by
            by_cases z : k' = k
            · subst z
              rw [up_at]
              rw [(n5 0 0 0).2.2.2.2.2 _ (by omega) w6 (by omega) 0 (by omega), u4.2.2.2 _ (by omega) w6 (by omega) 0 (by omega)]
              exact up_at
            · obtain ⟨v1, v2, v3, v4, v5, v6, _⟩ := c11 k' (by omega)
              have := mono (k' + 1) k (by omega) (by omega)
              rw [up_other (by omega), (n5 0 0 0).2.2.2.2.2 _ (by omega) v6 (by omega) 0 (by omega), u4.2.2.2 _ (by omega) v6 (by omega) 0 (by omega), t2.2.2.2 _ (by omega) v6 (by omega) 0 (by omega)]
              exact g6 k' (by omega))
        exact ⟨o1, ov1, h1, μ1, y1, y2, y3, y4, y5, by rw [show BB + (r + 1) = BB + 1 + r by omega]; exact y6, y7, y8⟩
      · exfalso
        rw [s2, q] at p1
        exact p1 rfl
    · rw [if_neg q, if_neg q, g4.1.np6 hi (by omega), Option.bind_some, w9]
      rcases pb k (by omega) w2 with ⟨p1, cu, p2⟩ | ⟨p1, p2, p3⟩
      · exfalso
        rw [s2] at p1
        rcases s1 with z | z | z
        · exact q z
        · rw [z] at p1; exact absurd p1 (by decide)
        · rw [z] at p1; exact absurd p1 (by decide)
      · obtain ⟨o1, ov1, h1, μ1, y1, y2, y3, y4, y5, y6, y7, y8⟩ := ih (k + 1) nx nm BB ok ov hk μk (by omega) (by omega) (by omega) (by omega)
          (fun c' x hx => g1 c' x (by omega))
          (fun k' hk' => by
            by_cases z : k' = k
            · subst z; rw [eo19, if_neg q]
            · exact g2 k' (by omega))
          (g3.app (Kx.qt (fun x x1 x2 => by rw [g3.1 18 x (by omega)]; exact p3 x x1 x2)) (by omega) (by omega)) g4 (g5.mono (Nat.le_refl _) (Nat.le_refl _) (by omega))
          (fun k' hk' => by
            by_cases z : k' = k
            · subst z; rw [eo19, eF 0 (by omega)]; exact s2
            · exact g6 k' (by omega))
        refine ⟨o1, ov1, h1, μ1, y1, y2, y3, y4, y5, ?_, y7, y8⟩
        obtain ⟨E, z1, z2⟩ := y6.2.2.2.1
        exact ⟨y6.1, y6.2.1, y6.2.2.1, ⟨E, z1, by omega⟩, y6.2.2.2.2⟩
theorem R.weak (H : R p nd sv i V its rl B o h e μ) (hB : B ≤ B') : R p nd sv i V its rl B' o h e μ := by
  obtain ⟨E, z1, z2⟩ := H.2.2.2.1
  exact ⟨H.1, H.2.1, H.2.2.1, ⟨E, z1, by omega⟩, H.2.2.2.2⟩
/-- all bodies that run are cancelled -/
theorem cb_sim {f d bn j be : Nat} (hi : i < 6) (hS : ST p nd sv its) (hN : 60 ≤ N) (hD : 9 ≤ D) (hc : Ch p nd sv (f + 1) d bn j be) (hb : be ≤ its) (h5 : p 7 j = 5) (hB : B < 3700) (H : R p nd sv i V its rl B o h e μ)
    (pb : ∀ k, k < 4 → p 15 (4 * j + k) ≠ -1 → PBd p nd i o μ f j k) (hst : ∀ k, k < 4 → p 15 (4 * j + k) ≠ -1 → (o 19 (Bs p j k) = 1 ∨ o 19 (Bs p j k) = 4 ∨ o 19 (Bs p j k) = 5) ∧ Fm μ i (nd (Bs p j k) - 1) 0 = mS (o 19 (Bs p j k))) :
    ∃ o' h' μ', in_cancelBodies N rl p e (nI j) o h = some (o', h') ∧ md_cancelsBodies N D (nI i) (nI (nd j)) μ = some μ' ∧ R p nd sv i V its rl (B + 4) o' h' e μ' ∧
      (∀ c' x, ¬ ((c' = 18 ∨ c' = 19) ∧ j + 1 ≤ x ∧ x < En p j) → o' c' x = o c' x) ∧ Qt o' (j + 1) (En p j) ∧ (∀ k, k < 4 → p 15 (4 * j + k) ≠ -1 → o' 19 (Bs p j k) = (if o 19 (Bs p j k) = 1 then 6 else o 19 (Bs p j k)) ∧ Fm μ' i (nd (Bs p j k) - 1) 0 = mS (o' 19 (Bs p j k))) ∧ FrM nd its i (j + 1) (j + 1) (En p j) μ μ' := by
  have hn := hS.1
  have hits := hn.2.1
  have hjl := hc.lt
  have hl : ¬ Lf (p 7 j) := by rw [h5]; unfold Lf; decide
  obtain ⟨nb, c1, c2, c3, c4, c5, c6, c7, c8, c9, c10, c11⟩ := hc.cont (by omega) hl
  have hjm : j + 1 ≤ En p j := by
    obtain ⟨_, _, w3, w4, w5, _⟩ := c11 0 (by omega)
    omega
  obtain ⟨o1, ov1, h1, μ1, y1, y2, y3, y4, y5, y6, y7, y8⟩ := cb_loop (e := e) hi hS hN hD hc hb h5 c5 c2 c8 c10 c11 c9 pb hst nb 0 N N B o o h μ (by omega) (by omega) (by omega) (by omega) (fun _ _ _ => rfl) (fun k' hk' => by omega) (by rw [c7]; exact ⟨fun _ _ _ => rfl, fun x x1 x2 => by omega⟩) H FrM.refl (fun k' hk' => by omega)
  rw [if_pos (by omega), ← c6] at y2
  obtain ⟨o2, z1, z2⟩ := cancel_ev (N := N) (o := o1) (a := j + 1) (c := En p j) (by omega) (by omega) hjm
  have e18 : ∀ x, o2 18 x = ov1 18 x := fun x => by
    by_cases q : j + 1 ≤ x ∧ x < En p j
    · have a := z2.2 x q.1 q.2
      have b := y5.2 x q.1 q.2
      rw [y3 18 x (by omega)] at a
      by_cases w : Gi (o 18 x)
      · rw [a.1 w, b.1 w]
      · rw [a.2 w, b.2 w]
    · rw [z2.1 18 x (by omega), y3 18 x (by omega), y5.1 18 x (by omega)]
  have hmain : ∀ c x, c ≠ 19 → c ≠ 20 → o2 c x = ov1 c x := fun c x q1 q2 => by
    by_cases q : c = 18
    · subst q; exact e18 x
    · rw [z2.1 c x (by omega), y3 c x (by omega), y5.1 c x (by omega)]
  refine ⟨o2, h1, μ1, ?_, ?_, ((y6.c19 hmain).weak (by omega)), fun c' x hx => ?_, z2.qt', fun k hk hp => ?_, y7⟩
  · unfold in_cancelBodies
    rw [show (0 : Int32) = nI 0 from rfl, y1, nI_1, z1]
    rfl
  · unfold md_cancelsBodies
    rw [H.1.np5 hi (hn.l64 (by omega)), Option.bind_some]
    exact y2
  · rw [z2.1 c' x (by omega), y3 c' x (by omega)]
  · have hkn : k < nb := Nat.not_le.mp (fun w => hp (c10 k w hk))
    have e19 : o2 19 (Bs p j k) = o1 19 (Bs p j k) := z2.1 19 _ (by omega)
    exact ⟨e19.trans (y4 k hkn), by rw [e19]; exact y8 k hkn⟩
end RP
