/-! what the reference cancels -/
section RY
variable {p : Mem} {nd : Nat → Nat} {sv : Nat → Nat → Int32} {i V its rl B B' N : Nat} {o h e μ o' h' e' μ' : Mem}
theorem c33_end {n : Nat} {Bf : Int32 → Int32 → Mem → Option Mem} {x : Int32} (hn : 0 < n) : md_cancels_33 N Bf n x (-1) μ = some μ := by
  obtain ⟨n, rfl⟩ : ∃ k, n = k + 1 := ⟨n - 1, by omega⟩
  unfold md_cancels_33
  rw [if_pos (by decide)]
theorem c33_go {n m : Nat} {Bf : Int32 → Int32 → Mem → Option Mem} {s : Int32} (hi : i < 6) (hm : m < 64) (hs : Fm μ i m 0 = s) (h15 : s = 1 ∨ s = 5) :
    md_cancels_33 N Bf (n + 1) (nI i) (nI m) μ = (Bf (nI i) (nI m) μ).bind fun μ65 => (md_nodePart μ65 (nI i) (nI m) 6).bind fun k73 => md_cancels_33 N Bf n (nI i) k73 μ65 := by
  conv => lhs; unfold md_cancels_33
  rw [if_neg (nI_pos (by omega)), at_0, Option.bind_some, rd_nI (by omega) (by decide), Option.bind_some, show μ 5 (643 + 1262 * i + 10 * m + 0) = s from hs]
  unfold md_cancels_62 md_cancels_68
  rcases h15 with q | q
  · rw [if_pos q]
  · rw [if_neg (by rw [q]; decide), if_pos q]
theorem c33_skip {n m : Nat} {Bf : Int32 → Int32 → Mem → Option Mem} {s : Int32} (hi : i < 6) (hm : m < 64) (hs : Fm μ i m 0 = s) (h1 : s ≠ 1) (h5 : s ≠ 5) :
    md_cancels_33 N Bf (n + 1) (nI i) (nI m) μ = (md_nodePart μ (nI i) (nI m) 6).bind fun k73 => md_cancels_33 N Bf n (nI i) k73 μ := by
  conv => lhs; unfold md_cancels_33
  rw [if_neg (nI_pos (by omega)), at_0, Option.bind_some, rd_nI (by omega) (by decide), Option.bind_some, show μ 5 (643 + 1262 * i + 10 * m + 0) = s from hs, if_neg h1, if_neg h5]
  unfold md_cancels_68
  rfl
theorem kc_idle {Bf : Int32 → Int32 → Mem → Option Mem} (hi : i < 6) (hn : NdS nd its) (hV : Vr i V sv μ) : ∀ (f d bn j be n : Nat), Ch p nd sv f d bn j be → be ≤ its → (∀ k, j ≤ k → k < be → Fm μ i (nd k) 0 = 0) → its + 2 ≤ n + j → md_cancels_33 N Bf n (nI i) (nI (nd j)) μ = some μ
  | 0, d, bn, j, be, n, h, _, _, _ => h.elim
  | f + 1, d, bn, j, be, n, h, hb, hz, hnj => by
    have hjl := h.lt
    have hits := hn.2.1
    obtain ⟨m, nb, h1, h2, h3, h4, h5, h6⟩ := h
    have h64 := hn.l64 (a := j) (by omega)
    obtain ⟨n, rfl⟩ : ∃ k, n = k + 1 := ⟨n - 1, by omega⟩
    rw [c33_skip hi h64 (hz j (Nat.le_refl _) hjl) (by decide) (by decide), hV.np6 hi h64, Option.bind_some]
    rcases h5 with ⟨r1, r2, r3⟩ | ⟨r1, r2, r3, r4⟩
    · rw [r3]; exact c33_end (by omega)
    · rw [r3]; exact kc_idle hi hn hV f d bn m be n r4 hb (fun k k1 k2 => hz k (by omega) k2) (by omega)
theorem cancels_ev {m nB : Nat} (hi : i < 6) (hm : m < 64) : md_cancels N (kn_mcancel N nB) (nI i) (nI m) μ = (md_nodePart (up (up μ 5 (643 + 1262 * i + 10 * m + 0) 4) 5 (643 + 1262 * i + 10 * m + 7) (-1)) (nI i) (nI m) 5).bind fun k29 => md_cancels_33 N (kn_mcancel N nB) N (nI i) k29 (up (up μ 5 (643 + 1262 * i + 10 * m + 0) 4) 5 (643 + 1262 * i + 10 * m + 7) (-1)) := by
  unfold md_cancels
  rw [at_0, Option.bind_some, ck_nI (by omega) (by decide), at_7, Option.bind_some, ck_nI (by omega) (by decide), nI_clamp (by omega), nI_clamp (by omega)]
theorem kc_succ {nB : Nat} {x y : Int32} : kn_mcancel N (nB + 1) x y μ = md_cancels N (kn_mcancel N nB) x y μ := rfl
/-- a body's state, and what is in it -/
def PBd (p : Mem) (nd : Nat → Nat) (i : Nat) (o μ : Mem) (f j k : Nat) : Prop :=
  (Fm μ i (nd (Bs p j k) - 1) 0 = 1 ∧ ∃ cu : Nat, RunC p nd i o μ f (Bs p j k) (Bs p j (k + 1)) cu) ∨ (Fm μ i (nd (Bs p j k) - 1) 0 ≠ 1 ∧ Fm μ i (nd (Bs p j k) - 1) 0 ≠ 5 ∧ Qt o (Bs p j k) (Bs p j (k + 1)))
theorem GoI.pbd {f d bn j be : Nat} (hc : Ch p nd sv (f + 1) d bn j be) (hb : be ≤ 24) (hl : ¬ Lf (p 7 j)) (h : GoI p nd i o μ (RunC p nd i o μ f) j (En p j)) : ∀ k, k < 4 → p 15 (4 * j + k) ≠ -1 → PBd p nd i o μ f j k := by
  intro k hk hp
  obtain ⟨b1, b2, b3, b4, b5, b6⟩ := hc.body hb hk hp hl
  rcases h with q | ⟨q0, q1, k0, q2, q3, q4, q5, q6, cu, q7, q8⟩ | ⟨q0, q1, q2, q3⟩
  · exact absurd q hl
  · obtain ⟨c1, c2⟩ := hc.choice q0
    have hk2 : k < 2 := Nat.not_le.mp (fun z => hp (c2 k z hk))
    by_cases z : k = k0
    · subst z; exact Or.inl ⟨q6, cu, q8⟩
    · have e1 : 1 - k0 = k := by omega
      have e2 : 2 - k0 = k + 1 := by omega
      rw [e1, e2] at q4
      have := (q4 (Bs p j k) (Nat.le_refl _) b2).2.2 b6
      exact Or.inr ⟨by rw [this]; decide, by rw [this]; decide, q4.qt⟩
  · obtain ⟨r1, r2⟩ := q3 k hk hp
    rcases r2 with ⟨s1, s2, cu, s3, s4⟩ | ⟨s1, s2, s3⟩ | ⟨s1, s2⟩
    · exact Or.inl ⟨by rw [r1, s2]; rfl, cu, s4⟩
    · refine Or.inr ⟨?_, ?_, s3⟩ <;> rw [r1] <;> rcases s2 with z | z <;> rw [z] <;> decide
    · refine Or.inr ⟨?_, ?_, (q2 s1).1.sub (by omega) (by omega)⟩ <;> rw [r1] <;> rcases s2 with z | z | z <;> rw [z] <;> decide
theorem kc_run (hi : i < 6) (hS : ST p nd sv its) (hN : 60 ≤ N) : ∀ (f d bn j be cur n nB : Nat) (o h e μ : Mem), Ch p nd sv f d bn j be → be ≤ its → d ≤ 4 → R p nd sv i V its rl B o h e μ → RunC p nd i o μ f j be cur → its + 2 ≤ n + j → 9 ≤ nB + 2 * d →
    ∃ o' μ', md_cancels_33 N (kn_mcancel N nB) n (nI i) (nI (nd j)) μ = some μ' ∧ Kx o o' j be ∧ R p nd sv i V its rl B o' h e μ' ∧ FrM nd its i j (j + 1) be μ μ'
  | 0, d, bn, j, be, cur, n, nB, o, h, e, μ, hc, _, _, _, _, _, _ => hc.elim
  | f + 1, d, bn, j, be, cur, n, nB, o, h, e, μ, hc, hb, hd, H, hr, hnj, hnB => by
    have hn := hS.1
    have hits := hn.2.1
    have hjl := hc.lt
    have hch := hc
    obtain ⟨m, nb, h1, h2, h3, h4, h5, h6⟩ := hc
    have he : En p j = m := En_eq h3 (by omega)
    have hj : j < its := by omega
    have h64 := hn.l64 hj
    have hir := H.2.2.2.2.2.1 j hj
    obtain ⟨n, rfl⟩ : ∃ k, n = k + 1 := ⟨n - 1, by omega⟩
    rcases hr with ⟨q1, q2, q3, q4⟩ | ⟨q1, q2, q3, q4⟩
    · -- the item that goes on
      obtain ⟨nB, rfl⟩ : ∃ k, nB = k + 1 := ⟨nB - 1, by omega⟩
      have h15 : mS (o 18 j) = 1 ∨ mS (o 18 j) = 5 := by
        rcases q2 with z | z | z <;> rw [z]
        · exact Or.inl rfl
        · exact Or.inl rfl
        · exact Or.inr rfl
      obtain ⟨r1, r2⟩ := H.cxl hi hn hj q2
      have k1 : Kx o (up o 18 j 6) j (j + 1) := ⟨fun c' k hk => up_other (by omega), fun k x1 x2 => by
        have : k = j := by omega
        subst this
        exact ⟨fun _ => up_at, fun w => absurd q2 w⟩⟩
      -- what is in it
      have inner : ∃ o1 μ1, md_cancels N (kn_mcancel N nB) (nI i) (nI (nd j)) μ = some μ1 ∧ Kx (up o 18 j 6) o1 (j + 1) m ∧ R p nd sv i V its rl B o1 h e μ1 ∧ FrM nd its i j (j + 1) m μ μ1 := by
        rw [cancels_ev hi h64, r1.1.np5 hi h64, Option.bind_some]
        by_cases hl : Lf (p 7 j)
        · have hf : m = j + 1 ∧ sv (nd j) 5 = -1 := by
            rcases h6 with ⟨_, w⟩ | ⟨w, _⟩
            · exact w
            · rcases w with w | w <;> rw [w.1] at hl <;> (exfalso; unfold Lf at hl; revert hl; decide)
          rw [hf.2, c33_end (by omega)]
          refine ⟨_, _, rfl, ?_, r1, r2.2.2.mono (Nat.le_refl _) (Nat.le_refl _) (by omega)⟩
          rw [hf.1]
          exact ⟨fun _ _ _ => rfl, fun k x1 x2 => by omega⟩
        · obtain ⟨nb, c1, c2, c3, c4, c5, c6, c7, c8, c9, c10, c11⟩ := hch.cont (by omega) hl
          rw [he] at c8 c9
          have pb := q4.pbd hch (by omega) hl
          obtain ⟨nB, rfl⟩ : ∃ k, nB = k + 1 := ⟨nB - 1, by omega⟩
          -- the bodies, from k on
          have loop : ∀ (r k n : Nat) (ok μk : Mem), k + r = nb → r < n → Kx (up o 18 j 6) ok (j + 1) (Bs p j k) → R p nd sv i V its rl B ok h e μk → FrM nd its i (j + 1) (j + 1) (Bs p j k) (up (up μ 5 (643 + 1262 * i + 10 * nd j + 0) 4) 5 (643 + 1262 * i + 10 * nd j + 7) (-1)) μk →
              ∃ o1 μ1, md_cancels_33 N (kn_mcancel N (nB + 1)) n (nI i) (if k < nb then nI (nd (Bs p j k) - 1) else -1) μk = some μ1 ∧ Kx (up o 18 j 6) o1 (j + 1) m ∧ R p nd sv i V its rl B o1 h e μ1 ∧ FrM nd its i (j + 1) (j + 1) m (up (up μ 5 (643 + 1262 * i + 10 * nd j + 0) 4) 5 (643 + 1262 * i + 10 * nd j + 7) (-1)) μ1 := by
            intro r
            induction r with
            | zero =>
              intro k n ok μk hk hrn hkx hR hF
              have hkn : k = nb := by omega
              subst hkn
              rw [if_neg (by omega), c33_end (by omega)]
              rw [c8] at hkx hF
              exact ⟨ok, μk, rfl, hkx, hR, hF⟩
            | succ r ih =>
              intro k n ok μk hk hrn hkx hR hF
              obtain ⟨n, rfl⟩ : ∃ k, n = k + 1 := ⟨n - 1, by omega⟩
              obtain ⟨w1, w2, w3, w4, w5, w6, w7, w8, w9, w10, w11⟩ := c11 k (by omega)
              rw [he] at w5
              have hB64 := hn.l64 (a := Bs p j k) (by omega)
              have hBp := hn.pos (a := Bs p j k) (by omega)
              have eF : ∀ x, x < 10 → Fm μk i (nd (Bs p j k) - 1) x = Fm μ i (nd (Bs p j k) - 1) x := fun x hx => by
                rw [hF.2.2.2 _ (by omega) w6 (by omega) x hx]
                exact r2.2.2.2.2.2 _ (by omega) w6 (by omega) x hx
              have hk1n : ∀ {ox μx : Mem}, Kx (up o 18 j 6) ox (j + 1) (Bs p j (k + 1)) → R p nd sv i V its rl B ox h e μx → FrM nd its i (j + 1) (j + 1) (Bs p j (k + 1)) (up (up μ 5 (643 + 1262 * i + 10 * nd j + 0) 4) 5 (643 + 1262 * i + 10 * nd j + 7) (-1)) μx → ∃ o1 μ1, ((md_nodePart μx (nI i) (nI (nd (Bs p j k) - 1)) 6).bind fun k73 => md_cancels_33 N (kn_mcancel N (nB + 1)) n (nI i) k73 μx) = some μ1 ∧ Kx (up o 18 j 6) o1 (j + 1) m ∧ R p nd sv i V its rl B o1 h e μ1 ∧ FrM nd its i (j + 1) (j + 1) m (up (up μ 5 (643 + 1262 * i + 10 * nd j + 0) 4) 5 (643 + 1262 * i + 10 * nd j + 7) (-1)) μ1 := fun a1 a2 a3 => by
                rw [a2.1.np6 hi (by omega), Option.bind_some, w9]
                exact ih (k + 1) n _ _ (by omega) (by omega) a1 a2 a3
              rw [if_pos (by omega)]
              rcases pb k (by omega) w2 with ⟨p1, cu, p2⟩ | ⟨p1, p2, p3⟩
              · rw [c33_go hi (by omega) ((eF 0 (by omega)).trans p1) (Or.inl rfl), kc_succ, cancels_ev hi (by omega)]
                obtain ⟨s1, s2⟩ := hR.bnode (x := 4) hi hn (b := Bs p j k) (by omega) w6
                have e7 : (up μk 5 (643 + 1262 * i + 10 * (nd (Bs p j k) - 1) + 0) 4) 5 (643 + 1262 * i + 10 * (nd (Bs p j k) - 1) + 7) = -1 := s1.2.2.2.2.2.2.2 _ (by omega) w6 (by omega)
                rw [up_self e7, s1.1.np5 hi (by omega), Option.bind_some, w8]
                have hag : Ag nd i (Bs p j k) (Bs p j k + 1) (Bs p j (k + 1)) o μ ok (up μk 5 (643 + 1262 * i + 10 * (nd (Bs p j k) - 1) + 0) 4) := by
                  refine ⟨fun x x1 x2 => ⟨?_, ?_, ?_, ?_, fun y hy => ?_⟩, fun x x1 x2 => ⟨?_, ?_, fun hs y hy => ?_⟩⟩
                  · rw [hkx.1 18 x (by omega), up_other (by omega)]
                  · rw [hkx.1 22 x (by omega), up_other (by omega)]
                  · rw [hkx.1 23 x (by omega), up_other (by omega)]
                  · rw [hkx.1 24 x (by omega), up_other (by omega)]
                  · rw [s2.2.2.1 x (by omega) (by omega) y hy, hF.2.2.1 x (by omega) (by omega) y hy]
                    exact r2.2.2.2.2.1 x (by omega) (by omega) y hy
                  · rw [hkx.1 19 x (by omega), up_other (by omega)]
                  · rw [hkx.1 20 x (by omega), up_other (by omega)]
                  · rw [s2.2.2.2 x (by omega) hs (by omega) y hy, hF.2.2.2 x (by omega) hs (by omega) y hy]
                    exact r2.2.2.2.2.2 x (by omega) hs (by omega) y hy
                obtain ⟨o2, μ2, t1, t2, t3, t4⟩ := kc_run hi hS hN f (d + 1) _ _ _ cu N nB ok h e _ w11 (by omega) (by omega) s1 (p2.ag f _ _ _ _ _ w11 (by omega) hag) (by omega) (by omega)
                rw [t1, Option.bind_some]
                exact hk1n (hkx.app t2 (by omega) (by omega)) t3 (hF.mono (Nat.le_refl _) (Nat.le_refl _) (by omega) |>.trans ((s2.mono (by omega) (by omega) (by omega)).trans (t4.mono (by omega) (by omega) (Nat.le_refl _))))
              · rw [c33_skip hi (by omega) (eF 0 (by omega)) p1 p2]
                exact hk1n (hkx.app (Kx.qt (fun x x1 x2 => by rw [hkx.1 18 x (by omega), up_other (by omega)]; exact p3 x x1 x2)) (by omega) (by omega)) hR (hF.mono (Nat.le_refl _) (Nat.le_refl _) (by omega))
          have l0 := loop nb 0 N (up o 18 j 6) (up (up μ 5 (643 + 1262 * i + 10 * nd j + 0) 4) 5 (643 + 1262 * i + 10 * nd j + 7) (-1)) (by omega) (by omega) (by rw [c7]; exact ⟨fun _ _ _ => rfl, fun k x1 x2 => by omega⟩) r1 FrM.refl
          rw [if_pos (by omega), ← c6] at l0
          obtain ⟨o1, μ1, t1, t2, t3, t4⟩ := l0
          exact ⟨o1, μ1, t1, t2, t3, (r2.2.2.mono (Nat.le_refl _) (Nat.le_refl _) (by omega)).trans (t4.mono (by omega) (Nat.le_refl _) (Nat.le_refl _))⟩
      obtain ⟨o1, μ1, t1, t2, t3, t4⟩ := inner
      rw [he] at q3
      have hz : ∀ k, m ≤ k → k < be → Fm μ1 i (nd k) 0 = 0 := fun k x1 x2 => by
        rw [t4.2.2.1 k (by omega) (by omega) 0 (by omega), (H.2.2.2.2.2.1 k (by omega)).1, (q3 k x1 x2).1]; rfl
      have kfin : Kx o o1 j be := (k1.app t2 (by omega) (by omega)).app (Kx.qt (fun k x1 x2 => by
        rw [t2.1 18 k (by omega), up_other (by omega), (q3 k x1 x2).1]; exact nGi0)) (by omega) h2
      refine ⟨o1, μ1, ?_, kfin, t3, t4.mono (Nat.le_refl _) (Nat.le_refl _) h2⟩
      rw [c33_go hi h64 hir.1 h15, kc_succ, t1, Option.bind_some, t3.1.np6 hi h64, Option.bind_some]
      rcases h5 with ⟨z1, z2, z3⟩ | ⟨z1, z2, z3, z4⟩
      · rw [z3]; exact c33_end (by omega)
      · rw [z3]; exact kc_idle hi hn t3.1 f d bn m be n z4 hb hz (by omega)
    · -- an item that is done
      have hs2 : mS (o 18 j) = 2 := by rcases q1 with z | z | z <;> rw [z] <;> rfl
      rw [he] at q2 q3 q4
      rw [c33_skip hi h64 hir.1 (by rw [hs2]; decide) (by rw [hs2]; decide), H.1.np6 hi h64, Option.bind_some]
      rcases h5 with ⟨z1, z2, z3⟩ | ⟨z1, z2, z3, z4⟩
      · omega
      · rw [z3]
        obtain ⟨o', μ', t1, t2, t3, t4⟩ := kc_run hi hS hN f d bn m be cur n nB o h e μ z4 hb hd H q4 (by omega) hnB
        exact ⟨o', μ', t1, (Kx.qt q2).app t2 (by omega) (by omega), t3, t4.mono (by omega) (by omega) (Nat.le_refl _)⟩
end RY
