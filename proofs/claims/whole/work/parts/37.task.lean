/-! tasks -/
theorem shl_am {am a : Nat} (h1 : 1 ≤ a) (h2 : a ≤ 9) (h : am ≤ 999) : nI am <<< ((nI a - 1) &&& 31) = nI (am * 2 ^ (a - 1)) ∧ (1 : Int32) <<< ((nI a - 1) &&& 31) = nI (2 ^ (a - 1)) := by
  have hc : a = 1 ∨ a = 2 ∨ a = 3 ∨ a = 4 ∨ a = 5 ∨ a = 6 ∨ a = 7 ∨ a = 8 ∨ a = 9 := by omega
  rcases hc with q | q | q | q | q | q | q | q | q <;> subst q <;> exact ⟨pk_shlN _ _ (by decide) (by omega), by decide⟩
section RT
variable {p : Mem} {nd : Nat → Nat} {sv : Nat → Nat → Int32} {i V its rl B B' : Nat} {o h e μ o' h' e' μ' : Mem}
theorem tries_ev {n c : Nat} {μ12 : Mem} (hV : Vr i V sv μ) (hi : i < 6) (hn : n < 64) (hc : c < 8) (h1 : sv n 1 = nI c) (h2 : md_notes (nI i) 0 (nI c) μ = some μ12) :
    md_tries (nI i) (nI n) μ = some (up (up μ12 5 (643 + 1262 * i + 10 * n + 2) (Fm μ12 i n 2 + 1)) 5 (643 + 1262 * i + 10 * n + 3) (μ12 5 0 + μ12 5 (1 + c))) := by
  unfold md_tries
  rw [hV.np1 hi hn, Option.bind_some, h1, h2, Option.bind_some, at_2, Option.bind_some, rd_nI (by omega) (by decide), Option.bind_some, ck_nI (by omega) (by decide), at_3, Option.bind_some, rd70, Option.bind_some, add1_nI, rd_nI (by omega) (by decide), Option.bind_some, ck_nI (by omega) (by decide), nI_clamp (by omega), nI_clamp (by omega), up_in (by omega), up_in (by omega)]
theorem beginAttempt_ev {j c : Nat} (hj : j < 24) (hc : c < 8) (h1 : p 9 j = nI c) (h2 : hi_add rl e 0 (nI c) h = some h') :
    in_beginAttempt rl p e (nI j) o h = some (up (up (up o 18 j 1) 23 j (o 23 j + 1)) 22 j (e 1 2 + e 2 c), h') := by
  unfold in_beginAttempt
  rw [rd_nI hj (by decide), Option.bind_some, ck_nI hj (by decide), rd_nI (by omega) (by decide), Option.bind_some, ck_nI (by omega) (by decide), h1, ends_eval hc, Option.bind_some, ck_nI (by omega) (by decide), h2, Option.bind_some, nI_clamp (by omega)]
theorem R.done {j c : Nat} {a : Nat} (H : R p nd sv i V its rl B o h e μ) (hi : i < 6) (hn : NdS nd its) (hj : j < its) (hk : p 7 j = 0) (h1 : o 18 j = 1) (ha : o 23 j = nI a) (ha2 : a ≤ 10) :
    ∃ dn : Nat, dn < 24 ∧ o 0 6 = nI dn ∧ μ 5 (21 + 1262 * i + 6) = nI dn ∧
      R p nd sv i V its rl (B - 1) (up (up (up o 18 j 4) 21 dn (nI j)) 0 6 (nI (dn + 1))) h e (up (up (up μ 5 (21 + 1262 * i + 6) (nI (dn + 1))) 5 (643 + 1262 * i + 10 * nd j + 5) (nI (dn + 1))) 5 (643 + 1262 * i + 10 * nd j + 0) 2) ∧
      Fr nd its i j (j + 1) (j + 1) o e μ (up (up (up o 18 j 4) 21 dn (nI j)) 0 6 (nI (dn + 1))) e (up (up (up μ 5 (21 + 1262 * i + 6) (nI (dn + 1))) 5 (643 + 1262 * i + 10 * nd j + 5) (nI (dn + 1))) 5 (643 + 1262 * i + 10 * nd j + 0) 2) := by
  have h64 := hn.l64 hj
  have hj24 : j < 24 := by have := hn.2.1; omega
  obtain ⟨dn, d1, d2, d3, d4⟩ := H.2.2.2.2.1
  have hnd : ¬ Dn (o 18 j) := by rw [h1]; exact Gi_nDn Gi1
  have hdn : dn + 1 ≤ 24 := by
    refine pigeon 24 (dn + 1) (fun k => if k < dn then (o 21 k).toNatClampNeg else j) (fun k hk => ?_) (fun x y hx hy e => ?_)
    · show (if k < dn then (o 21 k).toNatClampNeg else j) < 24
      by_cases q : k < dn
      · rw [if_pos q]
        obtain ⟨j', q1, q2, _⟩ := d3 k q
        have := hn.2.1
        rw [q2, nI_clamp (by omega)]; omega
      · rw [if_neg q]; exact hj24
    · change (if x < dn then (o 21 x).toNatClampNeg else j) = (if y < dn then (o 21 y).toNatClampNeg else j) at e
      have hits := hn.2.1
      by_cases q : x < dn <;> by_cases w : y < dn
      · rw [if_pos q, if_pos w] at e
        obtain ⟨j1, q1, q2, _, _, q5⟩ := d3 x q
        obtain ⟨j2, w1, w2, _, _, w5⟩ := d3 y w
        rw [q2, w2, nI_clamp (by omega), nI_clamp (by omega)] at e
        subst e
        have := nI_inj (by omega) (by omega) (q5.symm.trans w5)
        omega
      · rw [if_pos q, if_neg w] at e
        obtain ⟨j1, q1, q2, _, q4, _⟩ := d3 x q
        rw [q2, nI_clamp (by omega)] at e
        subst e
        exact absurd q4 hnd
      · rw [if_neg q, if_pos w] at e
        obtain ⟨j1, q1, q2, _, q4, _⟩ := d3 y w
        rw [q2, nI_clamp (by omega)] at e
        subst e
        exact absurd q4 hnd
      · omega
  have hir := H.2.2.2.2.2.1 j hj
  have g7 := hir.g7 (by rw [h1]; decide)
  have g6 := hir.g6 (Or.inr (by rw [h1]; exact Gi1))
  have hF : Fr nd its i j (j + 1) (j + 1) o e μ (up (up (up o 18 j 4) 21 dn (nI j)) 0 6 (nI (dn + 1))) e (up (up (up μ 5 (21 + 1262 * i + 6) (nI (dn + 1))) 5 (643 + 1262 * i + 10 * nd j + 5) (nI (dn + 1))) 5 (643 + 1262 * i + 10 * nd j + 0) 2) := by
    refine Fr.one hn hj (fun k hk => ?_) (fun k hk => ?_) (fun k hk => ?_) (funext fun k => ?_) (funext fun k => ?_) (funext fun k => ?_) (fun w hw => ?_) (fun v _ => ?_) (fun _ _ => rfl) (fun r hr => ?_) (fun k q1 q2 q3 => ?_)
    · rw [up_other (by omega), up_other (by omega), up_other (by omega)]
    · rw [up_other (by omega), up_other (by omega), up_other (by omega)]
    · rw [up_other (by omega), up_other (by omega), up_other (by omega)]
    · rw [up_other (by omega), up_other (by omega), up_other (by omega)]
    · rw [up_other (by omega), up_other (by omega), up_other (by omega)]
    · rw [up_other (by omega), up_other (by omega), up_other (by omega)]
    · rw [up_other (by omega), up_other (by omega), up_other (by omega)]
    · rw [up_other (by omega), up_other (by omega), up_other (by omega)]
    · rw [up_row hr, up_row hr, up_row hr]
    · rw [up_in (by omega), up_in (by omega), up_in (by omega)]
  refine ⟨dn, by omega, d2, H.2.2.1.1.trans d2, H.item hi hj hF ?_ ?_ ?_ ?_ ?_, hF⟩
  · exact H.2.1.fr (fun k hk => by rw [up_in (by omega), up_in (by omega), up_in (by omega)])
  · obtain ⟨q1, q2, q3, q4, q5⟩ := H.2.2.1
    refine ⟨?_, ?_, ?_, fun v hv => ?_, fun v hv => ?_⟩
    · rw [up_in (by omega), up_in (by omega), up_at, up_at]
    · rw [up_in (by omega), up_in (by omega), up_in (by omega), up_other (by omega), up_other (by omega), up_other (by omega)]; exact q2
    · rw [up_in (by omega), up_in (by omega), up_in (by omega), up_other (by omega), up_other (by omega), up_other (by omega)]; exact q3
    · rw [up_in (by omega), up_in (by omega), up_in (by omega), up_other (by omega), up_other (by omega), up_other (by omega)]; exact q4 v hv
    · rw [up_in (by omega), up_in (by omega), up_in (by omega), up_other (by omega), up_other (by omega), up_other (by omega)]; exact q5 v hv
  · obtain ⟨E, q1, q2⟩ := H.2.2.2.1
    refine ⟨E, q1.fr (by rw [up_in (by omega), up_in (by omega), up_in (by omega)]) (fun k _ _ => by rw [up_in (by omega), up_in (by omega), up_in (by omega)]), ?_⟩
    unfold Pot at q2 ⊢
    have h2 := sm_upd (n := 24) (f := fun j => wt (o 18 j) (o 23 j) (o 24 j)) (g := fun k => wt ((up (up (up o 18 j 4) 21 dn (nI j)) 0 6 (nI (dn + 1))) 18 k) ((up (up (up o 18 j 4) 21 dn (nI j)) 0 6 (nI (dn + 1))) 23 k) ((up (up (up o 18 j 4) 21 dn (nI j)) 0 6 (nI (dn + 1))) 24 k)) hj24 (fun k _ hk => by
      show wt ((up (up (up o 18 j 4) 21 dn (nI j)) 0 6 (nI (dn + 1))) 18 k) ((up (up (up o 18 j 4) 21 dn (nI j)) 0 6 (nI (dn + 1))) 23 k) ((up (up (up o 18 j 4) 21 dn (nI j)) 0 6 (nI (dn + 1))) 24 k) = wt (o 18 k) (o 23 k) (o 24 k)
      rw [up_other (by omega), up_other (by omega), up_other (by omega), up_other (by omega), up_other (by omega), up_other (by omega), up_other (by omega), up_other (by omega), up_other (by omega)])
    have e1 : wt ((up (up (up o 18 j 4) 21 dn (nI j)) 0 6 (nI (dn + 1))) 18 j) ((up (up (up o 18 j 4) 21 dn (nI j)) 0 6 (nI (dn + 1))) 23 j) ((up (up (up o 18 j 4) 21 dn (nI j)) 0 6 (nI (dn + 1))) 24 j) = 4 := by
      rw [up_other (by omega), up_other (by omega), up_at, wt4]
    have e2 : wt (o 18 j) (o 23 j) (o 24 j) = 38 - 2 * a := by rw [h1, ha, wt1 (by omega)]
    have e3 : wW ((up (up (up o 18 j 4) 21 dn (nI j)) 0 6 (nI (dn + 1))) 0 3) ((up (up (up o 18 j 4) 21 dn (nI j)) 0 6 (nI (dn + 1))) 23 24) ((up (up (up o 18 j 4) 21 dn (nI j)) 0 6 (nI (dn + 1))) 24 24) = wW (o 0 3) (o 23 24) (o 24 24) := by
      rw [up_other (by omega), up_other (by omega), up_other (by omega), up_other (by omega), up_other (by omega), up_other (by omega), up_other (by omega), up_other (by omega), up_other (by omega)]
    rw [e3]
    rw [e1, e2] at h2
    omega
  · refine ⟨dn + 1, hdn, up_at, fun k hk2 => ?_, fun j' hj' hp hd => ?_⟩
    · by_cases q : k < dn
      · obtain ⟨j', w1, w2, w3, w4, w5⟩ := d3 k q
        have hne : j' ≠ j := fun z => by subst z; exact hnd w4
        have hne2 : nd j' ≠ nd j := fun z => hne (hn.inj w1 hj z)
        refine ⟨j', w1, by rw [up_other (by omega), up_other (by omega), up_other (by omega)]; exact w2, w3, by rw [up_other (by omega), up_other (by omega), up_other (by omega)]; exact w4, ?_⟩
        rw [show Fm (up (up (up μ 5 (21 + 1262 * i + 6) (nI (dn + 1))) 5 (643 + 1262 * i + 10 * nd j + 5) (nI (dn + 1))) 5 (643 + 1262 * i + 10 * nd j + 0) 2) i (nd j') 5 = Fm μ i (nd j') 5 from by
          show up _ _ _ _ _ _ = _
          rw [up_in (by omega), up_in (by omega), up_in (by omega)]]
        exact w5
      · have : k = dn := by omega
        subst this
        refine ⟨j, hj, by rw [up_other (by omega), up_at], hk, by rw [up_other (by omega), up_other (by omega), up_at]; exact Dn4, ?_⟩
        show up _ _ _ _ _ _ = _
        rw [up_in (by omega), up_at]
    · by_cases q : j' = j
      · subst q
        exact ⟨dn, by omega, by rw [up_other (by omega), up_at]⟩
      · rw [up_other (by omega), up_other (by omega), up_other (by omega)] at hd
        obtain ⟨k, w1, w2⟩ := d4 j' hj' hp hd
        exact ⟨k, by omega, by rw [up_other (by omega), up_other (by omega), up_other (by omega)]; exact w2⟩
  · unfold IR
    have e0 : Fm (up (up (up μ 5 (21 + 1262 * i + 6) (nI (dn + 1))) 5 (643 + 1262 * i + 10 * nd j + 5) (nI (dn + 1))) 5 (643 + 1262 * i + 10 * nd j + 0) 2) i (nd j) 0 = 2 := up_at
    have e6 : Fm (up (up (up μ 5 (21 + 1262 * i + 6) (nI (dn + 1))) 5 (643 + 1262 * i + 10 * nd j + 5) (nI (dn + 1))) 5 (643 + 1262 * i + 10 * nd j + 0) 2) i (nd j) 6 = 0 := by
      show up _ _ _ _ _ _ = _
      rw [up_in (by omega), up_in (by omega), up_in (by omega)]; exact g6
    have e7 : Fm (up (up (up μ 5 (21 + 1262 * i + 6) (nI (dn + 1))) 5 (643 + 1262 * i + 10 * nd j + 5) (nI (dn + 1))) 5 (643 + 1262 * i + 10 * nd j + 0) 2) i (nd j) 7 = -1 := by
      show up _ _ _ _ _ _ = _
      rw [up_in (by omega), up_in (by omega), up_in (by omega)]; exact g7
    have e18 : (up (up (up o 18 j 4) 21 dn (nI j)) 0 6 (nI (dn + 1))) 18 j = 4 := by rw [up_other (by omega), up_other (by omega), up_at]
    rw [e0, e6, e7, e18]
    exact ⟨rfl, ⟨4, by omega, rfl⟩, fun q => absurd q (by decide), fun _ => rfl, fun q => absurd q (by decide), fun _ _ => rfl, fun _ q => absurd q (by decide), fun _ q => absurd q (by decide), fun q => absurd q (by decide), fun q => absurd q (by decide), fun _ q => absurd q (by decide), fun _ q => absurd q (by decide), fun _ q => absurd q (by decide), fun q => absurd q (by decide), fun _ q => absurd q (by decide)⟩
theorem IR.mk2 {j : Nat} (h18 : o 18 j = 2) (hk : p 7 j = 0) (h0 : Fm μ i (nd j) 0 = 1) (h7 : Fm μ i (nd j) 7 = -1) (h6 : Fm μ i (nd j) 6 = 0)
    (ht : Fm μ i (nd j) 3 = -1 ∧ Fm μ i (nd j) 4 = o 22 j ∧ Fm μ i (nd j) 2 = o 23 j ∧ (∃ a : Nat, 1 ≤ a ∧ a ≤ 9 ∧ o 23 j = nI a) ∧ ∃ u : Nat, u < 1048576 ∧ o 22 j = nI u) : IR p nd i o μ j := by
  unfold IR
  rw [h18, hk]
  exact ⟨h0, ⟨2, by omega, rfl⟩, fun q => absurd q (by decide), fun _ => h7, fun q => absurd q (by decide), fun _ _ => h6, fun _ q => absurd q (by decide), fun _ _ => ht, fun _ => rfl, fun q => absurd q (by decide), fun q => absurd q (by decide), fun q => absurd q (by decide), fun _ q => absurd q (by decide), fun q => absurd q (by decide), fun q => absurd rfl q⟩
/-- the next attempt begins -/
theorem R.again {j c a : Nat} (H : R p nd sv i V its rl B o h e μ) (hB : B < 3800) (hi : i < 6) (hn : NdS nd its) (hj : j < its) (hs : SI p nd sv j) (hk : p 7 j = 0) (h1 : o 18 j = 2) (hc : c < 8) (hc1 : p 9 j = nI c) (hc2 : sv (nd j) 1 = nI c) (ha1 : 1 ≤ a) (ha2 : a ≤ 9) (ha : o 23 j = nI a) :
    ∃ o' h' μ', in_beginAttempt rl p e (nI j) o h = some (o', h') ∧ md_tries (nI i) (nI (nd j)) μ = some μ' ∧ R p nd sv i V its rl B o' h' e μ' ∧ Fr nd its i j (j + 1) (j + 1) o e μ o' e μ' ∧ o' 18 j = 1 ∧ o' 23 j = nI (a + 1) := by
  have h64 := hn.l64 hj
  have hj24 : j < 24 := by have := hn.2.1; omega
  have hir := H.2.2.2.2.2.1 j hj
  have g7 := hir.g7 (by rw [h1]; decide)
  have g6 := hir.g6 (Or.inr (by rw [h1]; exact Gi2))
  have g2 := (hir.2.2.2.2.2.2.2.1 hk h1).2.2.1
  have g0 := hir.1
  rw [h1] at g0
  obtain ⟨t, t1, t2, t3⟩ := H.t
  obtain ⟨d1, _, ⟨dd, d2, d3⟩, _⟩ := H.2.1.2.2 c hc
  obtain ⟨h', μ1, n1, n2, n3, n4, n5⟩ := H.note (kd := 0) (v := c) (x1 := 0) hi (by omega) rfl (by decide) rfl hc
  obtain ⟨E, E1, E2⟩ := n3.2.2.2.1
  have eF : ∀ w, Fm μ1 i (nd j) w = Fm μ i (nd j) w := fun w => n4.2 _ (by omega) (by omega)
  have et : μ1 5 0 + μ1 5 (1 + c) = nI (t + dd) := by rw [n4.2 0 (by omega) (by omega), n4.2 (1 + c) (by omega) (by omega), t3, d1, d2, nI_add]
  have eo : up (up (up o 18 j 1) 23 j (o 23 j + 1)) 22 j (e 1 2 + e 2 c) = up (up (up o 18 j 1) 23 j (nI (a + 1))) 22 j (nI (t + dd)) := by rw [ha, nI_1, t1, d2, nI_add]
  refine ⟨_, h', _, beginAttempt_ev hj24 hc hc1 n1, tries_ev H.1 hi h64 hc hc2 n2, ?_⟩
  rw [eF 2, g2, ha, nI_1, et, t1, d2, nI_add]
  obtain ⟨z1, z2⟩ := n3.node (B' := B) (x := 0) (o' := up (up (up o 18 j 1) 23 j (nI (a + 1))) 22 j (nI (t + dd))) (h' := h') (μ' := up (up μ1 5 (643 + 1262 * i + 10 * nd j + 2) (nI (a + 1))) 5 (643 + 1262 * i + 10 * nd j + 3) (nI (t + dd))) hi hn hj
    (fun c k q => by rw [up_other (by omega), up_other (by omega), up_other (by omega)]) (fun r hr => by rw [up_row hr, up_row hr]) (fun k q1 q2 q3 => by rw [up_in (by omega), up_in (by omega)]) E2
    (E1.fr (by rw [up_in (by omega), up_in (by omega)]) (fun k _ _ => by rw [up_in (by omega), up_in (by omega)]))
    (by rw [up_other (by omega), up_other (by omega), up_at, up_other (by omega), up_at, up_other (by omega), up_other (by omega), up_other (by omega), wt1 (by omega), h1, ha, wt2 (by omega)]; omega)
    (fun _ => by rw [up_other (by omega), up_other (by omega), up_at, h1]; exact ⟨fun q => absurd q (Gi_nDn Gi1), fun q => absurd q (Gi_nDn Gi2)⟩)
    (fun q => absurd q (by rw [h1]; exact Gi_nDn Gi2))
    (IR.mk1 (by rw [up_other (by omega), up_other (by omega), up_at])
      (by show up _ _ _ _ _ _ = _; rw [up_in (by omega), up_in (by omega)]; exact (eF 0).trans g0)
      (by show up _ _ _ _ _ _ = _; rw [up_in (by omega), up_in (by omega)]; exact (eF 7).trans g7)
      (by show up _ _ _ _ _ _ = _; rw [up_in (by omega), up_in (by omega)]; exact (eF 6).trans g6)
      (fun _ => ⟨by rw [up_at]; show up _ _ _ _ _ _ = _; rw [up_at], by rw [up_other (by omega), up_at]; show up _ _ _ _ _ _ = _; rw [up_in (by omega), up_at], ⟨a + 1, by omega, by omega, by rw [up_other (by omega), up_at]⟩, ⟨t + dd, by omega, by rw [up_at]⟩⟩)
      (fun q => absurd (hk.symm.trans q) (by decide)) (fun q => absurd (hk.symm.trans q) (by decide)) (fun q => by rcases q with q | q <;> exact absurd (hk.symm.trans q) (by decide)) (fun q => absurd hk q))
  exact ⟨z1, (n5 _ _ _).trans z2, by rw [up_other (by omega), up_other (by omega), up_at], by rw [up_other (by omega), up_at]⟩
theorem task_stop {N n y j : Nat} (hj : j < 24) (hg : ¬ Gi (o 18 j)) : in_lookAtTask_2 N rl p (n + 1) (nI j) (nI y) o h e = some (o, h, e) := by
  unfold in_lookAtTask_2
  by_cases q : nI y < 20
  · rw [if_pos q, goesOn_f hj hg]; rfl
  · rw [if_neg q]
end RT
theorem task_loop {p : Mem} {nd : Nat → Nat} {sv : Nat → Nat → Int32} {i V its rl B N j c : Nat} (hB : B < 3700) (hi : i < 6) (hn : NdS nd its) (hj : j < its) (hs : SI p nd sv j) (hk : p 7 j = 0) (hc : c < 8) (hc1 : p 9 j = nI c) (hc2 : sv (nd j) 1 = nI c) :
    ∀ (k n n' y : Nat) (o h e μ : Mem), R p nd sv i V its rl B o h e μ → ((o 18 j = 1 ∧ ∃ a : Nat, o 23 j = nI a ∧ 1 ≤ a ∧ a ≤ 10 ∧ 2 * (10 - a) + 1 ≤ k) ∨ (o 18 j = 2 ∧ ∃ a : Nat, o 23 j = nI a ∧ 1 ≤ a ∧ a ≤ 9 ∧ 2 * (10 - a) ≤ k)) → y + k ≤ 20 → k < n → k < n' →
      ∃ o' h' e' μ' r, in_lookAtTask_2 N rl p n (nI j) (nI y) o h e = some (o', h', e') ∧ md_looksAtTask_8 N n' (nI i) (nI (nd j)) (nI c) μ = some (r, μ') ∧ LfP p nd sv i V its rl B o e μ j o' h' e' μ' r
  | 0, n, n', y, o, h, e, μ, H, hst, hy, hkn, hkn' => by
    rcases hst with ⟨_, a, _, _, _, q⟩ | ⟨_, a, _, _, _, q⟩ <;> omega
  | k + 1, n, n', y, o, h, e, μ, H, hst, hy, hkn, hkn' => by
    have h64 := hn.l64 hj
    have hj24 : j < 24 := by have := hn.2.1; omega
    have hir := H.2.2.2.2.2.1 j hj
    obtain ⟨s0, _, ⟨g, hg, g1, g2⟩, am, ham, am1, am2⟩ := hs.k0 hk
    obtain ⟨t, t1, t2, t3⟩ := H.t
    obtain ⟨n, rfl⟩ : ∃ m, n = m + 1 := ⟨n - 1, by omega⟩
    obtain ⟨n', rfl⟩ : ∃ m, n' = m + 1 := ⟨n' - 1, by omega⟩
    have hy20 : nI y < 20 := nI_lt (b := 20) (by omega) (by decide)
    rcases hst with ⟨h1, a, ha, ha1, ha2, hak⟩ | ⟨h1, a, ha, ha1, ha2, hak⟩
    · obtain ⟨f3, f2, _, u, hu, hu2⟩ := hir.2.2.2.2.2.2.1 hk h1
      by_cases q : e 1 2 < o 22 j
      · refine ⟨o, h, e, μ, 1, ?_, ?_, H, Fr.refl, by rw [h1]; rfl, Or.inl ⟨by rw [h1]; exact Gi1, q, by rw [hk]; decide, fun w => absurd (hk.symm.trans w) (by decide)⟩⟩
        · unfold in_lookAtTask_2
          rw [if_pos hy20, goesOn_t hj24 (by rw [h1]; exact Gi1), Option.bind_some, if_pos rfl, rd_nI (by omega) (by decide), Option.bind_some, if_pos q]
        · unfold md_looksAtTask_8
          rw [at_3, Option.bind_some, rd_nI (by omega) (by decide), Option.bind_some, show μ 5 (643 + 1262 * i + 10 * nd j + 3) = o 22 j from f3, if_neg (by rw [hu2]; exact nI_pos (by omega)), rd70, Option.bind_some, H.2.1.1, if_pos q]
      · have hut : u ≤ t := by
          rw [t1, hu2, nI_ltI (by omega) (by omega)] at q; omega
        obtain ⟨b, e1, μ1, b1, b2, b3, b4, b5⟩ := H.fails hc
        have hXs : in_lookAtTask_2 N rl p (n + 1) (nI j) (nI y) o h e = (in_endAttempt rl p (nI j) o h e).bind fun (o53, h53, e53) => in_lookAtTask_2 N rl p n (nI j) (nI (y + 1)) o53 h53 e53 := by
          conv => lhs; unfold in_lookAtTask_2
          rw [if_pos hy20, goesOn_t hj24 (by rw [h1]; exact Gi1), Option.bind_some, if_pos rfl, rd_nI (by omega) (by decide), Option.bind_some, if_neg q, rd_nI hj24 (by decide), Option.bind_some, h1, if_neg (by decide), nI_1]
        have hMs : md_looksAtTask_8 N (n' + 1) (nI i) (nI (nd j)) (nI c) μ = if (!b) = true then
          ((md_notes (nI i) 1 (nI c) μ1).bind fun μ134 =>
          (rd 7593 (μ134 5) (nI (643 + 1262 * i + 10 * nd j + 2))).bind fun v147 =>
          (md_nodePart μ134 (nI i) (nI (nd j)) 2).bind fun k156 =>
          if k156 < v147 then
            ((md_comesTo (nI i) (nI (nd j)) 3 μ134).bind fun (k166, μ166) =>
            some (k166, μ166))
          else
            ((md_at (nI i) (nI (nd j)) 4).bind fun k177 =>
            (md_nodePart μ134 (nI i) (nI (nd j)) 3).bind fun k186 =>
            ck 7593 k177 <|
            (md_at (nI i) (nI (nd j)) 3).bind fun k205 =>
            ck 7593 k205 <|
            md_looksAtTask_8 N n' (nI i) (nI (nd j)) (nI c) (up (up μ134 5 k177.toNatClampNeg (o 22 j + (k186 * ((1 : Int32) <<< ((v147 - 1) &&& 31))))) 5 k205.toNatClampNeg ((-1)))))
        else
          ((md_notes (nI i) 2 (nI c) μ1).bind fun μ82 =>
          (md_of (nI i) 6).bind fun k92 =>
          (rd 7593 (μ82 5) k92).bind fun v96 =>
          ck 7593 k92 <|
          (md_at (nI i) (nI (nd j)) 5).bind fun k107 =>
          (md_of (nI i) 6).bind fun k117 =>
          (rd 7593 ((up μ82 5 k92.toNatClampNeg (v96 + 1)) 5) k117).bind fun v120 =>
          ck 7593 k107 <|
          (md_comesTo (nI i) (nI (nd j)) 2 (up (up μ82 5 k92.toNatClampNeg (v96 + 1)) 5 k107.toNatClampNeg v120)).bind fun (k126, μ126) =>
          some (k126, μ126)) := by
          conv => lhs; unfold md_looksAtTask_8
          rw [at_3, Option.bind_some, rd_nI (by omega) (by decide), Option.bind_some, show μ 5 (643 + 1262 * i + 10 * nd j + 3) = o 22 j from f3, if_neg (by rw [hu2]; exact nI_pos (by omega)), rd70, Option.bind_some, H.2.1.1, if_neg q, b2, Option.bind_some, at_2]
          rfl
        rw [hXs, hMs]
        cases b with
        | true =>
          rw [if_neg (by decide)]
          obtain ⟨h', μ2, n1, n2, n3, n4, n5⟩ := b3.note (kd := 2) (v := c) (x1 := 2) hi (by omega) rfl (by decide) rfl hc
          obtain ⟨dn, d1, d2, d3, d4, d5⟩ := n3.done (c := c) hi hn hj hk h1 ha ha2
          refine ⟨_, _, _, _, 2, ?_, ?_, d4, (b5 _ _ _).trans ((n5 _ _ _).trans d5), ?_, Or.inr (Or.inl ?_)⟩
          · unfold in_endAttempt
            rw [rd_nI hj24 (by decide), Option.bind_some, hc1, b1, Option.bind_some]
            dsimp only
            rw [if_pos rfl, ck_nI hj24 (by decide), d2, ins24 d1, Option.bind_some, if_pos rfl, ck_nI d1 (by decide)]
            unfold in_endAttempt_60
            rw [n1, Option.bind_some, nI_clamp (by omega), nI_clamp (by omega), nI_1, Option.bind_some]
            dsimp only
            obtain ⟨m, rfl⟩ : ∃ m, n = m + 1 := ⟨n - 1, by omega⟩
            exact task_stop hj24 (by rw [up_other (by omega), up_other (by omega), up_at]; exact nGi4)
          · rw [n2, Option.bind_some, of_6, Option.bind_some, rd_nI (by omega) (by decide), Option.bind_some, ck_nI (by omega) (by decide), at_5, Option.bind_some, Option.bind_some, rd_nI (by omega) (by decide), Option.bind_some, ck_nI (by omega) (by decide), nI_clamp (by omega), nI_clamp (by omega), up_at, d3, nI_1, comesTo_ev hi h64]
            rfl
          · rw [up_other (by omega), up_other (by omega), up_at]; rfl
          · rw [up_other (by omega), up_other (by omega), up_at]
        | false =>
          rw [if_pos (by decide)]
          obtain ⟨h', μ2, n1, n2, n3, n4, n5⟩ := b3.note (kd := 1) (v := c) (x1 := 1) hi (by omega) rfl (by decide) rfl hc
          have eF : ∀ w, Fm μ2 i (nd j) w = Fm μ i (nd j) w := fun w => (n4.2 _ (by omega) (by omega)).trans (b4 _ (by omega))
          have g7 : Fm μ2 i (nd j) 7 = -1 := (eF 7).trans (hir.g7 (by rw [h1]; decide))
          have g6 : Fm μ2 i (nd j) 6 = 0 := (eF 6).trans (hir.g6 (Or.inr (by rw [h1]; exact Gi1)))
          have g0 : Fm μ2 i (nd j) 0 = 1 := (eF 0).trans (by have := hir.1; rw [h1] at this; exact this)
          by_cases q2 : g < a
          · obtain ⟨z1, z2⟩ := n3.st (B' := B) (x := 5) hi hn hj (by rw [h1]; exact Gi1) (Or.inl rfl) g7 (by rw [h1, ha, wt1 (by omega), wt5]; omega)
            refine ⟨_, _, _, _, 3, ?_, ?_, z1, (b5 _ _ _).trans ((n5 _ _ _).trans z2), ?_, Or.inr (Or.inr ?_)⟩
            · unfold in_endAttempt
              rw [rd_nI hj24 (by decide), Option.bind_some, hc1, b1, Option.bind_some]
              dsimp only
              rw [if_neg (by decide), n1, Option.bind_some, rd_nI (by omega) (by decide), Option.bind_some, rd_nI hj24 (by decide), Option.bind_some, g1, ha, if_pos (nI_lt q2 (by omega)), ck_nI hj24 (by decide), nI_clamp (by omega), Option.bind_some]
              dsimp only
              obtain ⟨m, rfl⟩ : ∃ m, n = m + 1 := ⟨n - 1, by omega⟩
              exact task_stop hj24 (by rw [up_at]; exact nGi5)
            · rw [n2, Option.bind_some, rd_nI (by omega) (by decide), Option.bind_some, n3.1.np2 hi h64, Option.bind_some, g2, show μ2 5 (643 + 1262 * i + 10 * nd j + 2) = nI a from (eF 2).trans (f2.trans ha), if_pos (nI_lt q2 (by omega)), comesTo_ev hi h64]
              rfl
            · rw [up_at]; rfl
            · rw [up_at]
          · have hag : a ≤ 9 := by omega
            obtain ⟨sh1, sh2⟩ := shl_am ha1 hag ham
            have hpw : am * 2 ^ (a - 1) ≤ 999 * 256 := Nat.mul_le_mul ham (Nat.pow_le_pow_right (n := 2) (by decide) (show a - 1 ≤ 8 by omega))
            obtain ⟨E, E1, E2⟩ := n3.2.2.2.1
            obtain ⟨z1, z2⟩ := n3.node (B' := B) (x := 0) (o' := up (up o 18 j 2) 22 j (nI (u + am * 2 ^ (a - 1)))) (h' := h') (μ' := up (up μ2 5 (643 + 1262 * i + 10 * nd j + 4) (nI (u + am * 2 ^ (a - 1)))) 5 (643 + 1262 * i + 10 * nd j + 3) (-1)) hi hn hj
              (fun c k q => by rw [up_other (by omega), up_other (by omega)]) (fun r hr => by rw [up_row hr, up_row hr]) (fun k q1 q2 q3 => by rw [up_in (by omega), up_in (by omega)]) E2
              (E1.fr (by rw [up_in (by omega), up_in (by omega)]) (fun k _ _ => by rw [up_in (by omega), up_in (by omega)]))
              (by rw [up_other (by omega), up_at, up_other (by omega), up_other (by omega), up_other (by omega), up_other (by omega), ha, wt2 (by omega), h1, wt1 (by omega)]; omega)
              (fun _ => by rw [up_other (by omega), up_at, h1]; exact ⟨fun q => absurd q (Gi_nDn Gi2), fun q => absurd q (Gi_nDn Gi1)⟩)
              (fun q => absurd q (by rw [h1]; exact Gi_nDn Gi1))
              (IR.mk2 (by rw [up_other (by omega), up_at]) hk
                (by show up _ _ _ _ _ _ = _; rw [up_in (by omega), up_in (by omega)]; exact g0)
                (by show up _ _ _ _ _ _ = _; rw [up_in (by omega), up_in (by omega)]; exact g7)
                (by show up _ _ _ _ _ _ = _; rw [up_in (by omega), up_in (by omega)]; exact g6)
                ⟨by show up _ _ _ _ _ _ = _; rw [up_at], by rw [up_at]; show up _ _ _ _ _ _ = _; rw [up_in (by omega), up_at], by rw [up_other (by omega), up_other (by omega)]; show up _ _ _ _ _ _ = _; rw [up_in (by omega), up_in (by omega)]; exact (eF 2).trans f2, ⟨a, ha1, hag, by rw [up_other (by omega), up_other (by omega)]; exact ha⟩, ⟨u + am * 2 ^ (a - 1), by omega, by rw [up_at]⟩⟩)
            obtain ⟨o', h2, e2, μ3, r, y1, y2, y3, y4, y5⟩ := task_loop hB hi hn hj hs hk hc hc1 hc2 k n n' (y + 1) _ _ _ _ z1 (Or.inr ⟨by rw [up_other (by omega), up_at], a, by rw [up_other (by omega), up_other (by omega)]; exact ha, ha1, hag, by omega⟩) (by omega) (by omega) (by omega)
            refine ⟨o', h2, e2, μ3, r, ?_, ?_, y3, (b5 _ _ _).trans ((n5 _ _ _).trans (z2.trans y4)), y5⟩
            · unfold in_endAttempt
              rw [rd_nI hj24 (by decide), Option.bind_some, hc1, b1, Option.bind_some]
              dsimp only
              rw [if_neg (by decide), n1, Option.bind_some, rd_nI (by omega) (by decide), Option.bind_some, rd_nI hj24 (by decide), Option.bind_some, g1, ha, if_neg (nI_nlt (by omega) (by omega)), ck_nI hj24 (by decide), rd_nI (by omega) (by decide), Option.bind_some, rd_nI hj24 (by decide), Option.bind_some, Option.bind_some, ck_nI (by omega) (by decide), nI_clamp (by omega), hu2, am1, sh1, nI_add, Option.bind_some]
              exact y1
            · rw [n2, Option.bind_some, rd_nI (by omega) (by decide), Option.bind_some, n3.1.np2 hi h64, Option.bind_some, g2, show μ2 5 (643 + 1262 * i + 10 * nd j + 2) = nI a from (eF 2).trans (f2.trans ha), if_neg (nI_nlt (by omega) (by omega)), at_4, Option.bind_some, n3.1.np3 hi h64, Option.bind_some, ck_nI (by omega) (by decide), at_3, Option.bind_some, ck_nI (by omega) (by decide), nI_clamp (by omega), nI_clamp (by omega), am2, sh2, pk_mul, hu2, nI_add]
              exact y2
    · obtain ⟨f3, f4, f2, _, u, hu, hu2⟩ := hir.2.2.2.2.2.2.2.1 hk h1
      by_cases q : e 1 2 < o 22 j
      · refine ⟨o, h, e, μ, 1, ?_, ?_, H, Fr.refl, by rw [h1]; rfl, Or.inl ⟨by rw [h1]; exact Gi2, q, by rw [hk]; decide, fun w => absurd (hk.symm.trans w) (by decide)⟩⟩
        · unfold in_lookAtTask_2
          rw [if_pos hy20, goesOn_t hj24 (by rw [h1]; exact Gi2), Option.bind_some, if_pos rfl, rd_nI (by omega) (by decide), Option.bind_some, if_pos q]
        · unfold md_looksAtTask_8
          rw [at_3, Option.bind_some, rd_nI (by omega) (by decide), Option.bind_some, show μ 5 (643 + 1262 * i + 10 * nd j + 3) = -1 from f3, if_pos (by decide), at_4, Option.bind_some, rd_nI (by omega) (by decide), Option.bind_some, rd70, Option.bind_some, H.2.1.1, show μ 5 (643 + 1262 * i + 10 * nd j + 4) = o 22 j from f4, if_pos q]
      · obtain ⟨o1, h1', μ1, a1, a2, a3, a4, a5, a6⟩ := H.again (by omega) hi hn hj hs hk h1 hc hc1 hc2 ha1 ha2 ha
        obtain ⟨o', h2, e2, μ3, r, y1, y2, y3, y4, y5⟩ := task_loop hB hi hn hj hs hk hc hc1 hc2 k n n' (y + 1) _ _ _ _ a3 (Or.inl ⟨a5, a + 1, a6, by omega, by omega, by omega⟩) (by omega) (by omega) (by omega)
        refine ⟨o', h2, e2, μ3, r, ?_, ?_, y3, a4.trans y4, y5⟩
        · unfold in_lookAtTask_2
          rw [if_pos hy20, goesOn_t hj24 (by rw [h1]; exact Gi2), Option.bind_some, if_pos rfl, rd_nI (by omega) (by decide), Option.bind_some, if_neg q, rd_nI hj24 (by decide), Option.bind_some, h1, if_pos rfl, a1, Option.bind_some, nI_1]
          exact y1
        · unfold md_looksAtTask_8
          rw [at_3, Option.bind_some, rd_nI (by omega) (by decide), Option.bind_some, show μ 5 (643 + 1262 * i + 10 * nd j + 3) = -1 from f3, if_pos (by decide), at_4, Option.bind_some, rd_nI (by omega) (by decide), Option.bind_some, rd70, Option.bind_some, H.2.1.1, show μ 5 (643 + 1262 * i + 10 * nd j + 4) = o 22 j from f4, if_neg q, a2, Option.bind_some]
          exact y2
