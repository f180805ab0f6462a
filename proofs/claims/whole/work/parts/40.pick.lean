/-! which task is compensated next -/
section RN
variable {p : Mem} {nd : Nat → Nat} {sv : Nat → Nat → Int32} {i V its rl B B' N : Nat} {o h e μ o' h' e' μ' : Mem}
/-- the version, on both sides -/
def ST (p : Mem) (nd : Nat → Nat) (sv : Nat → Nat → Int32) (its : Nat) : Prop :=
  NdS nd its ∧ (∀ j, j < its → SI p nd sv j) ∧ (∃ f, Ch p nd sv f 0 0 0 its) ∧ sv 0 0 = 0 ∧ sv 0 5 = 1 ∧ sv 0 6 = -1 ∧ sv 0 8 = -1 ∧
  ∃ nn : Nat, sv 64 0 = nI nn ∧ nn ≤ 64 ∧ 0 < nn ∧ (∀ j, j < its → nd j < nn) ∧ ∀ t, t < nn → (∃ j, j < its ∧ t = nd j) ∨ (sv t 0 = 0 ∧ ∃ b, b < its ∧ Bst nd b ∧ t = nd b - 1)
theorem mul4_nI (a : Nat) : (4 : Int32) * nI a = nI (4 * a) := by rw [show (4 : Int32) = nI 4 from rfl, pk_mul]
theorem con_sim {f d bn w be t : Nat} (hN : 20 ≤ N) (hS : ST p nd sv its) (hV : Vr i V sv μ) (hi : i < 6) (hc : Ch p nd sv (f + 1) d bn w be) (hb : be ≤ its) (hl : ¬ Lf (p 7 w)) (hst : ∀ k, k < 4 → p 15 (4 * w + k) ≠ -1 → Fm μ i (nd (Bs p w k) - 1) 0 = mS (o 19 (Bs p w k)) ∧ (o 19 (Bs p w k) = 4 ∨ o 19 (Bs p w k) = 5 ∨ o 19 (Bs p w k) = 6)) (ht : t < its) :
    ∃ b : Bool, in_concerns N p o (nI w) (nI t) = some b ∧ md_isFor N μ (nI i) (nI (nd t)) (nI (nd w)) = some b ∧ (b = true → w < t ∧ t < En p w) := by
  obtain ⟨hn, hs, ⟨F, hF⟩, _, _, _, r8, _⟩ := hS
  have hits := hn.2.1
  have hwl := hc.lt
  have hw : w < its := by omega
  have hw64 := hn.l64 hw
  have ht64 := hn.l64 ht
  have hwp := hn.pos hw
  obtain ⟨nb, c1, c2, c3, c4, c5, c6, c7, c8, c9, c10, c11⟩ := hc.cont (by omega) hl
  have hen : p 14 w = nI (En p w) := by
    obtain ⟨m, nb, _, _, q, _⟩ := hc
    rw [q, En_eq q (by omega)]
  have h0 : ¬ nI (nd w) = 0 := nI_ne0 (by omega) (by omega)
  unfold md_isFor in_concerns
  rw [if_neg h0, ins24 (by omega), Option.bind_some, if_pos rfl]
  by_cases q1 : w < t
  · rw [if_pos (nI_lt q1 (by omega)), rd_nI (by omega) (by decide), Option.bind_some, hen]
    by_cases q2 : t < En p w
    · rw [if_pos (nI_lt q2 (by omega))]
      obtain ⟨K, k1, k2, k3⟩ := Bs_find (p := p) (j := w) (nb := nb) (t := t) nb 0 (by omega) (by omega) (by omega)
      obtain ⟨w1, w2, w3, w4, w5, w6, w7, w8, w9, w10, w11⟩ := c11 K k1
      have hB64 := hn.l64 (a := Bs p w K) (by omega)
      rw [cs_ev (nb := nb) (K := K) (by omega) (by omega) (by omega) c2 (fun k hk => ⟨(c11 k hk).1, (c11 k hk).2.2.2.1⟩) c10 (by omega) k1 k2 k3]
      obtain ⟨s, s1, s2⟩ := climb (τ := nd w) (N := N) hn hV hi hw rfl f (d + 1) _ _ _ t w11 (by omega) (by omega) (hn.bst hw (by omega) w6) (fun b hb hs => hn.bst hw hb hs) (by omega) k2 k3 (fun c x1 x2 x3 z => by have := hn.inj (by omega) hw z; omega)
      obtain ⟨v1, v2⟩ := hst K (by omega) w2
      have hM : md_isFor_9 N μ N (nI i) (nI (nd w)) (nI (nd t)) = md_isFor_62 N μ (mS (o 19 (Bs p w K))) := by
        have := s2 (N - s)
        rw [show N - s + s = N by omega] at this
        rw [this]
        obtain ⟨n, hnn⟩ : ∃ n, N - s = n + 1 := ⟨N - s - 1, by omega⟩
        rw [hnn]
        unfold md_isFor_9
        rw [if_neg (nI_pos (by omega)), hV.np8 hi (by omega), Option.bind_some, w10, if_pos rfl]
        unfold md_isFor_41
        rw [if_neg (nI_pos (by omega)), at_0, Option.bind_some, rd_nI (by omega) (by decide), Option.bind_some, show μ 5 (643 + 1262 * i + 10 * (nd (Bs p w K) - 1) + 0) = mS (o 19 (Bs p w K)) from v1]
      rw [hM]
      rcases v2 with z | z | z
      · exact ⟨false, by rw [if_pos z], by rw [z]; rfl, fun q => absurd q (by decide)⟩
      · exact ⟨true, by rw [if_neg (by rw [z]; decide)], by rw [z]; rfl, fun _ => ⟨q1, q2⟩⟩
      · exact ⟨true, by rw [if_neg (by rw [z]; decide)], by rw [z]; rfl, fun _ => ⟨q1, q2⟩⟩
    · rw [if_neg (nI_nlt (by omega) (by omega))]
      refine ⟨false, rfl, ?_, fun q => absurd q (by decide)⟩
      obtain ⟨s, s1, s2⟩ := climb (τ := nd w) (N := N) hn hV hi hw rfl F 0 0 0 its t hF (Nat.le_refl _) (by omega) (by omega) (fun b hb hs => hn.bst hw hb hs) (by omega) (by omega) ht (fun c x1 x2 x3 z => by have := hn.inj (by omega) hw z; subst this; omega)
      have := s2 (N - s)
      rw [show N - s + s = N by omega] at this
      rw [this]
      obtain ⟨n, hnn⟩ : ∃ n, N - s = n + 1 := ⟨N - s - 1, by omega⟩
      rw [hnn]
      unfold md_isFor_9
      rw [if_neg (nI_pos (by omega)), hV.np8 hi (by omega), Option.bind_some, r8, if_neg (fun z => nI_m1 (a := nd w) (by omega) z.symm), Option.bind_some]
      obtain ⟨n2, hn2⟩ : ∃ n2, n = n2 + 1 := ⟨n - 1, by omega⟩
      rw [hn2]
      unfold md_isFor_9
      rw [if_pos (by decide)]
      unfold md_isFor_41
      rw [if_pos (by decide)]
      rfl
  · rw [if_neg (nI_nlt (by omega) (by omega))]
    refine ⟨false, rfl, ?_, fun q => absurd q (by decide)⟩
    obtain ⟨s, s1, s2⟩ := climb (τ := nd w) (N := N) hn hV hi hw rfl F 0 0 0 its t hF (Nat.le_refl _) (by omega) (by omega) (fun b hb hs => hn.bst hw hb hs) (by omega) (by omega) ht (fun c x1 x2 x3 z => by have := hn.inj (by omega) hw z; subst this; omega)
    have := s2 (N - s)
    rw [show N - s + s = N by omega] at this
    rw [this]
    obtain ⟨n, hnn⟩ : ∃ n, N - s = n + 1 := ⟨N - s - 1, by omega⟩
    rw [hnn]
    unfold md_isFor_9
    rw [if_neg (nI_pos (by omega)), hV.np8 hi (by omega), Option.bind_some, r8, if_neg (fun z => nI_m1 (a := nd w) (by omega) z.symm), Option.bind_some]
    obtain ⟨n2, hn2⟩ : ∃ n2, n = n2 + 1 := ⟨n - 1, by omega⟩
    rw [hn2]
    unfold md_isFor_9
    rw [if_pos (by decide)]
    unfold md_isFor_41
    rw [if_pos (by decide)]
    rfl
def El (p o : Mem) (con : Nat → Bool) (j : Nat) : Prop := o 18 j = 4 ∧ p 12 j ≠ -1 ∧ con j = true
theorem lt_m1 {a : Nat} (h : a < 2 ^ 31) : ¬ nI a < 0 := nI_pos h
theorem ltr_loop {w dn : Nat} {con : Nat → Bool} (hS : ST p nd sv its) (hcon : ∀ t, t < its → in_concerns N p o (nI w) (nI t) = some (con t)) (hd : dn ≤ 24) (ho : ∀ k, k < dn → ∃ j, j < its ∧ o 21 k = nI j) :
    ∀ (k n : Nat), k ≤ dn → k < n → ∃ z, in_lastToReverse_12 N p o n (nI w) (if k = 0 then -1 else nI (k - 1)) = some z ∧
      ((z = -1 ∧ ∀ k', k' < k → ∀ j, j < its → o 21 k' = nI j → ¬ El p o con j) ∨ ∃ k1 j, k1 < k ∧ j < its ∧ o 21 k1 = nI j ∧ El p o con j ∧ z = nI j ∧ ∀ k', k1 < k' → k' < k → ∀ j', j' < its → o 21 k' = nI j' → ¬ El p o con j')
  | 0, n, _, hn => by
    obtain ⟨n, rfl⟩ : ∃ m, n = m + 1 := ⟨n - 1, by omega⟩
    refine ⟨-1, ?_, Or.inl ⟨rfl, fun k' h => by omega⟩⟩
    unfold in_lastToReverse_12
    rw [if_pos rfl, if_pos (by decide)]
  | k + 1, n, hk, hn => by
    have hits := hS.1.2.1
    obtain ⟨n, rfl⟩ : ∃ m, n = m + 1 := ⟨n - 1, by omega⟩
    obtain ⟨j, hj, hoj⟩ := ho k (by omega)
    obtain ⟨z, z1, z2⟩ := ltr_loop hS hcon hd ho k n (by omega) (by omega)
    have hnext : nI k + (-1) = if k = 0 then (-1 : Int32) else nI (k - 1) := by
      by_cases q : k = 0
      · subst q; decide
      · rw [if_neg q]
        have := pk_m1 (k - 1)
        rw [show k - 1 + 1 = k by omega] at this
        exact this
    have hrev : in_isReversible p o (nI j) = if o 18 j = 4 then (if p 12 j = -1 then some false else some true) else some false := by
      unfold in_isReversible
      rw [rd_nI (by omega) (by decide), Option.bind_some]
      by_cases q : o 18 j = 4
      · rw [if_pos q, if_pos q, rd_nI (by omega) (by decide), Option.bind_some]
        rcases (hS.2.1 j hj).2.2.1 with q2 | ⟨c, q2, q3⟩
        · rw [q2]; rfl
        · rw [q3, if_neg (nI_pos (by omega)), if_neg (nI_m1 (by omega))]
      · rw [if_neg q, if_neg q]
    have hstep : in_lastToReverse_12 N p o (n + 1) (nI w) (if k + 1 = 0 then -1 else nI (k + 1 - 1)) = (in_isReversible p o (nI j)).bind fun k34 => if k34 = true then (if con j = true then some (nI j) else in_lastToReverse_12 N p o n (nI w) (if k = 0 then -1 else nI (k - 1))) else in_lastToReverse_12 N p o n (nI w) (if k = 0 then -1 else nI (k - 1)) := by
      conv => lhs; unfold in_lastToReverse_12
      rw [if_neg (show ¬ k + 1 = 0 by omega), show k + 1 - 1 = k by omega, if_neg (nI_pos (by omega)), rd_nI (by omega) (by decide), Option.bind_some, hoj, ins24 (by omega), Option.bind_some, if_pos rfl, hnext, hcon j hj]
      rfl
    have pass : ¬ El p o con j → ∃ z', some z = some z' ∧ ((z' = -1 ∧ ∀ k', k' < k + 1 → ∀ j, j < its → o 21 k' = nI j → ¬ El p o con j) ∨ ∃ k1 j, k1 < k + 1 ∧ j < its ∧ o 21 k1 = nI j ∧ El p o con j ∧ z' = nI j ∧ ∀ k', k1 < k' → k' < k + 1 → ∀ j', j' < its → o 21 k' = nI j' → ¬ El p o con j') := by
      intro hne
      refine ⟨z, rfl, ?_⟩
      have hk2 : ∀ k', ¬ k' < k → k' < k + 1 → ∀ j', j' < its → o 21 k' = nI j' → ¬ El p o con j' := fun k' h1 h2 j' hj' h3 => by
        have : k' = k := by omega
        subst this
        have := nI_inj (by omega) (by omega) (h3.symm.trans hoj)
        subst this
        exact hne
      rcases z2 with ⟨y1, y2⟩ | ⟨k1, j1, y1, y2, y3, y4, y5, y6⟩
      · refine Or.inl ⟨y1, fun k' hk' j' hj' h3 => ?_⟩
        by_cases q : k' < k
        · exact y2 k' q j' hj' h3
        · exact hk2 k' q hk' j' hj' h3
      · refine Or.inr ⟨k1, j1, by omega, y2, y3, y4, y5, fun k' h1 hk' j' hj' h3 => ?_⟩
        by_cases q : k' < k
        · exact y6 k' h1 q j' hj' h3
        · exact hk2 k' q hk' j' hj' h3
    rw [hstep, hrev]
    by_cases q4 : o 18 j = 4
    · rw [if_pos q4]
      by_cases q12 : p 12 j = -1
      · rw [if_pos q12, Option.bind_some, if_neg (by decide), z1]
        exact pass (fun q => q.2.1 q12)
      · rw [if_neg q12, Option.bind_some, if_pos rfl]
        by_cases qc : con j = true
        · rw [if_pos qc]
          exact ⟨_, rfl, Or.inr ⟨k, j, by omega, hj, hoj, ⟨q4, q12, qc⟩, rfl, fun k' h1 h2 => by omega⟩⟩
        · rw [if_neg qc, z1]
          exact pass (fun q => qc q.2.2)
    · rw [if_neg q4, Option.bind_some, if_neg (by decide), z1]
      exact pass (fun q => q4 q.1)
theorem ntc_loop {w : Nat} {con : Nat → Bool} (hS : ST p nd sv its) (H : R p nd sv i V its rl B o h e μ) (hi : i < 6) (hcon : ∀ t, t < its → md_isFor N μ (nI i) (nI (nd t)) (nI w) = some (con t)) :
    ∀ (r t n : Nat) (y3 y4 : Int32) (nn : Nat), sv 64 0 = nI nn → nn ≤ 64 → (∀ j, j < its → nd j < nn) → (∀ t, t < nn → (∃ j, j < its ∧ t = nd j) ∨ (sv t 0 = 0 ∧ ∃ b, b < its ∧ Bst nd b ∧ t = nd b - 1)) → t + r = nn → r < n →
      ((y3 = -1 ∧ y4 = 0 ∧ ∀ j, j < its → p 7 j = 0 → nd j < t → ¬ El p o con j) ∨ ∃ j k, j < its ∧ p 7 j = 0 ∧ nd j < t ∧ El p o con j ∧ y3 = nI (nd j) ∧ k < 24 ∧ y4 = nI (k + 1) ∧ Fm μ i (nd j) 5 = nI (k + 1) ∧ ∀ j', j' < its → p 7 j' = 0 → nd j' < t → El p o con j' → ∀ k', k' < 24 → Fm μ i (nd j') 5 = nI (k' + 1) → k' ≤ k) →
      ∃ z, md_nextToCompensate_8 N μ n (nI i) (nI w) y3 y4 (nI t) = some z ∧
        ((z = -1 ∧ ∀ j, j < its → p 7 j = 0 → ¬ El p o con j) ∨ ∃ j k, j < its ∧ p 7 j = 0 ∧ El p o con j ∧ z = nI (nd j) ∧ k < 24 ∧ Fm μ i (nd j) 5 = nI (k + 1) ∧ ∀ j', j' < its → p 7 j' = 0 → El p o con j' → ∀ k', k' < 24 → Fm μ i (nd j') 5 = nI (k' + 1) → k' ≤ k)
  | 0, t, n, y3, y4, nn, hnn, h64, hlt, hcl, ht, hn, hinv => by
    obtain ⟨n, rfl⟩ : ∃ m, n = m + 1 := ⟨n - 1, by omega⟩
    obtain ⟨v1, v2⟩ := H.1.ver hi
    refine ⟨y3, ?_, ?_⟩
    · unfold md_nextToCompensate_8
      rw [v1, Option.bind_some, mul4_nI, rd_nI (by omega) (by decide), Option.bind_some, H.1.2.2, hnn, if_neg (nI_nlt (by omega) (by omega))]
    · rcases hinv with ⟨q1, q2, q3⟩ | ⟨j, k, q1, q2, q3, q4, q5, q6, q7, q8, q9⟩
      · exact Or.inl ⟨q1, fun j hj hp => q3 j hj hp (by have := hlt j hj; omega)⟩
      · exact Or.inr ⟨j, k, q1, q2, q4, q5, q6, q8, fun j' hj' hp => q9 j' hj' hp (by have := hlt j' hj'; omega)⟩
  | r + 1, t, n, y3, y4, nn, hnn, h64, hlt, hcl, ht, hn, hinv => by
    obtain ⟨n, rfl⟩ : ∃ m, n = m + 1 := ⟨n - 1, by omega⟩
    obtain ⟨v1, v2⟩ := H.1.ver hi
    have hrec := fun y3 y4 q => ntc_loop hS H hi hcon r (t + 1) n y3 y4 nn hnn h64 hlt hcl (by omega) (by omega) q
    have hnd := hS.1
    have skip : ∀ y3 y4, md_nextToCompensate_85 N μ (md_nextToCompensate_8 N μ n) (nI i) (nI w) y3 y4 (nI t) 0 = md_nextToCompensate_8 N μ n (nI i) (nI w) y3 y4 (nI (t + 1)) := by
      intro y3 y4
      unfold md_nextToCompensate_85
      rw [if_pos rfl, nI_1]
    have pass : (∀ j, j < its → p 7 j = 0 → nd j = t → ¬ El p o con j) → ∃ z, md_nextToCompensate_8 N μ n (nI i) (nI w) y3 y4 (nI (t + 1)) = some z ∧ ((z = -1 ∧ ∀ j, j < its → p 7 j = 0 → ¬ El p o con j) ∨ ∃ j k, j < its ∧ p 7 j = 0 ∧ El p o con j ∧ z = nI (nd j) ∧ k < 24 ∧ Fm μ i (nd j) 5 = nI (k + 1) ∧ ∀ j', j' < its → p 7 j' = 0 → El p o con j' → ∀ k', k' < 24 → Fm μ i (nd j') 5 = nI (k' + 1) → k' ≤ k) := by
      intro hne
      apply hrec
      rcases hinv with ⟨q1, q2, q3⟩ | ⟨j, k, q1, q2, q3, q4, q5, q6, q7, q8, q9⟩
      · refine Or.inl ⟨q1, q2, fun j hj hp hjt => ?_⟩
        by_cases w : nd j = t
        · exact hne j hj hp w
        · exact q3 j hj hp (by omega)
      · refine Or.inr ⟨j, k, q1, q2, by omega, q4, q5, q6, q7, q8, fun j' hj' hp hjt hel => ?_⟩
        by_cases w : nd j' = t
        · exact absurd hel (hne j' hj' hp w)
        · exact q9 j' hj' hp (by omega) hel
    unfold md_nextToCompensate_8
    rw [v1, Option.bind_some, mul4_nI, rd_nI (by omega) (by decide), Option.bind_some, H.1.2.2, hnn, if_pos (nI_lt (by omega) (by omega)), H.1.np0 hi (by omega), Option.bind_some]
    rcases hcl t (by omega) with ⟨j, hj, rfl⟩ | ⟨hz, b, hb, hbs, hbt⟩
    · have hsi := hS.2.1 j hj
      have hir := H.2.2.2.2.2.1 j hj
      have hj64 := hnd.l64 hj
      have uniq : ∀ j', j' < its → nd j' = nd j → j' = j := fun j' hj' q => hnd.inj hj' hj q
      by_cases hk : p 7 j = 0
      · rw [(hsi.k0 hk).1, if_pos rfl, at_0, Option.bind_some, rd_nI (by omega) (by decide), Option.bind_some, show μ 5 (643 + 1262 * i + 10 * nd j + 0) = mS (o 18 j) from hir.1]
        by_cases q4 : o 18 j = 4
        · rw [q4, if_pos (show mS 4 = 2 by decide), H.1.np4 hi (by omega), Option.bind_some, hsi.2.1]
          rcases hsi.2.2.1 with q12 | ⟨c, hc, q12⟩
          · rw [q12, if_pos (by decide), skip]
            exact pass (fun j' hj' hp hjt hel => by have := uniq j' hj' hjt; subst this; exact hel.2.1 q12)
          · rw [q12, if_neg (nI_pos (by omega)), at_6, Option.bind_some, rd_nI (by omega) (by decide), Option.bind_some, show μ 5 (643 + 1262 * i + 10 * nd j + 6) = 0 from hir.2.2.2.2.2.1 (by rw [q4]; decide) (by rw [q4]; decide), if_pos rfl]
            obtain ⟨dn, d1, d2, d3, d4⟩ := H.2.2.2.2.1
            obtain ⟨kk, k1, k2⟩ := d4 j hj hk (by rw [q4]; exact Dn4)
            obtain ⟨j2, e1, e2, e3, e4, e5⟩ := d3 kk k1
            have hits := hnd.2.1
            have e6 : j2 = j := nI_inj (by omega) (by omega) (e2.symm.trans k2)
            subst e6
            have h85 : md_nextToCompensate_85 N μ (md_nextToCompensate_8 N μ n) (nI i) (nI w) y3 y4 (nI (nd j2)) 1 = if y4 < nI (kk + 1) then (if con j2 = true then md_nextToCompensate_8 N μ n (nI i) (nI w) (nI (nd j2)) (nI (kk + 1)) (nI (nd j2 + 1)) else md_nextToCompensate_8 N μ n (nI i) (nI w) y3 y4 (nI (nd j2 + 1))) else md_nextToCompensate_8 N μ n (nI i) (nI w) y3 y4 (nI (nd j2 + 1)) := by
              unfold md_nextToCompensate_85
              rw [if_neg (by decide), at_5, Option.bind_some, rd_nI (by omega) (by decide), Option.bind_some, show μ 5 (643 + 1262 * i + 10 * nd j2 + 5) = nI (kk + 1) from e5, hcon j2 hj, nI_1]
              by_cases q : y4 < nI (kk + 1)
              · rw [if_pos q, if_pos q, Option.bind_some]
                by_cases q2 : con j2 = true
                · rw [if_pos q2, if_pos q2, Option.bind_some, rd_nI (by omega) (by decide), Option.bind_some, show μ 5 (643 + 1262 * i + 10 * nd j2 + 5) = nI (kk + 1) from e5]
                · rw [if_neg q2, if_neg q2]
              · rw [if_neg q, if_neg q]
            rw [h85]
            have notEl : con j2 ≠ true → ∀ j', j' < its → p 7 j' = 0 → nd j' = nd j2 → ¬ El p o con j' := fun qc j' hj' hp hjt hel => by have := uniq j' hj' hjt; subst this; exact qc hel.2.2
            rcases hinv with ⟨q1, q2, q3⟩ | ⟨ja, ka, q1, q2, q3, q4', q5, q6, q7, q8, q9⟩
            · rw [if_pos (by rw [q2]; exact nI_lt (a := 0) (by omega) (by omega))]
              by_cases qc : con j2 = true
              · rw [if_pos qc]
                apply hrec
                refine Or.inr ⟨j2, kk, hj, hk, by omega, ⟨q4, by rw [q12]; exact nI_m1 (by omega), qc⟩, rfl, by omega, rfl, e5, fun j' hj' hp hjt hel k' hk' hf => ?_⟩
                by_cases ww : nd j' = nd j2
                · have := uniq j' hj' ww; subst this
                  have := nI_inj (by omega) (by omega) (hf.symm.trans e5)
                  omega
                · exact absurd hel (q3 j' hj' hp (by omega))
              · rw [if_neg qc]; exact pass (notEl qc)
            · by_cases qk : ka < kk
              · rw [if_pos (by rw [q7]; exact nI_lt (by omega) (by omega))]
                by_cases qc : con j2 = true
                · rw [if_pos qc]
                  apply hrec
                  refine Or.inr ⟨j2, kk, hj, hk, by omega, ⟨q4, by rw [q12]; exact nI_m1 (by omega), qc⟩, rfl, by omega, rfl, e5, fun j' hj' hp hjt hel k' hk' hf => ?_⟩
                  by_cases ww : nd j' = nd j2
                  · have := uniq j' hj' ww; subst this
                    have := nI_inj (by omega) (by omega) (hf.symm.trans e5)
                    omega
                  · have := q9 j' hj' hp (by omega) hel k' hk' hf
                    omega
                · rw [if_neg qc]; exact pass (notEl qc)
              · rw [if_neg (by rw [q7]; exact nI_nlt (by omega) (by omega))]
                apply hrec
                refine Or.inr ⟨ja, ka, q1, q2, by omega, q4', q5, q6, q7, q8, fun j' hj' hp hjt hel k' hk' hf => ?_⟩
                by_cases ww : nd j' = nd j2
                · have := uniq j' hj' ww; subst this
                  have := nI_inj (by omega) (by omega) (hf.symm.trans e5)
                  omega
                · exact q9 j' hj' hp (by omega) hel k' hk' hf
        · have hne : ∀ j', j' < its → p 7 j' = 0 → nd j' = nd j → ¬ El p o con j' := fun j' hj' hp hjt hel => by have := uniq j' hj' hjt; subst this; exact q4 hel.1
          by_cases q2 : mS (o 18 j) = 2
          · rw [if_pos q2, H.1.np4 hi (by omega), Option.bind_some]
            by_cases q12 : sv (nd j) 4 < 0
            · rw [if_pos q12, skip]; exact pass hne
            · have h78 : o 18 j = 7 ∨ o 18 j = 8 := by
                obtain ⟨k, hk8, hkk⟩ := hir.2.1
                have : k = 0 ∨ k = 1 ∨ k = 2 ∨ k = 3 ∨ k = 4 ∨ k = 5 ∨ k = 6 ∨ k = 7 ∨ k = 8 := by omega
                rw [hkk] at q2 q4 ⊢
                rcases this with z | z | z | z | z | z | z | z | z <;> subst z
                · exact absurd q2 (by decide)
                · exact absurd q2 (by decide)
                · exact absurd q2 (by decide)
                · exact absurd q2 (by decide)
                · exact absurd rfl q4
                · exact absurd q2 (by decide)
                · exact absurd q2 (by decide)
                · exact Or.inl rfl
                · exact Or.inr rfl
              rw [if_neg q12, at_6, Option.bind_some, rd_nI (by omega) (by decide), Option.bind_some, if_neg (show ¬ μ 5 (643 + 1262 * i + 10 * nd j + 6) = 0 from (hir.2.2.2.2.1 h78).1), skip]
              exact pass hne
          · rw [if_neg q2, skip]; exact pass hne
      · have hk1 : sv (nd j) 0 ≠ 1 := by
          rcases hsi.2.2.2 with q | q | q | q | q | q
          · exact absurd q.1 hk
          · rw [q.2.1]; decide
          · rw [q.2.1]; decide
          · rw [q.2.1]; decide
          · rw [q.2.1]; decide
          · rw [q.2.1]; decide
        rw [if_neg hk1, skip]
        exact pass (fun j' hj' hp hjt => by have := uniq j' hj' hjt; subst this; exact absurd hp hk)
    · rw [hz, if_neg (by decide), skip]
      exact pass (fun j' hj' hp hjt => absurd (hbt ▸ hjt.symm : nd b - 1 = nd j') (hnd.bst hj' hb hbs))
/-- both sides take the same task -/
theorem pick_sim {w w' : Nat} {con : Nat → Bool} (hN : 70 ≤ N) (hS : ST p nd sv its) (H : R p nd sv i V its rl B o h e μ) (hi : i < 6) (hX : ∀ t, t < its → in_concerns N p o (nI w) (nI t) = some (con t)) (hM : ∀ t, t < its → md_isFor N μ (nI i) (nI (nd t)) (nI w') = some (con t)) :
    (in_lastToReverse N p o (nI w) = some (-1) ∧ md_nextToCompensate N μ (nI i) (nI w') = some (-1)) ∨ ∃ j, j < its ∧ p 7 j = 0 ∧ El p o con j ∧ in_lastToReverse N p o (nI w) = some (nI j) ∧ md_nextToCompensate N μ (nI i) (nI w') = some (nI (nd j)) := by
  obtain ⟨dn, d1, d2, d3, d4⟩ := H.2.2.2.2.1
  have hits := hS.1.2.1
  obtain ⟨z, z1, z2⟩ := ltr_loop (N := N) hS hX d1 (fun k hk => by obtain ⟨j, q1, q2, _⟩ := d3 k hk; exact ⟨j, q1, q2⟩) dn N (Nat.le_refl _) (by omega)
  obtain ⟨nn, n1, n2, n3, n4, n5⟩ := hS.2.2.2.2.2.2.2
  obtain ⟨y, y1, y2⟩ := ntc_loop (N := N) (w := w') hS H hi hM nn 0 N (-1) 0 nn n1 n2 n4 n5 (by omega) (by omega) (Or.inl ⟨rfl, rfl, fun j hj hp h0 => by omega⟩)
  have eX : in_lastToReverse N p o (nI w) = some z := by
    unfold in_lastToReverse
    rw [d2, if_neg (show ¬ 24 < nI dn from nI_nlt (a := 24) (b := dn) (by omega) (by decide))]
    rw [← z1]
    congr 1
    by_cases q : dn = 0
    · subst q; decide
    · rw [if_neg q]; exact pk_sub (b := 1) (by omega)
  have eM : md_nextToCompensate N μ (nI i) (nI w') = some y := y1
  have ord : ∀ k j, k < dn → j < its → o 21 k = nI j → p 7 j = 0 ∧ Fm μ i (nd j) 5 = nI (k + 1) := fun k j hk hj h1 => by
    obtain ⟨j2, q1, q2, q3, q4, q5⟩ := d3 k hk
    have := nI_inj (by omega) (by omega) (q2.symm.trans h1)
    subst this
    exact ⟨q3, q5⟩
  rcases z2 with ⟨x1, x2⟩ | ⟨k1, j, x1, x2, x3, x4, x5, x6⟩
  · rcases y2 with ⟨w1, w2⟩ | ⟨j, k, w1, w2, w3, w4, w5, w6, w7⟩
    · exact Or.inl ⟨by rw [eX, x1], by rw [eM, w1]⟩
    · obtain ⟨k', q1, q2⟩ := d4 j w1 w2 (by rw [w3.1]; exact Dn4)
      exact absurd w3 (x2 k' q1 j w1 q2)
  · obtain ⟨p7, f5⟩ := ord k1 j x1 x2 x3
    rcases y2 with ⟨w1, w2⟩ | ⟨j', k, w1, w2, w3, w4, w5, w6, w7⟩
    · exact absurd x4 (w2 j x2 p7)
    · have h1 := w7 j x2 p7 x4 k1 (by omega) f5
      obtain ⟨k', q1, q2⟩ := d4 j' w1 w2 (by rw [w3.1]; exact Dn4)
      obtain ⟨_, f5'⟩ := ord k' j' q1 w1 q2
      have hkk : k = k' := by have := nI_inj (by omega) (by omega) (w6.symm.trans f5'); omega
      have hle : ¬ k1 < k' := fun q => x6 k' q q1 j' w1 q2 w3
      have he : k' = k1 := by omega
      subst he
      have hjj : j' = j := nI_inj (by omega) (by omega) (q2.symm.trans x3)
      subst hjj
      exact Or.inr ⟨j', x2, p7, x4, by rw [eX, x5], by rw [eM, w4]⟩
end RN
