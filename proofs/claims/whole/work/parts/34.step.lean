/-! steps of both sides that keep the relation -/
theorem rd70 {f : Nat → Int32} : rd 7593 f 0 = some (f 0) := rd_nI (a := 0) (by decide) (by decide)
theorem comesTo_ev {i n : Nat} {x : Int32} {μ : Mem} (hi : i < 6) (hn : n < 64) : md_comesTo (nI i) (nI n) x μ = some (x, up μ 5 (643 + 1262 * i + 10 * n + 0) x) := by
  unfold md_comesTo
  rw [at_0, Option.bind_some, ck_nI (by omega) (by decide), nI_clamp (by omega)]
theorem nDn5 : ¬ Dn 5 := by unfold Dn; decide
theorem nDn6 : ¬ Dn 6 := by unfold Dn; decide
theorem nDn0 : ¬ Dn 0 := by unfold Dn; decide
theorem Gi_nDn {x : Int32} (h : Gi x) : ¬ Dn x := by
  rcases h with z | z | z <;> rw [z] <;> unfold Dn <;> decide
theorem nGi4 : ¬ Gi 4 := by unfold Gi; decide
theorem nGi5 : ¬ Gi 5 := by unfold Gi; decide
theorem nGi6 : ¬ Gi 6 := by unfold Gi; decide
theorem nGi0 : ¬ Gi 0 := by unfold Gi; decide
theorem nGi7 : ¬ Gi 7 := by unfold Gi; decide
theorem nGi8 : ¬ Gi 8 := by unfold Gi; decide
theorem Gi1 : Gi 1 := Or.inl rfl
theorem Gi2 : Gi 2 := Or.inr (Or.inl rfl)
theorem Gi3 : Gi 3 := Or.inr (Or.inr rfl)
theorem Dn4 : Dn 4 := Or.inl rfl
section RS
variable {p : Mem} {nd : Nat → Nat} {sv : Nat → Nat → Int32} {i V its rl B B' : Nat} {o h e μ o' h' e' μ' : Mem}
theorem R.item {j : Nat} (H : R p nd sv i V its rl B o h e μ) (hi : i < 6) (hj : j < its) (F : Fr nd its i j (j + 1) (j + 1) o e μ o' e' μ') (hEnv : EnvR e' μ') (hIns : InsR i o' μ') (hHis : ∃ E : Nat, HisR rl i E h' μ' ∧ Pot E o' ≤ B') (hOrd : OrdR p nd i its o' μ') (hIR : IR p nd i o' μ' j) : R p nd sv i V its rl B' o' h' e' μ' := by
  obtain ⟨⟨x1, x2, x3, x4⟩, x5, x6, x7, x8, x9⟩ := F
  refine ⟨H.1.fr (x6 1 (by decide)) (x6 3 (by decide)) (x7 _ (by omega) (by omega)) (x7 _ (by omega) (by omega)), hEnv, hIns, hHis, hOrd, fun j' hj' => ?_, fun j' h1 h2 => ?_, fun b hb hs h0 => ?_⟩
  · by_cases q : j' = j
    · subst q; exact hIR
    · obtain ⟨w1, w2, w3, w4⟩ := x2 j' (by omega)
      exact (H.2.2.2.2.2.1 j' hj').fr w1 w2 w3 w4 (x8 j' hj' (by omega))
  · rw [(x2 j' (by omega)).1]; exact H.2.2.2.2.2.2.1 j' h1 h2
  · rw [x9 b hb hs (by omega) 7 (by omega)]; exact H.2.2.2.2.2.2.2 b hb hs h0
theorem R.note {kd v : Nat} {x1 x2 : Int32} (H : R p nd sv i V its rl B o h e μ) (hi : i < 6) (hB : B < 3900) (h1 : x1 = nI kd) (hk : kd < 16) (h2 : x2 = nI v) (hv : v < 8) :
    ∃ h' μ', hi_add rl e x1 x2 h = some h' ∧ md_notes (nI i) x1 x2 μ = some μ' ∧ R p nd sv i V its rl (B + 1) o h' e μ' ∧ NF i μ μ' ∧ ∀ a a' c, Fr nd its i a a' c o e μ o e μ' := by
  obtain ⟨H1, H2, H3, ⟨E, H4, H5⟩, H6, H7, H8, H9⟩ := H
  obtain ⟨t, ht1, ht2⟩ := H2.2.1
  have hE : E < 4000 := by unfold Pot at H5; omega
  obtain ⟨h', μ', a1, a2, a3, a4⟩ := note_sim hi H2.1 ht1 ht2 H4 hE h1 hk h2 hv
  have hF : ∀ n w, Fm μ' i n w = Fm μ i n w := fun n w => a4.2 _ (by omega) (by omega)
  refine ⟨h', μ', a1, a2, ⟨H1.fr (a4.1 1 (by decide)) (a4.1 3 (by decide)) (a4.2 _ (by omega) (by omega)) (a4.2 _ (by omega) (by omega)), H2.fr (fun k hk => a4.2 k (by omega) (by omega)), H3.fr (fun _ _ _ => rfl) rfl rfl (fun k q1 q2 q3 => a4.2 k q3 (by omega)), ⟨E + 1, a3, by unfold Pot at H5 ⊢; omega⟩, H6.fr rfl (fun _ _ => rfl) (fun _ _ _ => Iff.rfl) (fun j _ _ _ => hF _ _), fun j hj => (H7 j hj).fr rfl rfl rfl rfl (fun w _ => hF _ _), H8, fun b hb hs h0 => by rw [hF]; exact H9 b hb hs h0⟩, a4, fun a a' c => ⟨⟨fun _ _ => rfl, fun _ _ => ⟨rfl, rfl, rfl, rfl⟩, fun _ _ => ⟨rfl, rfl⟩, fun _ _ => rfl⟩, fun _ _ => rfl, a4.1, fun k q1 q2 => ?_, fun _ _ _ _ _ => hF _ _, fun _ _ _ _ _ _ => hF _ _⟩⟩
  exact a4.2 k (by omega) (by omega)
theorem R.fails {c : Nat} (H : R p nd sv i V its rl B o h e μ) (hc : c < 8) :
    ∃ (b : Bool) (e' μ' : Mem), en_succeeds (nI c) e = some (b, e') ∧ md_fails (nI c) μ = some (!b, μ') ∧ R p nd sv i V its rl B o h e' μ' ∧ (∀ k, ¬ (9 ≤ k ∧ k < 17) → μ' 5 k = μ 5 k) ∧ ∀ a a' c, Fr nd its i a a' c o e μ o e' μ' := by
  obtain ⟨H1, H2, H3, ⟨E, H4, H5⟩, H6, H7, H8, H9⟩ := H
  obtain ⟨b, e', μ', a1, a2, a3, a4, a5, a6⟩ := fails_sim hc H2
  have hF : ∀ n w, Fm μ' i n w = Fm μ i n w := fun n w => a6 _ (by omega)
  exact ⟨b, e', μ', a1, a2, ⟨H1.fr (a5 1 (by decide)) (a5 3 (by decide)) (a6 _ (by omega)) (a6 _ (by omega)), a3, H3.fr (fun _ _ _ => rfl) rfl rfl (fun k q1 q2 q3 => a6 k (by omega)), ⟨E, H4.fr (a6 _ (by omega)) (fun k _ _ => a6 k (by omega)), H5⟩, H6.fr rfl (fun _ _ => rfl) (fun _ _ _ => Iff.rfl) (fun j _ _ _ => hF _ _), fun j hj => (H7 j hj).fr rfl rfl rfl rfl (fun w _ => hF _ _), H8, fun b hb hs h0 => by rw [hF]; exact H9 b hb hs h0⟩, a6, fun a a' c => ⟨⟨fun _ _ => rfl, fun _ _ => ⟨rfl, rfl, rfl, rfl⟩, fun _ _ => ⟨rfl, rfl⟩, fun _ _ => rfl⟩, a4, a5, fun k q1 q2 => a6 k (by omega), fun _ _ _ _ _ => hF _ _, fun _ _ _ _ _ _ => hF _ _⟩⟩
/-- only the fields of one item change, and of the cells none but its own -/
theorem Fr.one {j : Nat} (hn : NdS nd its) (hj : j < its) (h18 : ∀ k, k ≠ j → o' 18 k = o 18 k) (h22 : ∀ k, k ≠ j → o' 22 k = o 22 k) (h23 : ∀ k, k ≠ j → o' 23 k = o 23 k) (h24 : o' 24 = o 24) (h19 : o' 19 = o 19) (h20 : o' 20 = o 20) (h0 : ∀ w, w ≤ 5 → o' 0 w = o 0 w) (h17 : ∀ v, ¬ 0 < o 17 v → o' 17 v = o 17 v) (he : ∀ r, r ≠ 3 → e' r = e r) (hr : ∀ r, r ≠ 5 → μ' r = μ r) (hm : ∀ k, ¬ (643 + 1262 * i + 10 * nd j ≤ k ∧ k < 643 + 1262 * i + 10 * nd j + 10) → ¬ (21 + 1262 * i + 6 ≤ k ∧ k < 21 + 1262 * i + 622) → ¬ (9 ≤ k ∧ k < 17) → μ' 5 k = μ 5 k) : Fr nd its i j (j + 1) (j + 1) o e μ o' e' μ' := by
  have h64 := hn.l64 hj
  refine ⟨⟨h0, fun k hk => ⟨h18 k (by omega), h22 k (by omega), h23 k (by omega), by rw [h24]⟩, fun k _ => ⟨by rw [h19], by rw [h20]⟩, h17⟩, he, hr, fun k q1 q2 => hm k (by omega) (by omega) (by omega), fun k hk hk2 w hw => hm _ ?_ (by omega) (by omega), fun b hb hs _ w hw => hm _ ?_ (by omega) (by omega)⟩
  · intro q
    have : nd k ≠ nd j := fun q2 => by have := hn.inj hk hj q2; omega
    omega
  · have := hn.bst hj hb hs
    omega
theorem mS_0 : mS 0 = 0 := by decide
theorem mS_1 : mS 1 = 1 := by decide
theorem mS_2 : mS 2 = 1 := by decide
theorem mS_3 : mS 3 = 5 := by decide
theorem mS_4 : mS 4 = 2 := by decide
theorem mS_5 : mS 5 = 3 := by decide
theorem mS_6 : mS 6 = 4 := by decide
theorem mS_7 : mS 7 = 2 := by decide
theorem mS_8 : mS 8 = 2 := by decide
/-- an item comes to an end, other than a task that is done -/
theorem R.st {j : Nat} {x : Int32} (H : R p nd sv i V its rl B o h e μ) (hi : i < 6) (hn : NdS nd its) (hj : j < its) (hg : Gi (o 18 j)) (hx : x = 5 ∨ x = 6 ∨ (x = 4 ∧ p 7 j ≠ 0)) (h7 : Fm μ i (nd j) 7 = -1) (hB : B + wt x (o 23 j) (o 24 j) ≤ B' + wt (o 18 j) (o 23 j) (o 24 j)) :
    R p nd sv i V its rl B' (up o 18 j x) h e (up μ 5 (643 + 1262 * i + 10 * nd j + 0) (mS x)) ∧ Fr nd its i j (j + 1) (j + 1) o e μ (up o 18 j x) e (up μ 5 (643 + 1262 * i + 10 * nd j + 0) (mS x)) := by
  have h64 := hn.l64 hj
  have hj24 : j < 24 := by have := hn.2.1; omega
  have hF : Fr nd its i j (j + 1) (j + 1) o e μ (up o 18 j x) e (up μ 5 (643 + 1262 * i + 10 * nd j + 0) (mS x)) :=
    Fr.one hn hj (fun k hk => up_in hk) (fun k _ => up_cell (by decide)) (fun k _ => up_cell (by decide)) (up_row (by decide)) (up_row (by decide)) (up_row (by decide)) (fun w _ => up_cell (by decide)) (fun v _ => up_cell (by decide)) (fun _ _ => rfl) (fun r hr => up_row hr) (fun k q1 q2 q3 => up_in (by omega))
  refine ⟨H.item hi hj hF ?_ ?_ ?_ ?_ ?_, hF⟩
  · exact H.2.1.fr (fun k hk => up_in (by omega))
  · exact H.2.2.1.fr (fun w _ _ => up_cell (by decide)) (up_row (by decide)) (up_row (by decide)) (fun k q1 q2 q3 => up_in (by omega))
  · obtain ⟨E, q1, q2⟩ := H.2.2.2.1
    refine ⟨E, q1.fr (up_in (by omega)) (fun k _ _ => up_in (by omega)), ?_⟩
    unfold Pot at q2 ⊢
    have h1 := sm_upd (n := 24) (f := fun j => wt (o 18 j) (o 23 j) (o 24 j)) (g := fun k => wt ((up o 18 j x) 18 k) ((up o 18 j x) 23 k) ((up o 18 j x) 24 k)) hj24 (fun k _ hk => by
      show wt ((up o 18 j x) 18 k) ((up o 18 j x) 23 k) ((up o 18 j x) 24 k) = wt (o 18 k) (o 23 k) (o 24 k)
      rw [up_in hk, up_cell (by decide), up_cell (by decide)])
    simp only [up_at, up_cell (show (23 : Nat) ≠ 18 by decide), up_cell (show (24 : Nat) ≠ 18 by decide), up_cell (show (0 : Nat) ≠ 18 by decide)] at h1 ⊢
    omega
  · refine H.2.2.2.2.1.fr (up_cell (by decide)) (fun k _ => up_cell (by decide)) (fun k hk hp => ?_) (fun k hk hp hd => ?_)
    · by_cases q : k = j
      · subst q
        rw [up_at]
        have hx2 : x = 5 ∨ x = 6 := by
          rcases hx with w | w | w
          · exact Or.inl w
          · exact Or.inr w
          · exact absurd hp w.2
        constructor
        · intro w
          rcases hx2 with z | z
          · rw [z] at w; exact absurd w nDn5
          · rw [z] at w; exact absurd w nDn6
        · intro w
          exact absurd w (Gi_nDn hg)
      · rw [up_in q]
    · have : nd k ≠ nd j := fun q => by
        have := hn.inj hk hj q
        subst this
        exact absurd hd (Gi_nDn hg)
      exact up_in (by omega)
  · have hir := H.2.2.2.2.2.1 j hj
    obtain ⟨r1, r2, r3, r4, r5, r6, r7⟩ := hir
    have h6 : Fm μ i (nd j) 6 = 0 := r6 (by rcases hg with z | z | z <;> rw [z] <;> decide) (by rcases hg with z | z | z <;> rw [z] <;> decide)
    unfold IR
    have e6 : Fm (up μ 5 (643 + 1262 * i + 10 * nd j + 0) (mS x)) i (nd j) 6 = Fm μ i (nd j) 6 := up_in (by omega)
    have e7 : Fm (up μ 5 (643 + 1262 * i + 10 * nd j + 0) (mS x)) i (nd j) 7 = Fm μ i (nd j) 7 := up_in (by omega)
    have e0 : Fm (up μ 5 (643 + 1262 * i + 10 * nd j + 0) (mS x)) i (nd j) 0 = mS x := up_at
    rw [e0, e6, e7, up_at, h6, h7]
    have n0 : x ≠ 0 := by rcases hx with z | z | z <;> (try rw [z]) <;> (try rw [z.1]) <;> decide
    have n1 : x ≠ 1 := by rcases hx with z | z | z <;> (try rw [z]) <;> (try rw [z.1]) <;> decide
    have n2 : x ≠ 2 := by rcases hx with z | z | z <;> (try rw [z]) <;> (try rw [z.1]) <;> decide
    have n3 : x ≠ 3 := by rcases hx with z | z | z <;> (try rw [z]) <;> (try rw [z.1]) <;> decide
    have n7 : x ≠ 7 := by rcases hx with z | z | z <;> (try rw [z]) <;> (try rw [z.1]) <;> decide
    have n8 : x ≠ 8 := by rcases hx with z | z | z <;> (try rw [z]) <;> (try rw [z.1]) <;> decide
    have hk : ∃ k : Nat, k ≤ 8 ∧ x = nI k := by
      rcases hx with z | z | z
      · exact ⟨5, by omega, z⟩
      · exact ⟨6, by omega, z⟩
      · exact ⟨4, by omega, z.1⟩
    exact ⟨rfl, hk, fun q => absurd q n0, fun _ => rfl, fun q => (q.elim (fun z => absurd z n7) (fun z => absurd z n8)), fun _ _ => rfl, fun _ q => absurd q n1, fun _ q => absurd q n2, fun q => absurd q n2, fun q => absurd q n3, fun _ q => absurd q n1, fun _ q => absurd q n1, fun _ q => absurd q n1, fun q => absurd q n3, fun _ q => absurd q n1⟩
end RS
