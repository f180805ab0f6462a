/-! items without bodies -/
theorem up_other {m : Mem} {c i c' i' : Nat} {v : Int32} (h : ¬ (c' = c ∧ i' = i)) : up m c i v c' i' = m c' i' := by rw [up_eq, if_neg h]
theorem bind_eta2 {α β : Type} (x : Option (α × β)) : (x.bind fun (a, b) => some (a, b)) = x := by cases x <;> rfl
theorem IR.mk1 {p : Mem} {nd : Nat → Nat} {i j : Nat} {o μ : Mem} (h18 : o 18 j = 1) (h0 : Fm μ i (nd j) 0 = 1) (h7 : Fm μ i (nd j) 7 = -1) (h6 : Fm μ i (nd j) 6 = 0)
    (ht : p 7 j = 0 → Fm μ i (nd j) 3 = o 22 j ∧ Fm μ i (nd j) 2 = o 23 j ∧ (∃ a : Nat, 1 ≤ a ∧ a ≤ 10 ∧ o 23 j = nI a) ∧ ∃ u : Nat, u < 1048576 ∧ o 22 j = nI u)
    (hw : p 7 j = 1 → o 22 j = Fm μ i (nd j) 1 + p 10 j ∧ ∃ u : Nat, u < 1048576 ∧ o 22 j = nI u)
    (hs : p 7 j = 2 → (p 10 j = -1 → o 22 j = 1000000000) ∧ (p 10 j ≠ -1 → o 22 j = Fm μ i (nd j) 1 + p 10 j ∧ ∃ u : Nat, u < 1048576 ∧ o 22 j = nI u))
    (hc : (p 7 j = 4 ∨ p 7 j = 5) → o 22 j = 1000000000) (h23 : p 7 j ≠ 0 → o 23 j = 0) : IR p nd i o μ j := by
  unfold IR
  rw [h18]
  exact ⟨h0, ⟨1, by omega, rfl⟩, fun q => absurd q (by decide), fun _ => h7, fun q => absurd q (by decide), fun _ _ => h6, fun q _ => ht q, fun _ q => absurd q (by decide), fun q => absurd q (by decide), fun q => absurd q (by decide), fun q _ => hw q, fun q _ => hs q, fun q _ => hc q, fun q => absurd q (by decide), fun q _ => h23 q⟩
theorem IR.g6 {p : Mem} {nd : Nat → Nat} {i j : Nat} {o μ : Mem} (h : IR p nd i o μ j) (hg : o 18 j = 0 ∨ Gi (o 18 j)) : Fm μ i (nd j) 6 = 0 := by
  obtain ⟨r1, r2, r3, r4, r5, r6, r7⟩ := h
  refine r6 ?_ ?_ <;> (rcases hg with z | z | z | z <;> rw [z] <;> decide)
theorem IR.g7 {p : Mem} {nd : Nat → Nat} {i j : Nat} {o μ : Mem} (h : IR p nd i o μ j) (hg : o 18 j ≠ 3) : Fm μ i (nd j) 7 = -1 := h.2.2.2.1 hg
section RL
variable {p : Mem} {nd : Nat → Nat} {sv : Nat → Nat → Int32} {i V its rl B B' : Nat} {o h e μ o' h' e' μ' : Mem}
theorem R.node {j E x : Nat} (H : R p nd sv i V its rl B o h e μ) (hi : i < 6) (hn : NdS nd its) (hj : j < its)
    (ho : ∀ c k, ¬ (k = j ∧ (c = 18 ∨ c = 22 ∨ c = 23)) → o' c k = o c k) (hr : ∀ r, r ≠ 5 → μ' r = μ r)
    (hm : ∀ k, ¬ (643 + 1262 * i + 10 * nd j ≤ k ∧ k < 643 + 1262 * i + 10 * nd j + 10) → k ≠ 30 + 1262 * i → ¬ (43 + 1262 * i ≤ k ∧ k < 643 + 1262 * i) → μ' 5 k = μ 5 k)
    (hP : Pot E o ≤ B) (hH : HisR rl i (E + x) h' μ') (hB : B + x + wt (o' 18 j) (o' 23 j) (o' 24 j) ≤ B' + wt (o 18 j) (o 23 j) (o 24 j))
    (hd : p 7 j = 0 → (Dn (o' 18 j) ↔ Dn (o 18 j))) (hd5 : Dn (o 18 j) → Fm μ' i (nd j) 5 = Fm μ i (nd j) 5) (hIR : IR p nd i o' μ' j) :
    R p nd sv i V its rl B' o' h' e μ' ∧ Fr nd its i j (j + 1) (j + 1) o e μ o' e μ' := by
  have h64 := hn.l64 hj
  have hj24 : j < 24 := by have := hn.2.1; omega
  have hF : Fr nd its i j (j + 1) (j + 1) o e μ o' e μ' :=
    Fr.one hn hj (fun k hk => ho _ _ (by omega)) (fun k hk => ho _ _ (by omega)) (fun k hk => ho _ _ (by omega)) (funext fun k => ho _ _ (by omega)) (funext fun k => ho _ _ (by omega)) (funext fun k => ho _ _ (by omega)) (fun w _ => ho _ _ (by omega)) (fun v _ => ho _ _ (by omega)) (fun _ _ => rfl) hr (fun k q1 q2 q3 => hm k q1 (by omega) (by omega))
  refine ⟨H.item hi hj hF ?_ ?_ ?_ ?_ hIR, hF⟩
  · exact H.2.1.fr (fun k hk => hm k (by omega) (by omega) (by omega))
  · exact H.2.2.1.fr (fun w _ _ => ho _ _ (by omega)) (funext fun k => ho _ _ (by omega)) (funext fun k => ho _ _ (by omega)) (fun k q1 q2 q3 => hm k (by omega) q3 (by omega))
  · refine ⟨E + x, hH, ?_⟩
    unfold Pot at hP ⊢
    have h1 := sm_upd (n := 24) (f := fun j => wt (o 18 j) (o 23 j) (o 24 j)) (g := fun k => wt (o' 18 k) (o' 23 k) (o' 24 k)) hj24 (fun k _ hk => by
      show wt (o' 18 k) (o' 23 k) (o' 24 k) = wt (o 18 k) (o 23 k) (o 24 k)
      rw [ho 18 k (by omega), ho 23 k (by omega), ho 24 k (by omega)])
    rw [ho 0 3 (by omega), ho 23 24 (by omega), ho 24 24 (by omega)]
    omega
  · refine H.2.2.2.2.1.fr (ho _ _ (by omega)) (fun k _ => ho _ _ (by omega)) (fun k hk hp => ?_) (fun k hk hp hdn => ?_)
    · by_cases q : k = j
      · subst q; exact hd hp
      · rw [ho 18 k (by omega)]
    · by_cases q : k = j
      · subst q; exact hd5 hdn
      · have : nd k ≠ nd j := fun w => q (hn.inj hk hj w)
        exact hm _ (by omega) (by omega) (by omega)
/-- what a look at an item without bodies leaves -/
def LfP (p : Mem) (nd : Nat → Nat) (sv : Nat → Nat → Int32) (i V its rl B : Nat) (o e μ : Mem) (j : Nat) (o' h' e' μ' : Mem) (r : Int32) : Prop :=
  R p nd sv i V its rl B o' h' e' μ' ∧ Fr nd its i j (j + 1) (j + 1) o e μ o' e' μ' ∧ r = mS (o' 18 j) ∧
  ((Gi (o' 18 j) ∧ e' 1 2 < o' 22 j ∧ p 7 j ≠ 3 ∧ (p 7 j = 2 → ∀ c, c < 8 → p 9 j = nI c → ¬ 0 < o' 17 c)) ∨ o' 18 j = 4 ∨ o' 18 j = 5)
theorem wt1_0 {r : Int32} : wt 1 0 r = 38 := by unfold wt; rw [if_neg (by decide), if_pos rfl]; rfl
theorem wt4 {a r : Int32} : wt 4 a r = 4 := by unfold wt; rw [if_neg (by decide), if_neg (by decide), if_neg (by decide), if_neg (by decide), if_pos rfl]
theorem wt5 {a r : Int32} : wt 5 a r = 0 := by unfold wt; rw [if_neg (by decide), if_neg (by decide), if_neg (by decide), if_neg (by decide), if_neg (by decide)]
theorem wt6 {a r : Int32} : wt 6 a r = 0 := by unfold wt; rw [if_neg (by decide), if_neg (by decide), if_neg (by decide), if_neg (by decide), if_neg (by decide)]
theorem wt0 {a r : Int32} : wt 0 a r = 40 := by unfold wt; rw [if_pos rfl]
theorem wt1 {a : Nat} {r : Int32} (h : a < 2 ^ 31) : wt 1 (nI a) r = 38 - 2 * a := by unfold wt; rw [if_neg (by decide), if_pos rfl, nI_clamp h]
theorem wt2 {a : Nat} {r : Int32} (h : a < 2 ^ 31) : wt 2 (nI a) r = 37 - 2 * a := by unfold wt; rw [if_neg (by decide), if_neg (by decide), if_pos rfl, nI_clamp h]
theorem wait_sim {j N D : Nat} {x2 : Int32} {Bx : Bool → Int32 → Int32 → Mem → Mem → Mem → Option (Mem × Mem × Mem)} {Bm : Int32 → Int32 → Mem → Option (Int32 × Mem)} (H : R p nd sv i V its rl B o h e μ) (hi : i < 6) (hn : NdS nd its) (hj : j < its) (hs : SI p nd sv j) (hk : p 7 j = 1) (h1 : o 18 j = 1) :
    ∃ o' h' e' μ' r, in_lookAt N rl p Bx (nI j) x2 o h e = some (o', h', e') ∧ md_looks N D Bm (nI i) (nI (nd j)) μ = some (r, μ') ∧ LfP p nd sv i V its rl B o e μ j o' h' e' μ' r := by
  have h64 := hn.l64 hj
  have hj24 : j < 24 := by have := hn.2.1; omega
  have hir := H.2.2.2.2.2.1 j hj
  obtain ⟨hu, u, hu1, hu2⟩ := hir.2.2.2.2.2.2.2.2.2.2.1 hk h1
  have h23 : o 23 j = 0 := hir.2.2.2.2.2.2.2.2.2.2.2.2.2.2 (by rw [hk]; decide) h1
  have hs2 : sv (nd j) 0 = 2 ∧ ∃ a : Nat, a ≤ 999 ∧ p 10 j = nI a ∧ sv (nd j) 1 = nI a := by
    rcases hs.2.2.2 with q | q | q | q | q | q
    · rw [hk] at q; exact absurd q.1 (by decide)
    · exact q.2
    · rw [hk] at q; exact absurd q.1 (by decide)
    · rw [hk] at q; exact absurd q.1 (by decide)
    · rw [hk] at q; exact absurd q.1 (by decide)
    · rw [hk] at q; exact absurd q.1 (by decide)
  obtain ⟨s0, a, _, s1, s2⟩ := hs2
  have hX : in_lookAt N rl p Bx (nI j) x2 o h e = if e 1 2 < o 22 j then some (o, h, e) else some (up o 18 j 4, h, e) := by
    unfold in_lookAt
    rw [rd_nI hj24 (by decide), Option.bind_some, hk, if_neg (by decide), if_pos rfl]
    unfold in_lookAtWait
    rw [rd_nI (by omega) (by decide), Option.bind_some]
    by_cases q : e 1 2 < o 22 j
    · rw [if_pos q, if_pos q]; rfl
    · rw [if_neg q, if_neg q, ck_nI hj24 (by decide), nI_clamp (by omega)]; rfl
  have hM : md_looks N D Bm (nI i) (nI (nd j)) μ = if e 1 2 < o 22 j then some (1, μ) else some (2, up μ 5 (643 + 1262 * i + 10 * nd j + 0) 2) := by
    unfold md_looks
    rw [H.1.np0 hi h64, Option.bind_some, s0, if_neg (by decide), if_pos rfl, rd70, Option.bind_some, at_1, Option.bind_some, rd_nI (by omega) (by decide), Option.bind_some, H.1.np1 hi h64, Option.bind_some, H.2.1.1, hu, s1, s2, comesTo_ev hi h64]
    rfl
  by_cases q : e 1 2 < o 22 j
  · refine ⟨o, h, e, μ, 1, by rw [hX, if_pos q], by rw [hM, if_pos q], H, Fr.refl, by rw [h1]; rfl, Or.inl ⟨by rw [h1]; exact Gi1, q, by rw [hk]; decide, fun w => ?_⟩⟩
    exact absurd (hk.symm.trans w) (by decide)
  · obtain ⟨r1, r2⟩ := H.st (B' := B) (x := 4) hi hn hj (by rw [h1]; exact Gi1) (Or.inr (Or.inr ⟨rfl, by rw [hk]; decide⟩)) (hir.g7 (by rw [h1]; decide)) (by rw [h1, h23, wt1_0, wt4]; omega)
    exact ⟨_, h, e, _, 2, by rw [hX, if_neg q], by rw [hM, if_neg q, mS_4], r1, r2, by rw [up_at]; rfl, Or.inr (Or.inl up_at)⟩
theorem pend9 {x : Int32} (h0 : 0 < x) (h9 : ¬ 9 < x) : ¬ 9 < x - 1 := by
  obtain ⟨j, hj, rfl⟩ := nI_of (x := x) (fun q => by
    rw [Int32.lt_iff_toInt_lt] at h0 q
    have z : (0 : Int32).toInt = 0 := by decide
    omega)
  have h1 : 0 < j := (nI_ltI (a := 0) (b := j) (by decide) hj).mp h0
  have h2 : j ≤ 9 := Nat.not_lt.mp (fun z => h9 (nI_lt z hj))
  rw [show nI j - 1 = nI (j - 1) from pk_sub (a := j) (b := 1) h1]
  exact nI_nlt (a := 9) (b := j - 1) (by omega) (by decide)
theorem R.pend {c : Nat} (H : R p nd sv i V its rl B o h e μ) (hi : i < 6) (hc : c < 8) (h0 : 0 < o 17 c) (v : Int32) (hv9 : ¬ 9 < v) : R p nd sv i V its rl B (up o 17 c v) h e (up μ 5 (21 + 1262 * i + (14 + c)) v) ∧ ∀ a a' g, Fr nd its i a a' g o e μ (up o 17 c v) e (up μ 5 (21 + 1262 * i + (14 + c)) v) := by
  obtain ⟨H1, H2, H3, ⟨E, H4, H5⟩, H6, H7, H8, H9⟩ := H
  have hF : ∀ n w, Fm (up μ 5 (21 + 1262 * i + (14 + c)) v) i n w = Fm μ i n w := fun n w => up_in (by omega)
  refine ⟨⟨H1.fr (up_row (by decide)) (up_row (by decide)) (up_in (by omega)) (up_in (by omega)), H2.fr (fun k _ => up_in (by omega)), ?_, ⟨E, H4.fr (up_in (by omega)) (fun k _ _ => up_in (by omega)), ?_⟩, H6.fr (up_cell (by decide)) (fun _ _ => up_cell (by decide)) (fun j _ _ => by rw [up_cell (by decide)]) (fun _ _ _ _ => hF _ _), fun j hj => (H7 j hj).fr (up_cell (by decide)) (up_cell (by decide)) (up_cell (by decide)) (up_cell (by decide)) (fun w _ => hF _ _), fun j q1 q2 => by rw [up_cell (by decide)]; exact H8 j q1 q2, fun b hb hs q => by rw [hF]; exact H9 b hb hs q⟩, fun a a' g => ⟨⟨fun w _ => up_cell (by decide), fun k _ => ⟨up_cell (by decide), up_cell (by decide), up_cell (by decide), up_cell (by decide)⟩, fun k _ => ⟨up_cell (by decide), up_cell (by decide)⟩, fun w hw => ?_⟩, fun _ _ => rfl, fun r hr => up_row hr, fun k _ _ => up_in (by omega), fun _ _ _ _ _ => hF _ _, fun _ _ _ _ _ _ => hF _ _⟩⟩
  · obtain ⟨q1, q2, q3, q4, q5⟩ := H3
    refine ⟨by rw [up_in (by omega), up_cell (by decide)]; exact q1, by rw [up_in (by omega), up_cell (by decide)]; exact q2, by rw [up_in (by omega), up_cell (by decide)]; exact q3, fun w hw => by rw [up_in (by omega), up_cell (by decide)]; exact q4 w hw, fun w hw => ?_⟩
    by_cases q : w = c
    · subst q; rw [up_at, up_at]; exact ⟨rfl, hv9⟩
    · rw [up_in (by omega), up_in q]; exact q5 w hw
  · unfold Pot at H5 ⊢
    rw [up_cell (by decide), up_cell (by decide), up_cell (by decide)]
    rw [sm_same (f := fun j => wt (o 18 j) (o 23 j) (o 24 j)) (fun k _ => by
      show wt ((up o 17 c v) 18 k) ((up o 17 c v) 23 k) ((up o 17 c v) 24 k) = _
      rw [up_cell (by decide), up_cell (by decide), up_cell (by decide)])]
    exact H5
  · exact up_in (fun q => by subst q; exact hw h0)
theorem R.var {c : Nat} (H : R p nd sv i V its rl B o h e μ) (hi : i < 6) (hc : c < 4) (v : Int32) : R p nd sv i V its rl B (up o 16 c v) h e (up μ 5 (21 + 1262 * i + (10 + c)) v) ∧ ∀ a a' g, Fr nd its i a a' g o e μ (up o 16 c v) e (up μ 5 (21 + 1262 * i + (10 + c)) v) := by
  obtain ⟨H1, H2, H3, ⟨E, H4, H5⟩, H6, H7, H8, H9⟩ := H
  have hF : ∀ n w, Fm (up μ 5 (21 + 1262 * i + (10 + c)) v) i n w = Fm μ i n w := fun n w => up_in (by omega)
  refine ⟨⟨H1.fr (up_row (by decide)) (up_row (by decide)) (up_in (by omega)) (up_in (by omega)), H2.fr (fun k _ => up_in (by omega)), ?_, ⟨E, H4.fr (up_in (by omega)) (fun k _ _ => up_in (by omega)), ?_⟩, H6.fr (up_cell (by decide)) (fun _ _ => up_cell (by decide)) (fun j _ _ => by rw [up_cell (by decide)]) (fun _ _ _ _ => hF _ _), fun j hj => (H7 j hj).fr (up_cell (by decide)) (up_cell (by decide)) (up_cell (by decide)) (up_cell (by decide)) (fun w _ => hF _ _), fun j q1 q2 => by rw [up_cell (by decide)]; exact H8 j q1 q2, fun b hb hs q => by rw [hF]; exact H9 b hb hs q⟩, fun a a' g => ⟨⟨fun w _ => up_cell (by decide), fun k _ => ⟨up_cell (by decide), up_cell (by decide), up_cell (by decide), up_cell (by decide)⟩, fun k _ => ⟨up_cell (by decide), up_cell (by decide)⟩, fun w hw => up_cell (by decide)⟩, fun _ _ => rfl, fun r hr => up_row hr, fun k _ _ => up_in (by omega), fun _ _ _ _ _ => hF _ _, fun _ _ _ _ _ _ => hF _ _⟩⟩
  · obtain ⟨q1, q2, q3, q4, q5⟩ := H3
    refine ⟨by rw [up_in (by omega), up_cell (by decide)]; exact q1, by rw [up_in (by omega), up_cell (by decide)]; exact q2, by rw [up_in (by omega), up_cell (by decide)]; exact q3, fun w hw => ?_, fun w hw => by rw [up_in (by omega), up_cell (by decide)]; exact q5 w hw⟩
    by_cases q : w = c
    · subst q; rw [up_at, up_at]
    · rw [up_in (by omega), up_in q]; exact q4 w hw
  · unfold Pot at H5 ⊢
    rw [up_cell (by decide), up_cell (by decide), up_cell (by decide)]
    rw [sm_same (f := fun j => wt (o 18 j) (o 23 j) (o 24 j)) (fun k _ => by
      show wt ((up o 16 c v) 18 k) ((up o 16 c v) 23 k) ((up o 16 c v) 24 k) = _
      rw [up_cell (by decide), up_cell (by decide), up_cell (by decide)])]
    exact H5
end RL
