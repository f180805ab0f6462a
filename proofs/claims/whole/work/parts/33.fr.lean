/-! frames; the relation under changes of one item -/
theorem En_eq {p : Mem} {j m : Nat} (h : p 14 j = nI m) (hm : m < 2 ^ 31) : En p j = m := by unfold En; rw [h, nI_clamp hm]
theorem RevX.ag {p : Mem} {nd : Nat → Nat} {i j c : Nat} {o μ o' μ' : Mem} (h : RevX p nd i j (nd j) o μ (j + 1) c) (hc : j < c) (g : Ag nd i j (j + 1) c o μ o' μ') : RevX p nd i j (nd j) o' μ' (j + 1) c := by
  obtain ⟨t, f, u, cd, q1, q2, q3, q4, q5, q6, q7, q8, q9, q10, q11, q12, q13, q14⟩ := h
  obtain ⟨w1, w2, w3, w4, w5⟩ := g.1 j (by omega) hc
  refine ⟨t, f, u, cd, q1, q2, by rw [w4]; exact q3, by rw [(g.1 t (by omega) q2).1]; exact q4, q5, q6, q7, ?_, q9, by rw [w3]; exact q10, ?_, q12, by rw [w2]; exact q13, ?_⟩
  · rw [w5 7 (by omega)]; exact q8
  · rw [w5 8 (by omega)]; exact q11
  · rw [w5 9 (by omega)]; exact q14
/-- the bodies of an item lie within it -/
theorem Ch.body {p : Mem} {nd : Nat → Nat} {sv : Nat → Nat → Int32} {f d bn j be : Nat} (h : Ch p nd sv (f + 1) d bn j be) (hb : be ≤ 24) {k : Nat} (hk : k < 4) (hp : p 15 (4 * j + k) ≠ -1) (hl : ¬ Lf (p 7 j)) :
    j + 1 ≤ Bs p j k ∧ Bs p j k < Bs p j (k + 1) ∧ Bs p j (k + 1) ≤ En p j ∧ Ch p nd sv f (d + 1) (nd (Bs p j k) - 1) (Bs p j k) (Bs p j (k + 1)) ∧ p 15 (4 * j + k) = nI (Bs p j k) ∧ Bst nd (Bs p j k) := by
  obtain ⟨m, nb, h1, h2, h3, h4, h5, h6⟩ := h
  have he : En p j = m := En_eq h3 (by omega)
  rcases h6 with ⟨q, _⟩ | ⟨q1, q2, q3, q4, q5, q6⟩
  · exact absurd q hl
  · have hn : nb ≤ 4 := by rcases q1 with q | q <;> omega
    have hkn : k < nb := Nat.not_le.mp (fun w => hp (q5 k w hk))
    obtain ⟨w1, w2, _, _, _, _, w7⟩ := q6 k hkn
    have hend : Bs p j nb = m := by
      by_cases w : nb < 4
      · exact Bs_end h3 (by omega) (fun ⟨_, z⟩ => z (q5 nb (Nat.le_refl _) w))
      · exact Bs_end h3 (by omega) (fun ⟨z, _⟩ => w z)
    have hlo : ∀ k, k < nb → j + 1 ≤ Bs p j k := by
      intro k
      induction k with
      | zero => intro _; rw [q4]; exact Nat.le_refl _
      | succ k ih =>
        intro hk
        have := (q6 k (by omega)).2.2.2.2.2.2.lt
        have := ih (by omega)
        omega
    have hhi : ∀ x k, k + x = nb → Bs p j k ≤ m := by
      intro x
      induction x with
      | zero => intro k hk; rw [show k = nb by omega, hend]; exact Nat.le_refl _
      | succ x ih =>
        intro k hk
        have := (q6 k (by omega)).2.2.2.2.2.2.lt
        have := ih (k + 1) (by omega)
        omega
    exact ⟨hlo k hkn, w7.lt, by rw [he]; exact hhi (nb - (k + 1)) (k + 1) (by omega), w7, w1, w2⟩
theorem Ch.choice {p : Mem} {nd : Nat → Nat} {sv : Nat → Nat → Int32} {f d bn j be : Nat} (h : Ch p nd sv (f + 1) d bn j be) (h4 : p 7 j = 4) : (∀ k, k < 2 → p 15 (4 * j + k) ≠ -1) ∧ ∀ k, 2 ≤ k → k < 4 → p 15 (4 * j + k) = -1 := by
  obtain ⟨m, nb, h1, h2, h3, h5, h6, h7⟩ := h
  rcases h7 with ⟨q, _⟩ | ⟨q1, q2, q3, q4, q5, q6⟩
  · exfalso
    rw [h4] at q
    unfold Lf at q
    revert q; decide
  · have hn : nb = 2 := by
      rcases q1 with q | q
      · exact q.2
      · exfalso
        have := q.1
        rw [h4] at this
        revert this; decide
    subst hn
    refine ⟨fun k hk e => ?_, q5⟩
    obtain ⟨w1, _⟩ := q6 k hk
    have hb : Bs p j k = (p 14 j).toNatClampNeg := by unfold Bs; rw [if_neg (fun z => z.2 e)]
    rw [hb, h3] at w1
    rw [e] at w1
    have hlt : (nI m).toNatClampNeg < 2 ^ 31 := Int32.toNatClampNeg_lt _
    exact nI_m1 hlt w1.symm
theorem GoI.ag {p : Mem} {nd : Nat → Nat} {sv : Nat → Nat → Int32} {i f d bn j be : Nat} {o μ o' μ' : Mem} {C C' : Nat → Nat → Nat → Prop} (hc : Ch p nd sv (f + 1) d bn j be) (hb : be ≤ 24) (h : GoI p nd i o μ C j (En p j)) (g : Ag nd i j (j + 1) (En p j) o μ o' μ')
    (hC : ∀ k cu, k < 4 → p 15 (4 * j + k) ≠ -1 → ¬ Lf (p 7 j) → C (Bs p j k) (Bs p j (k + 1)) cu → C' (Bs p j k) (Bs p j (k + 1)) cu) : GoI p nd i o' μ' C' j (En p j) := by
  have hm : j < En p j := by
    obtain ⟨m, nb, h1, h2, h3, _⟩ := hc
    rw [En_eq h3 (by omega)]; exact h1
  obtain ⟨w1, w2, w3, w4, w5⟩ := g.1 j (Nat.le_refl _) hm
  rcases h with q | ⟨q0, q1, k, q2, q3, q4, q5, q6, cu, q7, q8⟩ | ⟨q0, q1, q2, q3⟩
  · exact Or.inl q
  · have hl : ¬ Lf (p 7 j) := by rw [q0]; unfold Lf; decide
    obtain ⟨c1, c2⟩ := hc.choice q0
    obtain ⟨b1, b2, b3, _, _, b6⟩ := hc.body hb (k := k) (by omega) (c1 k q2) hl
    obtain ⟨e1, e2, e3, _, _, e6⟩ := hc.body hb (k := 1 - k) (by omega) (c1 (1 - k) (by omega)) hl
    obtain ⟨x1, x2, x3⟩ := g.2 (Bs p j k) (by omega) (by omega)
    have hk2 : 1 - k + 1 = 2 - k := by omega
    rw [hk2] at e2 e3
    exact Or.inr (Or.inl ⟨q0, by rw [w1]; exact q1, k, q2, by rw [w5 2 (by omega)]; exact q3, q4.ag (g.sub (by omega) (by omega) (by omega)), by rw [x1]; exact q5, by rw [x3 b6 0 (by omega)]; exact q6, cu, by rw [x2]; exact q7, hC k cu (by omega) (c1 k q2) hl q8⟩)
  · have hl : ¬ Lf (p 7 j) := by rw [q0]; unfold Lf; decide
    refine Or.inr (Or.inr ⟨q0, by rw [w1]; exact q1, fun h3 => ?_, fun k hk hp => ?_⟩)
    · rw [w1] at h3
      obtain ⟨r1, r2⟩ := q2 h3
      exact ⟨r1.ag (g.sub (a := j) (a' := j + 1) (b := j + 1) (b' := j + 1) (by omega) (by omega) (Nat.le_refl _)), r2.ag hm g⟩
    · obtain ⟨b1, b2, b3, _, _, b6⟩ := hc.body hb hk hp hl
      obtain ⟨x1, x2, x3⟩ := g.2 (Bs p j k) (by omega) (by omega)
      obtain ⟨r1, r2⟩ := q3 k hk hp
      refine ⟨by rw [x3 b6 0 (by omega), x1]; exact r1, ?_⟩
      rcases r2 with ⟨s1, s2, cu, s3, s4⟩ | ⟨s1, s2, s3⟩ | ⟨s1, s2⟩
      · exact Or.inl ⟨by rw [w1]; exact s1, by rw [x1]; exact s2, cu, by rw [x2]; exact s3, hC k cu hk hp hl s4⟩
      · exact Or.inr (Or.inl ⟨by rw [w1]; exact s1, by rw [x1]; exact s2, s3.ag (g.sub (a' := j + 1) (b' := j + 1) (by omega) (by omega) (by omega))⟩)
      · exact Or.inr (Or.inr ⟨by rw [w1]; exact s1, by rw [x1]; exact s2⟩)
theorem RunC.ag {p : Mem} {nd : Nat → Nat} {sv : Nat → Nat → Int32} {i : Nat} {o μ o' μ' : Mem} : ∀ (f d bn j be cur : Nat), Ch p nd sv f d bn j be → be ≤ 24 → RunC p nd i o μ f j be cur → Ag nd i j (j + 1) be o μ o' μ' → RunC p nd i o' μ' f j be cur
  | 0, _, _, _, _, _, h, _, _, _ => h.elim
  | f + 1, d, bn, j, be, cur, h, hb, hr, g => by
    have hc := h
    obtain ⟨m, nb, h1, h2, h3, h4, h5, h6⟩ := h
    have he : En p j = m := En_eq h3 (by omega)
    obtain ⟨w1, _⟩ := g.1 j (Nat.le_refl _) (by omega)
    rcases hr with ⟨q1, q2, q3, q4⟩ | ⟨q1, q2, q3, q4⟩
    · refine Or.inl ⟨q1, by rw [w1]; exact q2, q3.ag (g.sub (by omega) (by omega) (Nat.le_refl _)), q4.ag hc hb (g.sub (Nat.le_refl _) (Nat.le_refl _) (by omega)) (fun k cu hk hp hl hC => ?_)⟩
      obtain ⟨b1, b2, b3, b4, _, _⟩ := hc.body hb hk hp hl
      exact RunC.ag f _ _ _ _ cu b4 (by omega) hC (g.sub (by omega) (by omega) (by omega))
    · rcases h5 with ⟨r1, _⟩ | ⟨r1, r2, r3, r4⟩
      · omega
      · refine Or.inr ⟨by rw [w1]; exact q1, q2.ag (g.sub (a' := j + 1) (b' := j + 1) (Nat.le_refl _) (Nat.le_refl _) (by omega)), q3, ?_⟩
        rw [he] at q4 ⊢
        exact RunC.ag f _ _ _ _ cur r4 hb q4 (g.sub (by omega) (by omega) (Nat.le_refl _))
