/-! compensation -/
theorem sm_upd2 {n j k : Nat} {f g : Nat → Nat} (hj : j < n) (hk : k < n) (hjk : j ≠ k) (h : ∀ x, x < n → x ≠ j → x ≠ k → g x = f x) : sm n g + f j + f k = sm n f + g j + g k := by
  have h1 := sm_upd (n := n) (j := j) (f := f) (g := fun x => if x = j then g j else f x) hj (fun x _ hx => by show (if x = j then g j else f x) = f x; rw [if_neg hx])
  have h2 := sm_upd (n := n) (j := k) (f := fun x => if x = j then g j else f x) (g := g) hk (fun x hx hxk => by
    show g x = if x = j then g j else f x
    by_cases q : x = j
    · rw [if_pos q, q]
    · rw [if_neg q, h x hx q hxk])
  rw [if_pos rfl] at h1
  rw [if_neg (fun q => hjk q.symm)] at h2
  omega
section RV
variable {p : Mem} {nd : Nat → Nat} {sv : Nat → Nat → Int32} {i V its rl B B' N : Nat} {o h e μ o' h' e' μ' : Mem}
theorem c36_19 (h : o' 19 = o 19) : ∀ (n : Nat) (a b c d : Int32), in_concerns_36 N p o' n a b c d = in_concerns_36 N p o n a b c d
  | 0, _, _, _, _ => rfl
  | n + 1, a, b, c, d => by
    unfold in_concerns_36
    simp only [c36_19 h n, h]
theorem con_19 (h : o' 19 = o 19) (a b : Int32) : in_concerns N p o' a b = in_concerns N p o a b := by
  unfold in_concerns
  simp only [c36_19 h]
def wc (a r : Int32) : Nat := if r < 0 then 5 else 4 - a.toNatClampNeg
/-- who compensates: a parallel, or the instance -/
def Own (p : Mem) (nd : Nat → Nat) (its : Nat) (o : Mem) (w n : Nat) : Prop := (w = 24 ∧ n = 0 ∧ o 0 3 = 2) ∨ (w < its ∧ n = nd w ∧ p 7 w = 5 ∧ o 18 w = 3)
theorem Own.w25 {w n : Nat} (hn : NdS nd its) (h : Own p nd its o w n) : w < 25 ∧ n < 64 := by
  have := hn.2.1
  rcases h with ⟨q1, q2, _⟩ | ⟨q1, q2, _⟩
  · omega
  · have := hn.l64 q1; omega
theorem Pot_comp {w n t E E' : Nat} (hn : NdS nd its) (hw : Own p nd its o w n) (ht : t < its) (htp : p 7 t = 0)
    (ho : ∀ c k, ¬ ((c = 18 ∧ k = t) ∨ (c = 0 ∧ (k = 7 ∨ k = 8)) ∨ (k = w ∧ (c = 22 ∨ c = 23 ∨ c = 24))) → o' c k = o c k)
    (hE : E' + wt (o' 18 t) (o 23 t) (o 24 t) + wc (o' 23 w) (o' 24 w) ≤ E + wt (o 18 t) (o 23 t) (o 24 t) + wc (o 23 w) (o 24 w)) : Pot E' o' ≤ Pot E o := by
  have hits := hn.2.1
  unfold Pot
  rcases hw with ⟨q1, q2, q3⟩ | ⟨q1, q2, q3, q4⟩
  · subst q1
    have h1 := sm_upd (n := 24) (j := t) (f := fun j => wt (o 18 j) (o 23 j) (o 24 j)) (g := fun j => wt (o' 18 j) (o' 23 j) (o' 24 j)) (by omega) (fun k hk hkt => by
      show wt (o' 18 k) (o' 23 k) (o' 24 k) = wt (o 18 k) (o 23 k) (o 24 k)
      rw [ho 18 k (by omega), ho 23 k (by omega), ho 24 k (by omega)])
    have e1 : wt (o' 18 t) (o' 23 t) (o' 24 t) = wt (o' 18 t) (o 23 t) (o 24 t) := by rw [ho 23 t (by omega), ho 24 t (by omega)]
    have e2 : wW (o' 0 3) (o' 23 24) (o' 24 24) = wc (o' 23 24) (o' 24 24) := by rw [ho 0 3 (by omega), q3]; rfl
    have e3 : wW (o 0 3) (o 23 24) (o 24 24) = wc (o 23 24) (o 24 24) := by rw [q3]; rfl
    rw [e2, e3]
    rw [e1] at h1
    omega
  · have hwt : w ≠ t := fun q => by subst q; rw [q3] at htp; exact absurd htp (by decide)
    have h1 := sm_upd2 (n := 24) (j := t) (k := w) (f := fun j => wt (o 18 j) (o 23 j) (o 24 j)) (g := fun j => wt (o' 18 j) (o' 23 j) (o' 24 j)) (by omega) (by omega) (fun q => hwt q.symm) (fun k hk hkt hkw => by
      show wt (o' 18 k) (o' 23 k) (o' 24 k) = wt (o 18 k) (o 23 k) (o 24 k)
      rw [ho 18 k (by omega), ho 23 k (by omega), ho 24 k (by omega)])
    have e1 : wt (o' 18 t) (o' 23 t) (o' 24 t) = wt (o' 18 t) (o 23 t) (o 24 t) := by rw [ho 23 t (by omega), ho 24 t (by omega)]
    have e2 : wt (o' 18 w) (o' 23 w) (o' 24 w) = wc (o' 23 w) (o' 24 w) := by rw [ho 18 w (by omega), q4]; rfl
    have e3 : wt (o 18 w) (o 23 w) (o 24 w) = wc (o 23 w) (o 24 w) := by rw [q4]; rfl
    rw [ho 0 3 (by omega), ho 23 24 (by omega), ho 24 24 (by omega)]
    rw [e1, e2, e3] at h1
    omega
theorem R.comp {w n t E : Nat} (H : R p nd sv i V its rl B o h e μ) (hi : i < 6) (hn : NdS nd its) (hw : Own p nd its o w n) (ht : t < its) (htp : p 7 t = 0)
    (ho : ∀ c k, ¬ ((c = 18 ∧ k = t) ∨ (c = 0 ∧ (k = 7 ∨ k = 8)) ∨ (k = w ∧ (c = 22 ∨ c = 23 ∨ c = 24))) → o' c k = o c k) (hr : ∀ r, r ≠ 5 → μ' r = μ r)
    (hm : ∀ k, ¬ (643 + 1262 * i + 10 * n + 7 ≤ k ∧ k < 643 + 1262 * i + 10 * n + 10) → k ≠ 643 + 1262 * i + 10 * nd t + 6 → k ≠ 21 + 1262 * i + 7 → k ≠ 21 + 1262 * i + 8 → k ≠ 30 + 1262 * i → ¬ (43 + 1262 * i ≤ k ∧ k < 643 + 1262 * i) → μ' 5 k = μ 5 k)
    (h7 : μ' 5 (21 + 1262 * i + 7) = o' 0 7) (h8 : μ' 5 (21 + 1262 * i + 8) = o' 0 8) (hE : HisR rl i E h' μ') (hP : Pot E o' ≤ B')
    (hT : (o' 18 t = o 18 t ∧ Fm μ' i (nd t) 6 = Fm μ i (nd t) 6) ∨ (o 18 t = 4 ∧ (o' 18 t = 7 ∨ o' 18 t = 8) ∧ Fm μ' i (nd t) 6 ≠ 0))
    (hO : w < its → (o' 24 w = -1 ∧ Fm μ' i n 7 = -1) ∨ (o' 24 w ≠ -1 ∧ (∃ n' : Nat, n' < 64 ∧ Fm μ' i n 7 = nI n') ∧ Fm μ' i n 9 = o' 22 w ∧ ∃ u : Nat, u < 1048576 ∧ o' 22 w = nI u)) : R p nd sv i V its rl B' o' h' e μ' := by
  have hits := hn.2.1
  have hn0 : n = 0 ∨ (w < its ∧ n = nd w) := by rcases hw with q | q <;> omega
  have ht64 := hn.l64 ht
  have hn64 := (hw.w25 hn).2
  have htw : t ≠ w := fun q => by
    rcases hw with ⟨q1, _⟩ | ⟨q1, q2, q3, _⟩
    · omega
    · subst q; rw [q3] at htp; exact absurd htp (by decide)
  have nne : ∀ j, j < its → j ≠ w → nd j ≠ n := fun j hj hjw q => by
    have := hn.pos hj
    rcases hn0 with z | ⟨z1, z2⟩
    · omega
    · exact hjw (hn.inj hj z1 (q.trans z2))
  have nbe : ∀ b, b < its → Bst nd b → b ≠ 0 → nd b - 1 ≠ n := fun b hb hs h0 q => by
    have hl := hn.lt hb (show 0 < b by omega)
    have h00 := hn.2.2.1
    rcases hn0 with z | ⟨z1, z2⟩
    · omega
    · exact hn.bst z1 hb hs (q.trans z2)
  have hF : ∀ j, j < its → j ≠ w → ∀ k, k < 10 → (j = t → k ≠ 6) → Fm μ' i (nd j) k = Fm μ i (nd j) k := fun j hj hjw k hk hk6 => by
    have := nne j hj hjw
    have h1 : nd j = nd t → k ≠ 6 := fun q => hk6 (hn.inj hj ht q)
    refine hm _ ?_ ?_ (by omega) (by omega) (by omega) (by omega)
    · omega
    · intro q
      by_cases z : nd j = nd t
      · have := h1 z; omega
      · omega
  refine ⟨H.1.fr (hr 1 (by decide)) (hr 3 (by decide)) (hm _ (by omega) (by omega) (by omega) (by omega) (by omega) (by omega)) (hm _ (by omega) (by omega) (by omega) (by omega) (by omega) (by omega)), ?_, ?_, ⟨E, hE, hP⟩, ?_, fun j hj => ?_, fun j h1 h2 => ?_, fun b hb hs h0 => ?_⟩
  · exact H.2.1.fr (fun k hk => hm k (by omega) (by omega) (by omega) (by omega) (by omega) (by omega))
  · obtain ⟨q1, q2, q3, q4, q5⟩ := H.2.2.1
    refine ⟨?_, h7, h8, fun v hv => ?_, fun v hv => ?_⟩
    · rw [hm _ (by omega) (by omega) (by omega) (by omega) (by omega) (by omega), ho 0 6 (by omega)]; exact q1
    · rw [hm _ (by omega) (by omega) (by omega) (by omega) (by omega) (by omega), ho 16 v (by omega)]; exact q4 v hv
    · rw [hm _ (by omega) (by omega) (by omega) (by omega) (by omega) (by omega), ho 17 v (by omega)]; exact q5 v hv
  · refine H.2.2.2.2.1.fr (ho 0 6 (by omega)) (fun k _ => ho 21 k (by omega)) (fun j hj hp => ?_) (fun j hj hp hd => ?_)
    · by_cases q : j = t
      · subst q
        rcases hT with ⟨z, _⟩ | ⟨z1, z2, _⟩
        · rw [z]
        · rw [z1]
          rcases z2 with z2 | z2 <;> rw [z2] <;> unfold Dn <;> decide
      · rw [ho 18 j (by omega)]
    · by_cases q : j = w
      · subst q
        rcases hw with z | z
        · omega
        · rw [z.2.2.1] at hp; exact absurd hp (by decide)
      · exact hF j hj q 5 (by omega) (fun _ => by omega)
  · by_cases q : j = w
    · subst q
      have hne : nd j ≠ nd t := fun z => htw (hn.inj ht hj z.symm)
      rcases hw with z | ⟨z1, z2, z3, z4⟩
      · omega
      · subst z2
        have e18 : o' 18 j = 3 := by rw [ho 18 j (by omega)]; exact z4
        have eF : ∀ k, k < 7 → Fm μ' i (nd j) k = Fm μ i (nd j) k := fun k hk => hm _ (by omega) (by omega) (by omega) (by omega) (by omega) (by omega)
        obtain ⟨r1, r2, r3, r4, r5, r6, r7, r8, r9, r10, r11, r12, r13, r14, r15⟩ := H.2.2.2.2.2.1 j hj
        rw [z4] at r1 r6
        unfold IR
        rw [e18, eF 0 (by omega), eF 6 (by omega), r1]
        exact ⟨rfl, ⟨3, by omega, rfl⟩, fun q => absurd q (by decide), fun q => absurd rfl q, fun q => absurd q (by decide), fun _ _ => r6 (by decide) (by decide), fun _ q => absurd q (by decide), fun _ q => absurd q (by decide), fun q => absurd q (by decide), fun _ => z3, fun _ q => absurd q (by decide), fun _ q => absurd q (by decide), fun _ q => absurd q (by decide), fun _ => hO hj, fun _ q => absurd q (by decide)⟩
    · by_cases q2 : j = t
      · subst q2
        rcases hT with ⟨z1, z2⟩ | ⟨z1, z2, z3⟩
        · refine (H.2.2.2.2.2.1 j hj).fr z1 (ho 22 j (by omega)) (ho 23 j (by omega)) (ho 24 j (by omega)) (fun k hk => ?_)
          by_cases z : k = 6
          · subst z; exact z2
          · exact hF j hj q k hk (fun _ => z)
        · obtain ⟨r1, r2, r3, r4, r5⟩ := H.2.2.2.2.2.1 j hj
          rw [z1] at r1 r4
          have e0 := hF j hj q 0 (by omega) (fun _ => by omega)
          have e7 := hF j hj q 7 (by omega) (fun _ => by omega)
          unfold IR
          rw [e0, e7, r1, r4 (by decide)]
          rcases z2 with z2 | z2 <;> rw [z2]
          · exact ⟨rfl, ⟨7, by omega, rfl⟩, fun q => absurd q (by decide), fun _ => rfl, fun _ => ⟨z3, htp⟩, fun q => absurd rfl q, fun _ q => absurd q (by decide), fun _ q => absurd q (by decide), fun q => absurd q (by decide), fun q => absurd q (by decide), fun _ q => absurd q (by decide), fun _ q => absurd q (by decide), fun _ q => absurd q (by decide), fun q => absurd q (by decide), fun _ q => absurd q (by decide)⟩
          · exact ⟨rfl, ⟨8, by omega, rfl⟩, fun q => absurd q (by decide), fun _ => rfl, fun _ => ⟨z3, htp⟩, fun _ q => absurd rfl q, fun _ q => absurd q (by decide), fun _ q => absurd q (by decide), fun q => absurd q (by decide), fun q => absurd q (by decide), fun _ q => absurd q (by decide), fun _ q => absurd q (by decide), fun _ q => absurd q (by decide), fun q => absurd q (by decide), fun _ q => absurd q (by decide)⟩
      · exact (H.2.2.2.2.2.1 j hj).fr (ho 18 j (by omega)) (ho 22 j (by omega)) (ho 23 j (by omega)) (ho 24 j (by omega)) (fun k hk => hF j hj q k hk (fun z => absurd z q2))
  · rw [ho 18 j (by omega)]; exact H.2.2.2.2.2.2.1 j h1 h2
  · have := nbe b hb hs h0
    have h2 := hn.bst ht hb hs
    exact (hm (643 + 1262 * i + 10 * (nd b - 1) + 7) (by omega) (by omega) (by omega) (by omega) (by omega) (by omega)).trans (H.2.2.2.2.2.2.2 b hb hs h0)
/-- what a compensation leaves as it was -/
def CF (nd : Nat → Nat) (its i w n a c : Nat) (o e μ o' e' μ' : Mem) : Prop :=
  (∀ c' k, ¬ ((c' = 18 ∧ a ≤ k ∧ k < c) ∨ (c' = 0 ∧ (k = 7 ∨ k = 8)) ∨ (k = w ∧ (c' = 22 ∨ c' = 23 ∨ c' = 24))) → o' c' k = o c' k) ∧ (∀ k, o' 18 k = o 18 k ∨ (o 18 k = 4 ∧ (o' 18 k = 7 ∨ o' 18 k = 8))) ∧ (∀ r, r ≠ 3 → e' r = e r) ∧ (∀ r, r ≠ 5 → μ' r = μ r) ∧
  (∀ k, (k < 9 ∨ 17 ≤ k) → ¬ (21 + 1262 * i + 6 ≤ k ∧ k < 21 + 1262 * i + 1262) → μ' 5 k = μ 5 k) ∧ (∀ j, j < its → j ≠ w → ¬ (a ≤ j ∧ j < c) → ∀ x, x < 10 → Fm μ' i (nd j) x = Fm μ i (nd j) x) ∧ (∀ b, b < its → Bst nd b → nd b - 1 ≠ n → ∀ x, x < 10 → Fm μ' i (nd b - 1) x = Fm μ i (nd b - 1) x) ∧ (∀ x, x < 7 → Fm μ' i n x = Fm μ i n x)
theorem CF.refl {w n a c : Nat} : CF nd its i w n a c o e μ o e μ := ⟨fun _ _ _ => rfl, fun _ => Or.inl rfl, fun _ _ => rfl, fun _ _ => rfl, fun _ _ _ => rfl, fun _ _ _ _ _ _ => rfl, fun _ _ _ _ _ _ => rfl, fun _ _ => rfl⟩
theorem CF.trans {w n a c : Nat} {o1 e1 μ1 o2 e2 μ2 : Mem} (h1 : CF nd its i w n a c o e μ o1 e1 μ1) (h2 : CF nd its i w n a c o1 e1 μ1 o2 e2 μ2) : CF nd its i w n a c o e μ o2 e2 μ2 := by
  obtain ⟨x1, x2, x3, x4, x5, x6, x7, x8⟩ := h1
  obtain ⟨y1, y2, y3, y4, y5, y6, y7, y8⟩ := h2
  refine ⟨fun c' k hk => (y1 c' k hk).trans (x1 c' k hk), fun k => ?_, fun r hr => (y3 r hr).trans (x3 r hr), fun r hr => (y4 r hr).trans (x4 r hr), fun k q1 q2 => (y5 k q1 q2).trans (x5 k q1 q2), fun j q1 q2 q3 x hx => (y6 j q1 q2 q3 x hx).trans (x6 j q1 q2 q3 x hx), fun b q1 q2 q3 x hx => (y7 b q1 q2 q3 x hx).trans (x7 b q1 q2 q3 x hx), fun x hx => (y8 x hx).trans (x8 x hx)⟩
  rcases x2 k with q | ⟨q1, q2⟩
  · rcases y2 k with w | ⟨w1, w2⟩
    · exact Or.inl (w.trans q)
    · exact Or.inr ⟨q.symm.trans w1, w2⟩
  · rcases y2 k with w | ⟨w1, w2⟩
    · exact Or.inr ⟨q1, by rw [w]; exact q2⟩
    · rcases q2 with q2 | q2 <;> rw [q2] at w1 <;> exact absurd w1 (by decide)
/-- one step, as it changes a task or none -/
theorem CF.step {w n a c t : Nat} (hi : i < 6) (hn : NdS nd its) (hw : Own p nd its o w n) (ht : t < its) (hta : a ≤ t ∧ t < c)
    (ho : ∀ c k, ¬ ((c = 18 ∧ k = t) ∨ (c = 0 ∧ (k = 7 ∨ k = 8)) ∨ (k = w ∧ (c = 22 ∨ c = 23 ∨ c = 24))) → o' c k = o c k) (he : ∀ r, r ≠ 3 → e' r = e r) (hr : ∀ r, r ≠ 5 → μ' r = μ r)
    (hm : ∀ k, ¬ (643 + 1262 * i + 10 * n + 7 ≤ k ∧ k < 643 + 1262 * i + 10 * n + 10) → k ≠ 643 + 1262 * i + 10 * nd t + 6 → k ≠ 21 + 1262 * i + 7 → k ≠ 21 + 1262 * i + 8 → k ≠ 30 + 1262 * i → ¬ (43 + 1262 * i ≤ k ∧ k < 643 + 1262 * i) → ¬ (9 ≤ k ∧ k < 17) → μ' 5 k = μ 5 k)
    (hT : o' 18 t = o 18 t ∨ (o 18 t = 4 ∧ (o' 18 t = 7 ∨ o' 18 t = 8))) (htn : nd t ≠ n) : CF nd its i w n a c o e μ o' e' μ' := by
  have ht64 := hn.l64 ht
  have hn64 := (hw.w25 hn).2
  refine ⟨fun c' k hk => ho c' k (by omega), fun k => ?_, he, hr, fun k q1 q2 => hm k (by omega) (by omega) (by omega) (by omega) (by omega) (by omega) (by omega), fun j hj hjw hja x hx => ?_, fun b hb hs hbn x hx => ?_, fun x hx => ?_⟩
  · by_cases q : k = t
    · subst q; exact hT
    · exact Or.inl (ho 18 k (by omega))
  · have h1 : nd j ≠ n := by
      have hp := hn.pos hj
      rcases hw with ⟨_, z, _⟩ | ⟨z1, z2, _⟩
      · omega
      · intro z; exact hjw (hn.inj hj z1 (z.trans z2))
    have h2 : nd j ≠ nd t := fun z => by have := hn.inj hj ht z; omega
    exact hm _ (by omega) (by omega) (by omega) (by omega) (by omega) (by omega) (by omega)
  · have h2 := hn.bst ht hb hs
    exact hm _ (by omega) (by omega) (by omega) (by omega) (by omega) (by omega) (by omega)
  · exact hm _ (by omega) (by omega) (by omega) (by omega) (by omega) (by omega) (by omega)
end RV
