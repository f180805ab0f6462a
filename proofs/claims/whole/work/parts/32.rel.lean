/-! what an instance is on both sides -/
def mS (x : Int32) : Int32 := if x = 0 then 0 else if x = 1 then 1 else if x = 2 then 1 else if x = 3 then 5 else if x = 4 then 2 else if x = 5 then 3 else if x = 6 then 4 else 2
def Gi (x : Int32) : Prop := x = 1 ∨ x = 2 ∨ x = 3
def Dn (x : Int32) : Prop := x = 4 ∨ x = 7 ∨ x = 8
theorem Gi_iff {x : Int32} : Gi x ↔ ¬ x < 1 ∧ ¬ 3 < x := by
  constructor
  · rintro (h | h | h) <;> subst h <;> decide
  · rintro ⟨h1, h2⟩
    obtain ⟨j, hj, rfl⟩ := nI_of (x := x) (fun q => h1 (by rw [Int32.lt_iff_toInt_lt] at q ⊢; have q1 : (0 : Int32).toInt = 0 := (by decide); have q2 : (1 : Int32).toInt = 1 := (by decide); omega))
    have h3 : ¬ nI j < nI 1 := h1
    have h4 : ¬ nI 3 < nI j := h2
    rw [nI_ltI hj (by decide)] at h3
    rw [nI_ltI (by decide) hj] at h4
    have : j = 1 ∨ j = 2 ∨ j = 3 := by omega
    rcases this with q | q | q <;> subst q
    · exact Or.inl rfl
    · exact Or.inr (Or.inl rfl)
    · exact Or.inr (Or.inr rfl)
theorem goesOn_t {o : Mem} {j : Nat} (hj : j < 24) (h : Gi (o 18 j)) : in_goesOn o (nI j) = some true := by
  obtain ⟨h1, h2⟩ := Gi_iff.mp h
  unfold in_goesOn
  rw [rd_nI hj (by decide), Option.bind_some, if_neg h1, Option.bind_some, if_neg h2]
theorem goesOn_f {o : Mem} {j : Nat} (hj : j < 24) (h : ¬ Gi (o 18 j)) : in_goesOn o (nI j) = some false := by
  unfold in_goesOn
  rw [rd_nI hj (by decide), Option.bind_some]
  by_cases h1 : o 18 j < 1
  · rw [if_pos h1]
  · rw [if_neg h1, Option.bind_some]
    by_cases h2 : 3 < o 18 j
    · rw [if_pos h2]
    · exact absurd (Gi_iff.mpr ⟨h1, h2⟩) h
def Bst (nd : Nat → Nat) (j : Nat) : Prop := j = 0 ∨ nd j = nd (j - 1) + 2
def NdS (nd : Nat → Nat) (its : Nat) : Prop := 1 ≤ its ∧ its ≤ 24 ∧ nd 0 = 1 ∧ (∀ j, j < its → nd j < 64) ∧ ∀ j, j + 1 < its → nd (j + 1) = nd j + 1 ∨ nd (j + 1) = nd j + 2
theorem NdS.lt {nd : Nat → Nat} {its a b : Nat} (h : NdS nd its) (hb : b < its) (hab : a < b) : nd a < nd b := by
  induction b with
  | zero => omega
  | succ b ih =>
    have h1 := h.2.2.2.2 b (by omega)
    by_cases q : a = b
    · subst q; omega
    · have := ih (by omega) (by omega); omega
theorem NdS.pos {nd : Nat → Nat} {its a : Nat} (h : NdS nd its) (ha : a < its) : 1 ≤ nd a := by
  by_cases q : a = 0
  · subst q; rw [h.2.2.1]; exact Nat.le_refl _
  · have := h.lt ha (show 0 < a by omega); omega
theorem NdS.inj {nd : Nat → Nat} {its a b : Nat} (h : NdS nd its) (ha : a < its) (hb : b < its) (e : nd a = nd b) : a = b := by
  rcases Nat.lt_trichotomy a b with q | q | q
  · have := h.lt hb q; omega
  · exact q
  · have := h.lt ha q; omega
theorem NdS.bst {nd : Nat → Nat} {its a b : Nat} (h : NdS nd its) (ha : a < its) (hb : b < its) (hs : Bst nd b) : nd b - 1 ≠ nd a := by
  intro e
  have hp := h.pos hb
  have hpa := h.pos ha
  rcases hs with q | q
  · subst q
    rw [h.2.2.1] at e; omega
  · by_cases q0 : b = 0
    · subst q0; rw [h.2.2.1] at e; omega
    · have hlt : a < b := by
        rcases Nat.lt_trichotomy a b with w | w | w
        · exact w
        · subst w; omega
        · have := h.lt ha w; omega
      by_cases w : a = b - 1
      · subst w; omega
      · have := h.lt (show b - 1 < its by omega) (show a < b - 1 by omega); omega
theorem NdS.bb {nd : Nat → Nat} {its a b : Nat} (h : NdS nd its) (ha : a < its) (hb : b < its) (e : nd a - 1 = nd b - 1) : a = b :=
  h.inj ha hb (by have := h.pos ha; have := h.pos hb; omega)
theorem NdS.l64 {nd : Nat → Nat} {its a : Nat} (h : NdS nd its) (ha : a < its) : nd a < 64 := h.2.2.2.1 a ha
/-- where a body of an item begins; behind the last one, the item's end -/
def Bs (p : Mem) (j k : Nat) : Nat := if k < 4 ∧ p 15 (4 * j + k) ≠ -1 then (p 15 (4 * j + k)).toNatClampNeg else (p 14 j).toNatClampNeg
def Lf (x : Int32) : Prop := x = 0 ∨ x = 1 ∨ x = 2 ∨ x = 3
/-- what an item is on both sides -/
def SI (p : Mem) (nd : Nat → Nat) (sv : Nat → Nat → Int32) (j : Nat) : Prop :=
  sv (nd j) 7 = p 8 j ∧ sv (nd j) 4 = p 12 j ∧ (p 12 j = -1 ∨ ∃ c : Nat, c < 8 ∧ p 12 j = nI c) ∧
  ((p 7 j = 0 ∧ sv (nd j) 0 = 1 ∧ (∃ c : Nat, c < 8 ∧ p 9 j = nI c ∧ sv (nd j) 1 = nI c) ∧ (∃ g : Nat, g ≤ 9 ∧ p 11 j = nI g ∧ sv (nd j) 2 = nI g) ∧ ∃ a : Nat, a ≤ 999 ∧ p 10 j = nI a ∧ sv (nd j) 3 = nI a)
   ∨ (p 7 j = 1 ∧ sv (nd j) 0 = 2 ∧ ∃ a : Nat, a ≤ 999 ∧ p 10 j = nI a ∧ sv (nd j) 1 = nI a)
   ∨ (p 7 j = 2 ∧ sv (nd j) 0 = 3 ∧ (∃ c : Nat, c < 8 ∧ p 9 j = nI c ∧ sv (nd j) 1 = nI c) ∧ ((p 10 j = -1 ∧ sv (nd j) 2 = -1) ∨ ∃ a : Nat, a ≤ 999 ∧ p 10 j = nI a ∧ sv (nd j) 2 = nI a))
   ∨ (p 7 j = 3 ∧ sv (nd j) 0 = 4 ∧ (∃ c : Nat, c < 4 ∧ p 9 j = nI c ∧ sv (nd j) 1 = nI c) ∧ ((p 11 j = 1 ∧ sv (nd j) 2 = 1) ∨ (p 11 j = 0 ∧ sv (nd j) 2 = 0)) ∧ sv (nd j) 3 = p 10 j)
   ∨ (p 7 j = 4 ∧ sv (nd j) 0 = 5 ∧ (∃ c : Nat, c < 4 ∧ p 9 j = nI c ∧ sv (nd j) 1 = nI c) ∧ sv (nd j) 2 = p 10 j)
   ∨ (p 7 j = 5 ∧ sv (nd j) 0 = 6 ∧ ∃ q : Nat, 1 ≤ q ∧ q ≤ 4 ∧ p 11 j = nI q ∧ sv (nd j) 1 = nI q))
/-- the items of a body from j to its end, and all that is in them -/
def Ch (p : Mem) (nd : Nat → Nat) (sv : Nat → Nat → Int32) : Nat → Nat → Nat → Nat → Nat → Prop
  | 0, _, _, _, _ => False
  | f + 1, d, bn, j, be => ∃ m nb : Nat, j < m ∧ m ≤ be ∧ p 14 j = nI m ∧ sv (nd j) 8 = nI bn ∧
    ((m = be ∧ p 13 j = -1 ∧ sv (nd j) 6 = -1) ∨ (m < be ∧ p 13 j = nI m ∧ sv (nd j) 6 = nI (nd m) ∧ Ch p nd sv f d bn m be)) ∧
    ((Lf (p 7 j) ∧ m = j + 1 ∧ sv (nd j) 5 = -1) ∨
     (((p 7 j = 4 ∧ nb = 2) ∨ (p 7 j = 5 ∧ 1 ≤ nb ∧ nb ≤ 4)) ∧ d < 4 ∧ sv (nd j) 5 = nI (nd (j + 1) - 1) ∧ Bs p j 0 = j + 1 ∧ (∀ k, nb ≤ k → k < 4 → p 15 (4 * j + k) = -1) ∧
      ∀ k, k < nb → p 15 (4 * j + k) = nI (Bs p j k) ∧ Bst nd (Bs p j k) ∧ sv (nd (Bs p j k) - 1) 0 = 0 ∧ sv (nd (Bs p j k) - 1) 5 = nI (nd (Bs p j k)) ∧
        sv (nd (Bs p j k) - 1) 6 = (if k + 1 < nb then nI (nd (Bs p j (k + 1)) - 1) else -1) ∧ sv (nd (Bs p j k) - 1) 8 = nI (nd j) ∧
        Ch p nd sv f (d + 1) (nd (Bs p j k) - 1) (Bs p j k) (Bs p j (k + 1))))
theorem Ch.lt {p : Mem} {nd : Nat → Nat} {sv : Nat → Nat → Int32} {f d bn j be : Nat} (h : Ch p nd sv f d bn j be) : j < be := by
  cases f with
  | zero => exact h.elim
  | succ f => obtain ⟨m, nb, h1, h2, _⟩ := h; omega
theorem Bs_end {p : Mem} {j k m : Nat} (hm : p 14 j = nI m) (hml : m < 2 ^ 31) (hk : ¬ (k < 4 ∧ p 15 (4 * j + k) ≠ -1)) : Bs p j k = m := by
  unfold Bs
  rw [if_neg hk, hm, nI_clamp hml]
/-- an item on both sides -/
def IR (p : Mem) (nd : Nat → Nat) (i : Nat) (o μ : Mem) (j : Nat) : Prop :=
  Fm μ i (nd j) 0 = mS (o 18 j) ∧ (∃ k : Nat, k ≤ 8 ∧ o 18 j = nI k) ∧
  (o 18 j = 0 → Fm μ i (nd j) 2 = 0) ∧
  (o 18 j ≠ 3 → Fm μ i (nd j) 7 = -1) ∧
  ((o 18 j = 7 ∨ o 18 j = 8) → Fm μ i (nd j) 6 ≠ 0 ∧ p 7 j = 0) ∧ (o 18 j ≠ 7 → o 18 j ≠ 8 → Fm μ i (nd j) 6 = 0) ∧
  (p 7 j = 0 → o 18 j = 1 → Fm μ i (nd j) 3 = o 22 j ∧ Fm μ i (nd j) 2 = o 23 j ∧ (∃ a : Nat, 1 ≤ a ∧ a ≤ 10 ∧ o 23 j = nI a) ∧ ∃ u : Nat, u < 1048576 ∧ o 22 j = nI u) ∧
  (p 7 j = 0 → o 18 j = 2 → Fm μ i (nd j) 3 = -1 ∧ Fm μ i (nd j) 4 = o 22 j ∧ Fm μ i (nd j) 2 = o 23 j ∧ (∃ a : Nat, 1 ≤ a ∧ a ≤ 9 ∧ o 23 j = nI a) ∧ ∃ u : Nat, u < 1048576 ∧ o 22 j = nI u) ∧
  (o 18 j = 2 → p 7 j = 0) ∧ (o 18 j = 3 → p 7 j = 5) ∧
  (p 7 j = 1 → o 18 j = 1 → o 22 j = Fm μ i (nd j) 1 + p 10 j ∧ ∃ u : Nat, u < 1048576 ∧ o 22 j = nI u) ∧
  (p 7 j = 2 → o 18 j = 1 → (p 10 j = -1 → o 22 j = 1000000000) ∧ (p 10 j ≠ -1 → o 22 j = Fm μ i (nd j) 1 + p 10 j ∧ ∃ u : Nat, u < 1048576 ∧ o 22 j = nI u)) ∧
  ((p 7 j = 4 ∨ p 7 j = 5) → o 18 j = 1 → o 22 j = 1000000000) ∧
  (o 18 j = 3 → (o 24 j = -1 ∧ Fm μ i (nd j) 7 = -1) ∨ (o 24 j ≠ -1 ∧ (∃ n : Nat, n < 64 ∧ Fm μ i (nd j) 7 = nI n) ∧ Fm μ i (nd j) 9 = o 22 j ∧ ∃ u : Nat, u < 1048576 ∧ o 22 j = nI u)) ∧
  (p 7 j ≠ 0 → o 18 j = 1 → o 23 j = 0)
theorem IR.fr {p : Mem} {nd : Nat → Nat} {i j : Nat} {o μ o' μ' : Mem} (h : IR p nd i o μ j) (h18 : o' 18 j = o 18 j) (h22 : o' 22 j = o 22 j) (h23 : o' 23 j = o 23 j) (h24 : o' 24 j = o 24 j) (hF : ∀ w, w < 10 → Fm μ' i (nd j) w = Fm μ i (nd j) w) : IR p nd i o' μ' j := by
  unfold IR
  rw [h18, h22, h23, h24, hF 0 (by omega), hF 1 (by omega), hF 2 (by omega), hF 3 (by omega), hF 4 (by omega), hF 6 (by omega), hF 7 (by omega), hF 9 (by omega)]
  exact h
def InsR (i : Nat) (o μ : Mem) : Prop := μ 5 (21 + 1262 * i + 6) = o 0 6 ∧ μ 5 (21 + 1262 * i + 7) = o 0 7 ∧ μ 5 (21 + 1262 * i + 8) = o 0 8 ∧ (∀ v, v < 4 → μ 5 (21 + 1262 * i + (10 + v)) = o 16 v) ∧ ∀ c, c < 8 → μ 5 (21 + 1262 * i + (14 + c)) = o 17 c ∧ ¬ 9 < o 17 c
theorem InsR.fr {i : Nat} {o μ o' μ' : Mem} (h : InsR i o μ) (h0 : ∀ w, 6 ≤ w → w ≤ 8 → o' 0 w = o 0 w) (h16 : o' 16 = o 16) (h17 : o' 17 = o 17) (hm : ∀ k, 21 + 1262 * i + 6 ≤ k → k < 21 + 1262 * i + 22 → k ≠ 30 + 1262 * i → μ' 5 k = μ 5 k) : InsR i o' μ' := by
  obtain ⟨q1, q2, q3, q4, q5⟩ := h
  refine ⟨?_, ?_, ?_, fun v hv => ?_, fun c hc => ?_⟩
  · rw [hm _ (by omega) (by omega) (by omega), h0 6 (by omega) (by omega)]; exact q1
  · rw [hm _ (by omega) (by omega) (by omega), h0 7 (by omega) (by omega)]; exact q2
  · rw [hm _ (by omega) (by omega) (by omega), h0 8 (by omega) (by omega)]; exact q3
  · rw [hm _ (by omega) (by omega) (by omega), h16]; exact q4 v hv
  · rw [hm _ (by omega) (by omega) (by omega), h17]; exact q5 c hc
def OrdR (p : Mem) (nd : Nat → Nat) (i its : Nat) (o μ : Mem) : Prop :=
  ∃ dn : Nat, dn ≤ 24 ∧ o 0 6 = nI dn ∧ (∀ k, k < dn → ∃ j : Nat, j < its ∧ o 21 k = nI j ∧ p 7 j = 0 ∧ Dn (o 18 j) ∧ Fm μ i (nd j) 5 = nI (k + 1)) ∧ ∀ j, j < its → p 7 j = 0 → Dn (o 18 j) → ∃ k : Nat, k < dn ∧ o 21 k = nI j
theorem OrdR.fr {p : Mem} {nd : Nat → Nat} {i its : Nat} {o μ o' μ' : Mem} (h : OrdR p nd i its o μ) (h6 : o' 0 6 = o 0 6) (h21 : ∀ k, k < 24 → o' 21 k = o 21 k) (hd : ∀ j, j < its → p 7 j = 0 → (Dn (o' 18 j) ↔ Dn (o 18 j))) (hF : ∀ j, j < its → p 7 j = 0 → Dn (o 18 j) → Fm μ' i (nd j) 5 = Fm μ i (nd j) 5) : OrdR p nd i its o' μ' := by
  obtain ⟨dn, q1, q2, q3, q4⟩ := h
  refine ⟨dn, q1, by rw [h6]; exact q2, fun k hk => ?_, fun j hj hp hdn => ?_⟩
  · obtain ⟨j, w1, w2, w3, w4, w5⟩ := q3 k hk
    exact ⟨j, w1, by rw [h21 k (by omega)]; exact w2, w3, (hd j w1 w3).mpr w4, by rw [hF j w1 w3 w4]; exact w5⟩
  · obtain ⟨k, w1, w2⟩ := q4 j hj hp ((hd j hj hp).mp hdn)
    exact ⟨k, w1, by rw [h21 k (by omega)]; exact w2⟩
/-- how many entries an item may still write -/
def wt (st a r : Int32) : Nat := if st = 0 then 40 else if st = 1 then 38 - 2 * a.toNatClampNeg else if st = 2 then 37 - 2 * a.toNatClampNeg else if st = 3 then (if r < 0 then 5 else 4 - a.toNatClampNeg) else if st = 4 then 4 else 0
def wW (st a r : Int32) : Nat := if st = 0 then 10 else if st = 2 then (if r < 0 then 5 else 4 - a.toNatClampNeg) else 0
def Pot (E : Nat) (o : Mem) : Nat := E + sm 24 (fun j => wt (o 18 j) (o 23 j) (o 24 j)) + wW (o 0 3) (o 23 24) (o 24 24)
theorem Pot_upd {E E' j : Nat} {o o' : Mem} (hj : j < 24) (h : ∀ k, k ≠ j → o' 18 k = o 18 k ∧ o' 23 k = o 23 k ∧ o' 24 k = o 24 k) (h3 : o' 0 3 = o 0 3) (hw : E' + wt (o' 18 j) (o' 23 j) (o' 24 j) ≤ E + wt (o 18 j) (o 23 j) (o 24 j)) : Pot E' o' ≤ Pot E o := by
  unfold Pot
  have h1 := sm_upd (n := 24) (f := fun j => wt (o 18 j) (o 23 j) (o 24 j)) (g := fun j => wt (o' 18 j) (o' 23 j) (o' 24 j)) hj (fun k _ hk => by
    obtain ⟨q1, q2, q3⟩ := h k hk
    show wt (o' 18 k) (o' 23 k) (o' 24 k) = wt (o 18 k) (o 23 k) (o 24 k)
    rw [q1, q2, q3])
  obtain ⟨_, q2, q3⟩ := h 24 (by omega)
  rw [h3, q2, q3]
  omega
/-- what keeps outside a range of items, and of bodies -/
def FrX (a a' c : Nat) (o o' : Mem) : Prop := (∀ w, w ≤ 5 → o' 0 w = o 0 w) ∧ (∀ j, ¬ (a ≤ j ∧ j < c) → o' 18 j = o 18 j ∧ o' 22 j = o 22 j ∧ o' 23 j = o 23 j ∧ o' 24 j = o 24 j) ∧ (∀ j, ¬ (a' ≤ j ∧ j < c) → o' 19 j = o 19 j ∧ o' 20 j = o 20 j) ∧ ∀ v, ¬ 0 < o 17 v → o' 17 v = o 17 v
def FrM (nd : Nat → Nat) (its i a a' c : Nat) (μ μ' : Mem) : Prop := (∀ r, r ≠ 5 → μ' r = μ r) ∧ (∀ k, (k < 9 ∨ 17 ≤ k) → ¬ (21 + 1262 * i + 6 ≤ k ∧ k < 21 + 1262 * i + 1262) → μ' 5 k = μ 5 k) ∧ (∀ j, j < its → ¬ (a ≤ j ∧ j < c) → ∀ w, w < 10 → Fm μ' i (nd j) w = Fm μ i (nd j) w) ∧ ∀ b, b < its → Bst nd b → ¬ (a' ≤ b ∧ b < c) → ∀ w, w < 10 → Fm μ' i (nd b - 1) w = Fm μ i (nd b - 1) w
def Fr (nd : Nat → Nat) (its i a a' c : Nat) (o e μ o' e' μ' : Mem) : Prop := FrX a a' c o o' ∧ (∀ r, r ≠ 3 → e' r = e r) ∧ FrM nd its i a a' c μ μ'
theorem Fr.refl {nd : Nat → Nat} {its i a a' c : Nat} {o e μ : Mem} : Fr nd its i a a' c o e μ o e μ :=
  ⟨⟨fun _ _ => rfl, fun _ _ => ⟨rfl, rfl, rfl, rfl⟩, fun _ _ => ⟨rfl, rfl⟩, fun _ _ => rfl⟩, fun _ _ => rfl, fun _ _ => rfl, fun _ _ _ => rfl, fun _ _ _ _ _ => rfl, fun _ _ _ _ _ _ => rfl⟩
theorem Fr.trans {nd : Nat → Nat} {its i a a' c : Nat} {o e μ o1 e1 μ1 o2 e2 μ2 : Mem} (h1 : Fr nd its i a a' c o e μ o1 e1 μ1) (h2 : Fr nd its i a a' c o1 e1 μ1 o2 e2 μ2) : Fr nd its i a a' c o e μ o2 e2 μ2 := by
  obtain ⟨⟨x1, x2, x3, x4⟩, x5, x6, x7, x8, x9⟩ := h1
  obtain ⟨⟨y1, y2, y3, y4⟩, y5, y6, y7, y8, y9⟩ := h2
  refine ⟨⟨fun w hw => (y1 w hw).trans (x1 w hw), fun j hj => ?_, fun j hj => ?_, fun v hv => ?_⟩, fun r hr => (y5 r hr).trans (x5 r hr), fun r hr => (y6 r hr).trans (x6 r hr), fun k hk hk2 => (y7 k hk hk2).trans (x7 k hk hk2), fun j hj hj2 w hw => (y8 j hj hj2 w hw).trans (x8 j hj hj2 w hw), fun b hb hs hb2 w hw => (y9 b hb hs hb2 w hw).trans (x9 b hb hs hb2 w hw)⟩
  · obtain ⟨q1, q2, q3, q4⟩ := x2 j hj
    obtain ⟨w1, w2, w3, w4⟩ := y2 j hj
    exact ⟨w1.trans q1, w2.trans q2, w3.trans q3, w4.trans q4⟩
  · obtain ⟨q1, q2⟩ := x3 j hj
    obtain ⟨w1, w2⟩ := y3 j hj
    exact ⟨w1.trans q1, w2.trans q2⟩
  · rw [y4 v (by rw [x4 v hv]; exact hv), x4 v hv]
theorem Fr.mono {nd : Nat → Nat} {its i a a' c b b' g : Nat} {o e μ o1 e1 μ1 : Mem} (h : Fr nd its i a a' c o e μ o1 e1 μ1) (h1 : b ≤ a) (h2 : b' ≤ a') (h3 : c ≤ g) : Fr nd its i b b' g o e μ o1 e1 μ1 := by
  obtain ⟨⟨x1, x2, x3, x4⟩, x5, x6, x7, x8, x9⟩ := h
  exact ⟨⟨x1, fun j hj => x2 j (by omega), fun j hj => x3 j (by omega), x4⟩, x5, x6, x7, fun j hj hj2 => x8 j hj (by omega), fun b hb hs hb2 => x9 b hb hs (by omega)⟩
/-- all of one instance on both sides -/
def R (p : Mem) (nd : Nat → Nat) (sv : Nat → Nat → Int32) (i V its rl B : Nat) (o h e μ : Mem) : Prop :=
  Vr i V sv μ ∧ EnvR e μ ∧ InsR i o μ ∧ (∃ E : Nat, HisR rl i E h μ ∧ Pot E o ≤ B) ∧ OrdR p nd i its o μ ∧ (∀ j, j < its → IR p nd i o μ j) ∧ (∀ j, its ≤ j → j < 24 → o 18 j = 0) ∧ ∀ b, b < its → Bst nd b → b ≠ 0 → Fm μ i (nd b - 1) 7 = -1
def IdleR (nd : Nat → Nat) (i : Nat) (o μ : Mem) (a c : Nat) : Prop := ∀ j, a ≤ j → j < c → o 18 j = 0 ∧ o 19 j = 0 ∧ (Bst nd j → Fm μ i (nd j - 1) 0 = 0)
def Qt (o : Mem) (a c : Nat) : Prop := ∀ j, a ≤ j → j < c → ¬ Gi (o 18 j)
/-- an attempt of a compensation that is going on -/
def RevX (p : Mem) (nd : Nat → Nat) (i w n : Nat) (o μ : Mem) (a c : Nat) : Prop :=
  ∃ t f u cd : Nat, a ≤ t ∧ t < c ∧ o 24 w = nI t ∧ o 18 t = 4 ∧ p 7 t = 0 ∧ cd < 8 ∧ p 12 t = nI cd ∧ Fm μ i n 7 = nI (nd t) ∧ f ≤ 2 ∧ o 23 w = nI f ∧ Fm μ i n 8 = nI f ∧ u < 1048576 ∧ o 22 w = nI u ∧ Fm μ i n 9 = nI u
def En (p : Mem) (j : Nat) : Nat := (p 14 j).toNatClampNeg
/-- what is within an item that goes on; C: a body that runs -/
def GoI (p : Mem) (nd : Nat → Nat) (i : Nat) (o μ : Mem) (C : Nat → Nat → Nat → Prop) (j m : Nat) : Prop :=
  Lf (p 7 j)
   ∨ (p 7 j = 4 ∧ o 18 j = 1 ∧ ∃ k : Nat, k < 2 ∧ Fm μ i (nd j) 2 = nI (nd (Bs p j k) - 1) ∧ IdleR nd i o μ (Bs p j (1 - k)) (Bs p j (2 - k)) ∧ o 19 (Bs p j k) = 1 ∧ Fm μ i (nd (Bs p j k) - 1) 0 = 1 ∧ ∃ cu : Nat, o 20 (Bs p j k) = nI cu ∧ C (Bs p j k) (Bs p j (k + 1)) cu)
   ∨ (p 7 j = 5 ∧ (o 18 j = 1 ∨ o 18 j = 3) ∧ (o 18 j = 3 → Qt o (j + 1) m ∧ RevX p nd i j (nd j) o μ (j + 1) m) ∧ ∀ k, k < 4 → p 15 (4 * j + k) ≠ -1 → Fm μ i (nd (Bs p j k) - 1) 0 = mS (o 19 (Bs p j k)) ∧
       ((o 18 j = 1 ∧ o 19 (Bs p j k) = 1 ∧ ∃ cu : Nat, o 20 (Bs p j k) = nI cu ∧ C (Bs p j k) (Bs p j (k + 1)) cu)
        ∨ (o 18 j = 1 ∧ (o 19 (Bs p j k) = 4 ∨ o 19 (Bs p j k) = 5) ∧ Qt o (Bs p j k) (Bs p j (k + 1)))
        ∨ (o 18 j = 3 ∧ (o 19 (Bs p j k) = 4 ∨ o 19 (Bs p j k) = 5 ∨ o 19 (Bs p j k) = 6))))
/-- a body that runs, from j on; it stands at cur -/
def RunC (p : Mem) (nd : Nat → Nat) (i : Nat) (o μ : Mem) : Nat → Nat → Nat → Nat → Prop
  | 0, _, _, _ => False
  | f + 1, j, be, cur =>
    (cur = j ∧ Gi (o 18 j) ∧ IdleR nd i o μ (En p j) be ∧ GoI p nd i o μ (RunC p nd i o μ f) j (En p j))
    ∨ (Dn (o 18 j) ∧ Qt o j (En p j) ∧ En p j < be ∧ RunC p nd i o μ f (En p j) be cur)
/-- the two sides agree on a range -/
def Ag (nd : Nat → Nat) (i a a' c : Nat) (o μ o' μ' : Mem) : Prop := (∀ j, a ≤ j → j < c → o' 18 j = o 18 j ∧ o' 22 j = o 22 j ∧ o' 23 j = o 23 j ∧ o' 24 j = o 24 j ∧ ∀ w, w < 10 → Fm μ' i (nd j) w = Fm μ i (nd j) w) ∧ ∀ j, a' ≤ j → j < c → o' 19 j = o 19 j ∧ o' 20 j = o 20 j ∧ (Bst nd j → ∀ w, w < 10 → Fm μ' i (nd j - 1) w = Fm μ i (nd j - 1) w)
theorem Fr.ag {nd : Nat → Nat} {its i a a' c x y : Nat} {o e μ o1 e1 μ1 : Mem} (h : Fr nd its i a a' c o e μ o1 e1 μ1) (hy : y ≤ its) (h1 : y ≤ a ∨ c ≤ x) (x' : Nat) (h2 : y ≤ a' ∨ c ≤ x') : Ag nd i x x' y o μ o1 μ1 := by
  obtain ⟨⟨x1, x2, x3, x4⟩, x5, x6, x7, x8, x9⟩ := h
  refine ⟨fun j hj hj2 => ?_, fun j hj hj2 => ?_⟩
  · obtain ⟨q1, q2, q3, q4⟩ := x2 j (by omega)
    exact ⟨q1, q2, q3, q4, x8 j (by omega) (by omega)⟩
  · obtain ⟨q1, q2⟩ := x3 j (by omega)
    exact ⟨q1, q2, fun hs => x9 j (by omega) hs (by omega)⟩
theorem Ag.sub {nd : Nat → Nat} {i a a' c b b' g : Nat} {o μ o' μ' : Mem} (h : Ag nd i a a' c o μ o' μ') (h1 : a ≤ b) (h2 : a' ≤ b') (h3 : g ≤ c) : Ag nd i b b' g o μ o' μ' :=
  ⟨fun j hj hj2 => h.1 j (by omega) (by omega), fun j hj hj2 => h.2 j (by omega) (by omega)⟩
theorem IdleR.ag {nd : Nat → Nat} {i a c : Nat} {o μ o' μ' : Mem} (h : IdleR nd i o μ a c) (g : Ag nd i a a c o μ o' μ') : IdleR nd i o' μ' a c := fun j hj hj2 => by
  obtain ⟨q1, q2, q3⟩ := h j hj hj2
  obtain ⟨w1, _⟩ := g.1 j hj hj2
  obtain ⟨w2, _, w3⟩ := g.2 j hj hj2
  exact ⟨by rw [w1]; exact q1, by rw [w2]; exact q2, fun hs => by rw [w3 hs 0 (by omega)]; exact q3 hs⟩
theorem Qt.ag {nd : Nat → Nat} {i a a' c : Nat} {o μ o' μ' : Mem} (h : Qt o a c) (g : Ag nd i a a' c o μ o' μ') : Qt o' a c := fun j hj hj2 => by
  rw [(g.1 j hj hj2).1]; exact h j hj hj2
theorem Qt.sub {o : Mem} {a c b g : Nat} (h : Qt o a c) (h1 : a ≤ b) (h2 : g ≤ c) : Qt o b g := fun j hj hj2 => h j (by omega) (by omega)
theorem Qt.app {o : Mem} {a b c : Nat} (h : Qt o a b) (h2 : Qt o b c) : Qt o a c := fun j hj hj2 => by
  by_cases q : j < b
  · exact h j hj q
  · exact h2 j (by omega) hj2
theorem IdleR.qt {nd : Nat → Nat} {i a c : Nat} {o μ : Mem} (h : IdleR nd i o μ a c) : Qt o a c := fun j hj hj2 => by
  rw [(h j hj hj2).1]; unfold Gi; decide
theorem IdleR.sub {nd : Nat → Nat} {i a c b g : Nat} {o μ : Mem} (h : IdleR nd i o μ a c) (h1 : a ≤ b) (h2 : g ≤ c) : IdleR nd i o μ b g := fun j hj hj2 => h j (by omega) (by omega)
