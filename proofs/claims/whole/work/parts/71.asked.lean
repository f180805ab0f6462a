/-! what is asked about a version -/
section PB7
variable {μ p : Mem} {N D V its : Nat} {nd : Nat → Nat} {sv : Nat → Nat → Int32}
theorem width_ver (hN : 40 ≤ N) (hD : 9 ≤ D) (hV : V < 16) (h : VerR p μ V nd sv its) : md_width N μ (kn_mwidth N μ D) (nI V) 0 = some (p 6 15) := by
  obtain ⟨⟨hn, hs, _, s0, s5, _⟩, hch, hQ, _, _, _, _, _, _, W, w1, w2, w3⟩ := h
  obtain ⟨g1, g2, g3⟩ := kind_v (n := 0) hQ hV (by decide)
  obtain ⟨l1, l2⟩ := width_loop hN hQ hV hn hs its 0 0 0 its D (hch its (Nat.le_refl _)) (Nat.le_refl _) (by omega) (by omega)
  have := l2 N 0 0 (by omega) (by have := hn.2.1; omega)
  rw [w3 its (Nat.le_refl _), Nat.max_eq_right (Nat.zero_le _), hn.2.2.1] at this
  unfold md_width
  have g1' : md_kind μ (nI V) 0 = some 0 := g1.trans (by rw [s0])
  have g2' : md_child μ (nI V) 0 = some 1 := g2.trans (by rw [s5])
  rw [g1', Option.bind_some, if_pos rfl]
  unfold md_width_24
  rw [g2', Option.bind_some, w2]
  exact this
theorem tasks_loop {nn : Nat} (hQ : ∀ n, n < 64 → ∀ w, w < 9 → μ 1 ((64 * V + n) * 9 + w) = sv n w) (hV : V < 16) (h3 : μ 3 (4 * V) = nI nn) (hnn : nn ≤ 64) : ∀ (s k n : Nat), k + s = nn → s < n → md_tasksIn_4 N μ n (nI V) (nI (sm k (fun x => if sv x 0 = 1 then 1 else 0))) (nI k) = some (nI (sm nn (fun x => if sv x 0 = 1 then 1 else 0)))
  | 0, k, n, hk, hn => by
    obtain ⟨n, rfl⟩ : ∃ x, n = x + 1 := ⟨n - 1, by omega⟩
    unfold md_tasksIn_4
    rw [mul4_nI, rd_nI (by omega) (by decide), Option.bind_some, h3, if_neg (nI_nlt (by omega) (by omega)), show k = nn by omega]
  | s + 1, k, n, hk, hn => by
    obtain ⟨n, rfl⟩ : ∃ x, n = x + 1 := ⟨n - 1, by omega⟩
    have ih := tasks_loop hQ hV h3 hnn s (k + 1) n (by omega) (by omega)
    conv => lhs; unfold md_tasksIn_4
    rw [mul4_nI, rd_nI (by omega) (by decide), Option.bind_some, h3, if_pos (nI_lt (by omega) (by omega)), (kind_v hQ hV (show k < 64 by omega)).1, Option.bind_some]
    by_cases q : sv k 0 = 1
    · rw [if_pos q, nI_1, nI_1, ← ih]
      congr 2
      show _ = sm k _ + (if sv k 0 = 1 then 1 else 0)
      rw [if_pos q]
    · rw [if_neg q, show (0 : Int32) = nI 0 from rfl, nI_add, nI_1, ← ih]
      congr 2
      show _ = sm k _ + (if sv k 0 = 1 then 1 else 0)
      rw [if_neg q]
theorem tasks_ver (hN : 80 ≤ N) (hV : V < 16) (h : VerR p μ V nd sv its) : md_tasksIn N μ (nI V) = some (p 6 12) := by
  obtain ⟨⟨hn, hs, _, s0, s5, _, _, nn, e1, e2, e3, e4, e5⟩, hch, hQ, h3, _, _, _, _, h12, _⟩ := h
  have hits := hn.1
  have hlast : nn = nd (its - 1) + 1 := by
    have h1 := e4 (its - 1) (by omega)
    by_cases q : nn = nd (its - 1) + 1
    · exact q
    · exfalso
      rcases e5 (nn - 1) (by omega) with ⟨j, j1, j2⟩ | ⟨_, b, b1, b2, b3⟩
      · by_cases q2 : j = its - 1
        · subst q2; omega
        · have := hn.lt (show its - 1 < its by omega) (show j < its - 1 by omega)
          omega
      · have := e4 b b1
        omega
  have hgh : ∀ x, x < its → (if sv (nd x) 0 = 1 then 1 else 0) = (if p 7 x = 0 then 1 else 0 : Nat) := fun x hx => by
    obtain ⟨_, _, _, hk⟩ := hs x hx
    rcases hk with ⟨z1, z2, _⟩ | ⟨z1, z2, _⟩ | ⟨z1, z2, _⟩ | ⟨z1, z2, _⟩ | ⟨z1, z2, _⟩ | ⟨z1, z2, _⟩ <;> rw [z1, z2] <;> decide
  have hcount : ∀ k, k < its → sm (nd k + 1) (fun x => if sv x 0 = 1 then 1 else 0) = sm (k + 1) (fun x => if p 7 x = 0 then 1 else 0) := by
    intro k
    induction k with
    | zero =>
      intro hk
      rw [hn.2.2.1]
      show 0 + (if sv 0 0 = 1 then 1 else 0) + (if sv 1 0 = 1 then 1 else 0) = 0 + (if p 7 0 = 0 then 1 else 0)
      have := hgh 0 hk
      rw [hn.2.2.1] at this
      rw [this, s0, if_neg (by decide)]
    | succ k ih =>
      intro hk
      have h1 := ih (by omega)
      have h2 := hgh (k + 1) hk
      rcases hn.2.2.2.2 k hk with z | z
      · show sm (nd (k + 1)) (fun x => if sv x 0 = 1 then 1 else 0) + (if sv (nd (k + 1)) 0 = 1 then 1 else 0) = sm (k + 1) (fun x => if p 7 x = 0 then 1 else 0) + (if p 7 (k + 1) = 0 then 1 else 0)
        rw [h2, z, h1]
      · have h3 : sv (nd k + 1) 0 = 0 := by
          rcases e5 (nd k + 1) (by have := e4 (k + 1) hk; omega) with ⟨j, j1, j2⟩ | ⟨q, _⟩
          · exfalso
            by_cases c1 : j ≤ k
            · by_cases c2 : j = k
              · subst c2; omega
              · have := hn.lt (show k < its by omega) (show j < k by omega)
                omega
            · by_cases c2 : j = k + 1
              · subst c2; omega
              · have := hn.lt j1 (show k + 1 < j by omega)
                omega
          · exact q
        show sm (nd (k + 1)) (fun x => if sv x 0 = 1 then 1 else 0) + (if sv (nd (k + 1)) 0 = 1 then 1 else 0) = sm (k + 1) (fun x => if p 7 x = 0 then 1 else 0) + (if p 7 (k + 1) = 0 then 1 else 0)
        rw [h2, z]
        show sm (nd k + 1) (fun x => if sv x 0 = 1 then 1 else 0) + (if sv (nd k + 1) 0 = 1 then 1 else 0) + _ = _
        rw [h3, if_neg (by decide), h1]
        rfl
  have hl := tasks_loop (N := N) hQ hV (h3.trans e1) e2 nn 0 N (by omega) (by omega)
  unfold md_tasksIn
  rw [h12]
  have := hcount (its - 1) (by omega)
  rw [show its - 1 + 1 = its by omega, ← hlast] at this
  rw [← this]
  exact hl
end PB7
