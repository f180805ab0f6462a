/-! what is laid when an item is read; structure that keeps -/
def PE (p p' : Mem) (a c : Nat) : Prop := ∀ x, a ≤ x → x < c → p' 7 x = p 7 x ∧ p' 13 x = p 13 x ∧ p' 14 x = p 14 x ∧ ∀ k, k < 4 → p' 15 (4 * x + k) = p 15 (4 * x + k)
def VE (nd nd' : Nat → Nat) (sv sv' : Nat → Nat → Int32) (a c : Nat) : Prop := ∀ x, a ≤ x → x < c → nd' x = nd x ∧ (∀ w, w < 9 → sv' (nd x) w = sv (nd x) w) ∧ (a < x → ∀ w, w < 9 → sv' (nd x - 1) w = sv (nd x - 1) w)
theorem PE.sub {p p' : Mem} {a c b g : Nat} (h : PE p p' a c) (h1 : a ≤ b) (h2 : g ≤ c) : PE p p' b g := fun x x1 x2 => h x (by omega) (by omega)
theorem VE.sub {nd nd' : Nat → Nat} {sv sv' : Nat → Nat → Int32} {a c b g : Nat} (h : VE nd nd' sv sv' a c) (h1 : a ≤ b) (h2 : g ≤ c) : VE nd nd' sv sv' b g := fun x x1 x2 => ⟨(h x (by omega) (by omega)).1, (h x (by omega) (by omega)).2.1, fun h3 => (h x (by omega) (by omega)).2.2 (by omega)⟩
theorem Bs_ext {p p' : Mem} {j k : Nat} (h14 : p' 14 j = p 14 j) (h15 : k < 4 → p' 15 (4 * j + k) = p 15 (4 * j + k)) : Bs p' j k = Bs p j k := by
  unfold Bs
  by_cases q : k < 4
  · rw [h14, h15 q]
  · rw [if_neg (fun z => q z.1), if_neg (fun z => q z.1), h14]
theorem Ch.ext {p p' : Mem} {nd nd' : Nat → Nat} {sv sv' : Nat → Nat → Int32} : ∀ (f d bn j be : Nat), Ch p nd sv f d bn j be → be ≤ 24 → PE p p' j be → VE nd nd' sv sv' j be → Ch p' nd' sv' f d bn j be
  | 0, _, _, _, _, h, _, _, _ => h.elim
  | f + 1, d, bn, j, be, h, hb, hp, hv => by
    have hch := h
    have hjl := h.lt
    obtain ⟨m, nb, h1, h2, h3, h4, h5, h6⟩ := h
    have he : En p j = m := En_eq h3 (by omega)
    obtain ⟨p1, p2, p3, p4⟩ := hp j (Nat.le_refl _) hjl
    obtain ⟨v1, v2, _⟩ := hv j (Nat.le_refl _) hjl
    have hBs : ∀ k, Bs p' j k = Bs p j k := fun k => Bs_ext p3 (fun hk => p4 k hk)
    refine ⟨m, nb, h1, h2, p3.trans h3, by rw [v1, v2 8 (by omega)]; exact h4, ?_, ?_⟩
    · rcases h5 with ⟨r1, r2, r3⟩ | ⟨r1, r2, r3, r4⟩
      · exact Or.inl ⟨r1, p2.trans r2, by rw [v1, v2 6 (by omega)]; exact r3⟩
      · exact Or.inr ⟨r1, p2.trans r2, by rw [v1, v2 6 (by omega), (hv m (by omega) r1).1]; exact r3, Ch.ext f d bn m be r4 hb (hp.sub (by omega) (Nat.le_refl _)) (hv.sub (by omega) (Nat.le_refl _))⟩
    · rcases h6 with ⟨r1, r2, r3⟩ | ⟨r1, r2, r3, r4, r5, r6⟩
      · exact Or.inl ⟨by rw [p1]; exact r1, r2, by rw [v1, v2 5 (by omega)]; exact r3⟩
      · have hl : ¬ Lf (p 7 j) := by rcases r1 with w | w <;> rw [w.1] <;> unfold Lf <;> decide
        have hnb : 1 ≤ nb ∧ nb ≤ 4 := by rcases r1 with w | w <;> omega
        have hb0 : j + 1 < be := by
          obtain ⟨w1, w2, w3, w4, w5, w6, w7⟩ := r6 0 (by omega)
          have hbo := hch.body hb (k := 0) (by omega) (fun e => by rw [e] at w1; exact nI_m1 (by have : Bs p j 0 = j + 1 := r4; omega) w1.symm) hl
          omega
        refine Or.inr ⟨by rw [p1]; exact r1, r2, by rw [v1, v2 5 (by omega), (hv (j + 1) (by omega) hb0).1]; exact r3, by rw [hBs]; exact r4, fun k k1 k2 => by rw [p4 k k2]; exact r5 k k1 k2, fun k hk => ?_⟩
        obtain ⟨w1, w2, w3, w4, w5, w6, w7⟩ := r6 k hk
        have hne : p 15 (4 * j + k) ≠ -1 := fun e => by
          have hbb : Bs p j k = (p 14 j).toNatClampNeg := by unfold Bs; rw [if_neg (fun z => z.2 e)]
          rw [hbb, h3] at w1
          rw [e] at w1
          exact nI_m1 (Int32.toNatClampNeg_lt _) w1.symm
        obtain ⟨b1, b2, b3, _⟩ := hch.body hb (k := k) (by omega) hne hl
        have hBb : Bs p j k < be := by omega
        obtain ⟨u1, u2, u3⟩ := hv (Bs p j k) (by omega) hBb
        have u3' := u3 (by omega)
        refine ⟨by rw [p4 k (by omega), hBs]; exact w1, ?_, ?_, ?_, ?_, ?_, ?_⟩
        · rw [hBs]
          unfold Bst at w2 ⊢
          rw [u1, (hv (Bs p j k - 1) (by omega) (by omega)).1]; exact w2
        · rw [hBs, u1, u3' 0 (by omega)]; exact w3
        · rw [hBs, u1, u3' 5 (by omega)]; exact w4
        · rw [hBs, hBs, u1, u3' 6 (by omega), w5]
          by_cases q : k + 1 < nb
          · rw [if_pos q, if_pos q]
            obtain ⟨x1, x2, x3, x4, x5, x6, x7⟩ := r6 (k + 1) q
            have := x7.lt
            have hne1 : p 15 (4 * j + (k + 1)) ≠ -1 := fun e => by
              have hbb : Bs p j (k + 1) = (p 14 j).toNatClampNeg := by unfold Bs; rw [if_neg (fun z => z.2 e)]
              rw [hbb, h3] at x1
              rw [e] at x1
              exact nI_m1 (Int32.toNatClampNeg_lt _) x1.symm
            obtain ⟨d1, d2, d3, _⟩ := hch.body hb (k := k + 1) (by omega) hne1 hl
            rw [(hv (Bs p j (k + 1)) (by omega) (by omega)).1]
          · rw [if_neg q, if_neg q]
        · rw [hBs, u1, u3' 8 (by omega), v1]; exact w6
        · rw [hBs, hBs, u1]
          exact Ch.ext f (d + 1) _ _ _ w7 (by omega) (hp.sub (by omega) (by omega)) (hv.sub (by omega) (by omega))
theorem SI.ext {p p' : Mem} {nd nd' : Nat → Nat} {sv sv' : Nat → Nat → Int32} {x : Nat} (h : SI p nd sv x) (hn : nd' x = nd x) (hp : ∀ c, 7 ≤ c → c ≤ 12 → p' c x = p c x) (hv : ∀ w, w < 5 ∨ w = 7 → sv' (nd x) w = sv (nd x) w) : SI p' nd' sv' x := by
  unfold SI
  rw [hn, hp 7 (by omega) (by omega), hp 8 (by omega) (by omega), hp 9 (by omega) (by omega), hp 10 (by omega) (by omega), hp 11 (by omega) (by omega), hp 12 (by omega) (by omega), hv 0 (by omega), hv 1 (by omega), hv 2 (by omega), hv 3 (by omega), hv 4 (by omega), hv 7 (by omega)]
  exact h
/-- how the nodes of items from a to c lie -/
def NR (nd : Nat → Nat) (sv : Nat → Nat → Int32) (a c n0 n1 : Nat) : Prop := a < c ∧ nd a = n0 ∧ nd (c - 1) + 1 = n1 ∧ ∀ x, a ≤ x → x + 1 < c → nd (x + 1) = nd x + 1 ∨ (nd (x + 1) = nd x + 2 ∧ sv (nd x + 1) 0 = 0)
theorem NR.bd {nd : Nat → Nat} {sv : Nat → Nat → Int32} {a c n0 n1 : Nat} (h : NR nd sv a c n0 n1) : ∀ x, a ≤ x → x < c → n0 ≤ nd x ∧ nd x < n1 := by
  obtain ⟨h1, h2, h3, h4⟩ := h
  have up1 : ∀ (s x : Nat), a + s = x → x < c → n0 ≤ nd x := by
    intro s
    induction s with
    | zero => intro x hx _; rw [show x = a by omega, h2]; exact Nat.le_refl _
    | succ s ih =>
      intro x hx hc
      have := ih (a + s) rfl (by omega)
      have h5 := h4 (a + s) (by omega) (by omega)
      rw [show x = a + s + 1 by omega]
      omega
  have dn : ∀ (s x : Nat), x + s = c - 1 → a ≤ x → nd x < n1 := by
    intro s
    induction s with
    | zero => intro x hx _; rw [show x = c - 1 by omega]; omega
    | succ s ih =>
      intro x hx ha
      have := ih (x + 1) (by omega) (by omega)
      have h5 := h4 x ha (by omega)
      omega
  intro x x1 x2
  exact ⟨up1 (x - a) x (by omega) x2, dn (c - 1 - x) x (by omega) x1⟩
theorem NR.app {nd : Nat → Nat} {sv : Nat → Nat → Int32} {a b c n0 n1 n2 m : Nat} (h1 : NR nd sv a b n0 n1) (h2 : NR nd sv b c m n2) (hm : m = n1 ∨ (m = n1 + 1 ∧ sv n1 0 = 0)) : NR nd sv a c n0 n2 := by
  obtain ⟨a1, a2, a3, a4⟩ := h1
  obtain ⟨b1, b2, b3, b4⟩ := h2
  refine ⟨by omega, a2, b3, fun x x1 x2 => ?_⟩
  by_cases q : x + 1 < b
  · exact a4 x x1 q
  · by_cases q2 : x + 1 = b
    · have : x = b - 1 := by omega
      rw [q2, this, b2]
      rcases hm with z | ⟨z1, z2⟩
      · left; omega
      · right
        refine ⟨by omega, ?_⟩
        rw [a3]; exact z2
    · exact b4 x (by omega) x2
theorem NR.ext {nd nd' : Nat → Nat} {sv sv' : Nat → Nat → Int32} {a c n0 n1 : Nat} (h : NR nd sv a c n0 n1) (hn : ∀ x, a ≤ x → x < c → nd' x = nd x) (hv : ∀ n, n0 ≤ n → n < n1 → sv' n 0 = sv n 0) : NR nd' sv' a c n0 n1 := by
  have hb := h.bd
  obtain ⟨a1, a2, a3, a4⟩ := h
  refine ⟨a1, by rw [hn a (Nat.le_refl _) a1]; exact a2, by rw [hn (c - 1) (by omega) (by omega)]; exact a3, fun x x1 x2 => ?_⟩
  rw [hn (x + 1) (by omega) x2, hn x x1 (by omega)]
  rcases a4 x x1 x2 with z | ⟨z1, z2⟩
  · exact Or.inl z
  · have b1 := hb x x1 (by omega)
    have b2 := hb (x + 1) (by omega) x2
    exact Or.inr ⟨z1, by rw [hv _ (by omega) (by omega)]; exact z2⟩
section PA4
variable {t r μ r' μ' p p' : Mem} {a len N j n : Nat}
/-- the node that the reference makes -/
theorem makes_loop {y1 y2 : Int32} (hn : n < 64) : ∀ (s k m : Nat) (μ : Mem), k + s = 9 → s < m → ∃ μz, md_makes_18 N m y1 y2 (nI n) (nI k) μ = some (nI n, up (up (up μz 1 ((1024 + n) * 9 + 0) y1) 1 ((1024 + n) * 9 + 7) (μ 0 12)) 1 ((1024 + n) * 9 + 8) y2) ∧ (∀ c, c ≠ 1 → μz c = μ c) ∧ (∀ w, k ≤ w → w < 9 → SvR μz n w = -1) ∧ ∀ x, ¬ ((1024 + n) * 9 + k ≤ x ∧ x < (1024 + n) * 9 + 9) → μz 1 x = μ 1 x
  | 0, k, m, μ, hk, hm => by
    obtain ⟨m, rfl⟩ : ∃ x, m = x + 1 := ⟨m - 1, by omega⟩
    refine ⟨μ, ?_, fun _ _ => rfl, fun w w1 w2 => by omega, fun _ _ => rfl⟩
    have : k = 9 := by omega
    subst this
    unfold md_makes_18
    rw [if_neg (by decide), show (0 : Int32) = nI 0 from rfl, put_ev hn (by omega), Option.bind_some, show (7 : Int32) = nI 7 from rfl, put_ev hn (by omega), Option.bind_some, show (8 : Int32) = nI 8 from rfl, put_ev hn (by omega), Option.bind_some, up_cell (by decide)]
  | s + 1, k, m, μ, hk, hm => by
    obtain ⟨m, rfl⟩ : ∃ x, m = x + 1 := ⟨m - 1, by omega⟩
    obtain ⟨μz, z1, z2, z3, z4⟩ := makes_loop (y1 := y1) (y2 := y2) hn s (k + 1) m (up μ 1 ((1024 + n) * 9 + k) (-1)) (by omega) (by omega)
    refine ⟨μz, ?_, fun c hc => (z2 c hc).trans (up_row hc), fun w w1 w2 => ?_, fun x hx => ?_⟩
    · conv => lhs; unfold md_makes_18
      rw [if_pos (show nI k < 9 from nI_lt (b := 9) (by omega) (by decide)), put_ev hn (by omega), Option.bind_some, nI_1, z1, up_cell (by decide)]
    · by_cases q : w = k
      · subst q
        show μz 1 _ = _
        rw [z4 _ (by omega), up_at]
      · exact z3 w (by omega) w2
    · rw [z4 x (by omega), up_in (by omega)]
theorem makes_ev {y1 y2 : Int32} (hN : 20 ≤ N) (hn : n < 64) (h14 : μ 0 14 = nI n) : ∃ μ', md_makes N y1 y2 μ = some (nI n, μ') ∧ (∀ c, c ≠ 0 → c ≠ 1 → μ' c = μ c) ∧ (∀ k, k ≠ 14 → μ' 0 k = μ 0 k) ∧ μ' 0 14 = nI (n + 1) ∧ (∀ x, ¬ ((1024 + n) * 9 ≤ x ∧ x < (1024 + n) * 9 + 9) → μ' 1 x = μ 1 x) ∧ SvR μ' n 0 = y1 ∧ SvR μ' n 7 = μ 0 12 ∧ SvR μ' n 8 = y2 ∧ ∀ w, w < 9 → w ≠ 0 → w ≠ 7 → w ≠ 8 → SvR μ' n w = -1 := by
  obtain ⟨μz, z1, z2, z3, z4⟩ := makes_loop (N := N) (y1 := y1) (y2 := y2) hn 9 0 N (up μ 0 14 (nI (n + 1))) (by omega) (by omega)
  rw [up_in (show (12 : Nat) ≠ 14 by decide)] at z1
  refine ⟨up (up (up μz 1 ((1024 + n) * 9 + 0) y1) 1 ((1024 + n) * 9 + 7) (μ 0 12)) 1 ((1024 + n) * 9 + 8) y2, ?_, fun c c0 c1 => ?_, fun k hk => ?_, ?_, fun x hx => ?_, ?_, ?_, ?_, fun w w0 w1 w2 w3 => ?_⟩
  · unfold md_makes
    rw [h14, nI_1]
    exact z1
  · rw [up_row c1, up_row c1, up_row c1, z2 c c1, up_row c0]
  · rw [up_cell (by decide), up_cell (by decide), up_cell (by decide), z2 0 (by decide), up_in hk]
  · rw [up_cell (by decide), up_cell (by decide), up_cell (by decide), z2 0 (by decide), up_at]
  · rw [up_in (by omega), up_in (by omega), up_in (by omega), z4 x (by omega), up_cell (by decide)]
  · show up _ _ _ _ _ _ = _
    rw [up_in (by omega), up_in (by omega), up_at]
  · show up _ _ _ _ _ _ = _
    rw [up_in (by omega), up_at]
  · exact up_at
  · show up _ _ _ _ _ _ = _
    rw [up_in (by omega), up_in (by omega), up_in (by omega)]
    exact z3 w (by omega) w0
/-- the item that the class adds -/
theorem add66_ev {y1 : Int32} (hj : j < 24) : ∀ (s k m : Nat) (p : Mem), k + s = 4 → s < m → ∃ p', ve_add_66 N m y1 (nI j) (nI k) p = (if y1 = 0 then some (nI j, up (up p' 6 11 (p' 6 11 + 1)) 6 12 (p' 6 12 + 1)) else some (nI j, up p' 6 11 (p' 6 11 + 1))) ∧ (∀ c, c ≠ 15 → p' c = p c) ∧ (∀ x, k ≤ x → x < 4 → p' 15 (4 * j + x) = -1) ∧ ∀ x, ¬ (4 * j + k ≤ x ∧ x < 4 * j + 4) → p' 15 x = p 15 x
  | 0, k, m, p, hk, hm => by
    obtain ⟨m, rfl⟩ : ∃ x, m = x + 1 := ⟨m - 1, by omega⟩
    refine ⟨p, ?_, fun _ _ => rfl, fun x x1 x2 => by omega, fun _ _ => rfl⟩
    have : k = 4 := by omega
    subst this
    unfold ve_add_66
    rw [if_neg (by decide)]
  | s + 1, k, m, p, hk, hm => by
    obtain ⟨m, rfl⟩ : ∃ x, m = x + 1 := ⟨m - 1, by omega⟩
    obtain ⟨p', z1, z2, z3, z4⟩ := add66_ev (y1 := y1) hj s (k + 1) m (up p 15 (4 * j + k) (-1)) (by omega) (by omega)
    refine ⟨p', ?_, fun c hc => (z2 c hc).trans (up_row hc), fun x x1 x2 => ?_, fun x hx => ?_⟩
    · conv => lhs; unfold ve_add_66
      rw [if_pos (show nI k < 4 from nI_lt (b := 4) (by omega) (by decide)), show (4 : Int32) = nI 4 from rfl, pk_mul, nI_add, ck_nI (by omega) (by decide), nI_clamp (by omega), nI_1, show j * 4 + k = 4 * j + k by omega]
      exact z1
    · by_cases q : x = k
      · subst q; rw [z4 _ (by omega), up_at]
      · exact z3 x (by omega) x2
    · rw [z4 x (by omega), up_in (by omega)]
theorem add_ev {k pl : Int32} (hN : 10 ≤ N) (hj : j < 24) (h11 : p 6 11 = nI j) : ∃ p', ve_add N k pl p = some (nI j, p') ∧ p' 7 j = k ∧ p' 8 j = pl ∧ p' 9 j = 0 ∧ p' 10 j = (if k = 2 then -1 else 0) ∧ p' 11 j = 0 ∧ p' 12 j = -1 ∧ p' 13 j = -1 ∧ (∀ x, x < 4 → p' 15 (4 * j + x) = -1) ∧ p' 6 11 = nI (j + 1) ∧ p' 6 12 = (if k = 0 then p 6 12 + 1 else p 6 12) ∧ (∀ x, x ≠ 11 → x ≠ 12 → p' 6 x = p 6 x) ∧ (∀ c x, c ≠ 6 → c ≠ 15 → ¬ (x = j ∧ 7 ≤ c ∧ c ≤ 13) → p' c x = p c x) ∧ ∀ x, ¬ (4 * j ≤ x ∧ x < 4 * j + 4) → p' 15 x = p 15 x := by
  obtain ⟨p1, z1, z2, z3, z4⟩ := add66_ev (N := N) (y1 := k) hj 4 0 N (up (up (up (up (up (up (up p 7 j k) 8 j pl) 9 j 0) 10 j (if k = 2 then -1 else 0)) 11 j 0) 12 j (-1)) 13 j (-1)) (by omega) (by omega)
  have hmain : ve_add N k pl p = if k = 0 then some (nI j, up (up p1 6 11 (p1 6 11 + 1)) 6 12 (p1 6 12 + 1)) else some (nI j, up p1 6 11 (p1 6 11 + 1)) := by
    rw [← z1]
    unfold ve_add ve_add_41
    rw [h11, ck_nI hj (by decide), ck_nI hj (by decide), ck_nI hj (by decide), nI_clamp (by omega)]
    by_cases q : k = 2
    · rw [if_pos q, if_pos q, ck_nI hj (by decide), ck_nI hj (by decide), ck_nI hj (by decide), ck_nI hj (by decide)]
      rfl
    · rw [if_neg q, if_neg q, ck_nI hj (by decide), ck_nI hj (by decide), ck_nI hj (by decide), ck_nI hj (by decide)]
      rfl
  have q6 : ∀ x, p1 6 x = p 6 x := fun x => by
    rw [z2 6 (by decide)]
    rw [up_cell (by decide), up_cell (by decide), up_cell (by decide), up_cell (by decide), up_cell (by decide), up_cell (by decide), up_cell (by decide)]
  have base : ∀ (P : Mem → Prop), (k = 0 → P (up (up p1 6 11 (p1 6 11 + 1)) 6 12 (p1 6 12 + 1))) → (k ≠ 0 → P (up p1 6 11 (p1 6 11 + 1))) → ∃ p', ve_add N k pl p = some (nI j, p') ∧ P p' := fun P h1 h2 => by
    by_cases q : k = 0
    · exact ⟨_, by rw [hmain, if_pos q], h1 q⟩
    · exact ⟨_, by rw [hmain, if_neg q], h2 q⟩
  have cells : ∀ (p' : Mem), (∀ c, c ≠ 6 → p' c = p1 c) → p' 7 j = k ∧ p' 8 j = pl ∧ p' 9 j = 0 ∧ p' 10 j = (if k = 2 then -1 else 0) ∧ p' 11 j = 0 ∧ p' 12 j = -1 ∧ p' 13 j = -1 ∧ (∀ x, x < 4 → p' 15 (4 * j + x) = -1) ∧ (∀ c x, c ≠ 6 → c ≠ 15 → ¬ (x = j ∧ 7 ≤ c ∧ c ≤ 13) → p' c x = p c x) ∧ ∀ x, ¬ (4 * j ≤ x ∧ x < 4 * j + 4) → p' 15 x = p 15 x := fun p' hp' => by
    refine ⟨?_, ?_, ?_, ?_, ?_, ?_, ?_, fun x hx => ?_, fun c x c6 c15 hx => ?_, fun x hx => ?_⟩
    · rw [hp' 7 (by decide), z2 7 (by decide), up_cell (by decide), up_cell (by decide), up_cell (by decide), up_cell (by decide), up_cell (by decide), up_cell (by decide), up_at]
    · rw [hp' 8 (by decide), z2 8 (by decide), up_cell (by decide), up_cell (by decide), up_cell (by decide), up_cell (by decide), up_cell (by decide), up_at]
    · rw [hp' 9 (by decide), z2 9 (by decide), up_cell (by decide), up_cell (by decide), up_cell (by decide), up_cell (by decide), up_at]
    · rw [hp' 10 (by decide), z2 10 (by decide), up_cell (by decide), up_cell (by decide), up_cell (by decide), up_at]
    · rw [hp' 11 (by decide), z2 11 (by decide), up_cell (by decide), up_cell (by decide), up_at]
    · rw [hp' 12 (by decide), z2 12 (by decide), up_cell (by decide), up_at]
    · rw [hp' 13 (by decide), z2 13 (by decide), up_at]
    · rw [hp' 15 (by decide)]; exact z3 x (by omega) hx
    · rw [hp' c c6, z2 c c15, up_other (by omega), up_other (by omega), up_other (by omega), up_other (by omega), up_other (by omega), up_other (by omega), up_other (by omega)]
    · rw [hp' 15 (by decide), z4 x (by omega), up_cell (by decide), up_cell (by decide), up_cell (by decide), up_cell (by decide), up_cell (by decide), up_cell (by decide), up_cell (by decide)]
  by_cases q : k = 0
  · obtain ⟨c1, c2, c3, c4, c5, c6, c7, c8, c9, c10⟩ := cells (up (up p1 6 11 (p1 6 11 + 1)) 6 12 (p1 6 12 + 1)) (fun c hc => by rw [up_row hc, up_row hc])
    exact ⟨_, by rw [hmain, if_pos q], c1, c2, c3, c4, c5, c6, c7, c8, by rw [up_in (by omega), up_at, q6, h11, nI_1], by rw [up_at, if_pos q, q6], fun x x1 x2 => by rw [up_in x2, up_in x1]; exact q6 x, c9, c10⟩
  · obtain ⟨c1, c2, c3, c4, c5, c6, c7, c8, c9, c10⟩ := cells (up p1 6 11 (p1 6 11 + 1)) (fun c hc => up_row hc)
    exact ⟨_, by rw [hmain, if_neg q], c1, c2, c3, c4, c5, c6, c7, c8, by rw [up_at, q6, h11, nI_1], by rw [up_in (by omega), if_neg q, q6], fun x x1 x2 => by rw [up_in x1]; exact q6 x, c9, c10⟩
end PA4
