/-! reading a text: signs, digits, numbers -/
def sgx (t : Mem) (len a : Nat) : Int32 := if a < len then t 2 a else -1
/-- both readers stand at the same sign -/
def Sc (t r μ : Mem) (a len : Nat) : Prop := r 0 2 = nI len ∧ r 0 5 = nI a ∧ r 0 4 = 0 ∧ μ 0 12 = nI a ∧ μ 0 9 = nI len ∧ a ≤ len ∧ len ≤ 80 ∧ μ 0 13 = 1 ∧ ∀ k, k < 80 → μ 8 k = t 2 k ∧ ∃ b : Nat, b < 128 ∧ t 2 k = nI b
/-- both have found the text wrong, at the same sign for the same reason -/
def Bad (r μ : Mem) (len : Nat) : Prop := (r 0 4 = 1 ∨ r 0 4 = 2) ∧ μ 0 13 = r 0 4 ∧ (∃ a : Nat, a ≤ len ∧ r 0 5 = nI a ∧ μ 0 12 = nI a) ∧ r 0 2 = nI len ∧ μ 0 9 = nI len
def RSf (r r' : Mem) : Prop := ∀ c, c ≠ 0 → r' c = r c
def MSf (μ μ' : Mem) : Prop := (∀ c, c ≠ 0 → μ' c = μ c) ∧ ∀ k, k ≠ 12 → k ≠ 18 → μ' 0 k = μ 0 k
section PA1
variable {t r μ r' μ' : Mem} {a len N : Nat}
theorem RSf.refl : RSf r r := fun _ _ => rfl
theorem RSf.trans {r2 : Mem} (h1 : RSf r r') (h2 : RSf r' r2) : RSf r r2 := fun c hc => (h2 c hc).trans (h1 c hc)
theorem MSf.refl : MSf μ μ := ⟨fun _ _ => rfl, fun _ _ _ => rfl⟩
theorem MSf.trans {μ2 : Mem} (h1 : MSf μ μ') (h2 : MSf μ' μ2) : MSf μ μ2 := ⟨fun c hc => (h2.1 c hc).trans (h1.1 c hc), fun k k1 k2 => (h2.2 k k1 k2).trans (h1.2 k k1 k2)⟩
theorem sgx_ev (h : Sc t r μ a len) : re_sign t r = some (sgx t len a) ∧ md_here μ = some (sgx t len a) := by
  obtain ⟨h1, h2, h3, h4, h5, h6, h7, _, h8⟩ := h
  unfold re_sign md_here sgx
  rw [h1, h2, h4, h5, if_neg (nI_pos (by omega))]
  by_cases q : a < len
  · rw [if_pos (nI_lt q (by omega)), if_pos q, if_pos (show nI a < 80 from nI_lt (b := 80) (by omega) (by decide)), rd_nI (by omega) (by decide), rd_nI (by omega) (by decide), if_pos (nI_lt q (by omega)), (h8 a (by omega)).1]
    exact ⟨rfl, rfl⟩
  · rw [if_neg (nI_nlt (by omega) (by omega)), if_neg q, if_neg (nI_nlt (by omega) (by omega))]
    exact ⟨rfl, rfl⟩
theorem sgx_in {c : Int32} (h : sgx t len a = c) (hc : c ≠ -1) : a < len := by
  unfold sgx at h
  by_cases q : a < len
  · exact q
  · rw [if_neg q] at h; exact absurd h.symm hc
theorem Sc.next (h : Sc t r μ a len) (ha : a < len) (hr2 : r' 0 2 = r 0 2) (hr5 : r' 0 5 = nI (a + 1)) (hr4 : r' 0 4 = r 0 4) (hm : ∀ c, c ≠ 0 → μ' c = μ c) (h12 : μ' 0 12 = nI (a + 1)) (h9 : μ' 0 9 = μ 0 9) (h13 : μ' 0 13 = μ 0 13) : Sc t r' μ' (a + 1) len :=
  ⟨hr2.trans h.1, hr5, hr4.trans h.2.2.1, h12, h9.trans h.2.2.2.2.1, by omega, h.2.2.2.2.2.2.1, h13.trans h.2.2.2.2.2.2.2.1, by rw [hm 8 (by decide)]; exact h.2.2.2.2.2.2.2.2⟩
theorem takes_sim {c : Int32} (h : Sc t r μ a len) (hc : c ≠ -1) :
    (sgx t len a = c ∧ ∃ r' μ', re_takes t c r = some (true, r') ∧ md_takes c μ = some (true, μ') ∧ Sc t r' μ' (a + 1) len ∧ RSf r r' ∧ MSf μ μ') ∨ (sgx t len a ≠ c ∧ re_takes t c r = some (false, r) ∧ md_takes c μ = some (false, μ)) := by
  obtain ⟨e1, e2⟩ := sgx_ev h
  by_cases q : sgx t len a = c
  · have ha := sgx_in q hc
    refine Or.inl ⟨q, up r 0 5 (r 0 5 + 1), up μ 0 12 (μ 0 12 + 1), ?_, ?_, ?_, fun c' hc' => up_row hc', fun c' hc' => up_row hc', fun k k1 k2 => up_in k1⟩
    · unfold re_takes
      rw [if_pos h.2.2.1, e1, Option.bind_some, if_pos q]
    · unfold md_takes
      rw [e2, Option.bind_some, if_pos q]
    · exact h.next ha (up_in (by omega)) (by rw [up_at, h.2.1, nI_1]) (up_in (by omega)) (fun c' hc' => up_row hc') (by rw [up_at, h.2.2.2.1, nI_1]) (up_in (by omega)) (up_in (by omega))
  · refine Or.inr ⟨q, ?_, ?_⟩
    · unfold re_takes
      rw [if_pos h.2.2.1, e1, Option.bind_some, if_neg q]
    · unfold md_takes
      rw [e2, Option.bind_some, if_neg q]
theorem Sc.bad (h : Sc t r μ a len) : Bad (up r 0 4 1) μ len ∧ RSf r (up r 0 4 1) :=
  ⟨⟨Or.inl up_at, by rw [up_at]; exact h.2.2.2.2.2.2.2.1, ⟨a, h.2.2.2.2.2.1, by rw [up_in (by omega)]; exact h.2.1, h.2.2.2.1⟩, by rw [up_in (by omega)]; exact h.1, h.2.2.2.2.1⟩, fun c hc => up_row hc⟩
/-- a sign between two is taken, by the class -/
theorem between_ev {lo hi : Nat} (h : Sc t r μ a len) (hlo : lo < 128) (hhi : hi < 128) :
    (∃ x : Nat, lo ≤ x ∧ x ≤ hi ∧ sgx t len a = nI x ∧ a < len ∧ re_readBetween t (nI lo) (nI hi) r = some (nI (x - lo), up r 0 5 (nI (a + 1)))) ∨ ((∀ x : Nat, lo ≤ x → x ≤ hi → sgx t len a ≠ nI x) ∧ re_readBetween t (nI lo) (nI hi) r = some (0, up r 0 4 1)) := by
  obtain ⟨e1, e2⟩ := sgx_ev h
  have hf : re_readBetween_22 t r = some (0, up r 0 4 1) := by
    unfold re_readBetween_22 re_fail
    rw [if_pos h.2.2.1, Option.bind_some]
  by_cases ha : a < len
  · obtain ⟨_, b, hb, hb2⟩ := h.2.2.2.2.2.2.2.2 a (by have := h.2.2.2.2.2.2.1; omega)
    have es : sgx t len a = nI b := by unfold sgx; rw [if_pos ha]; exact hb2
    by_cases q : lo ≤ b ∧ b ≤ hi
    · refine Or.inl ⟨b, q.1, q.2, es, ha, ?_⟩
      unfold re_readBetween
      rw [e1, Option.bind_some, if_pos h.2.2.1, es, if_neg (nI_nlt q.1 (by omega)), if_neg (nI_nlt q.2 (by omega)), pk_sub q.1, h.2.1, nI_1]
    · refine Or.inr ⟨fun x x1 x2 e => ?_, ?_⟩
      · have := nI_inj (by omega) (by omega) (es.symm.trans e)
        omega
      · unfold re_readBetween
        rw [e1, Option.bind_some, if_pos h.2.2.1, es]
        by_cases q1 : b < lo
        · rw [if_pos (nI_lt q1 (by omega))]; exact hf
        · rw [if_neg (nI_nlt (by omega) (by omega)), if_pos (nI_lt (by omega) (by omega))]; exact hf
  · have es : sgx t len a = -1 := by unfold sgx; rw [if_neg ha]
    refine Or.inr ⟨fun x x1 x2 e => nI_m1 (a := x) (by omega) (e.symm.trans es), ?_⟩
    unfold re_readBetween
    rw [e1, Option.bind_some, if_pos h.2.2.1, es, if_pos (by rw [Int32.lt_iff_toInt_lt, nI_toInt (by omega)]; have : (-1 : Int32).toInt = -1 := (by decide); omega)]
    exact hf
theorem isIn_no {s : Int32} {lo hi : Nat} (hlo : lo < 2 ^ 31) (hhi : hi < 2 ^ 31) (hs : s = -1 ∨ ∃ b : Nat, b < 128 ∧ s = nI b) (h : ∀ x : Nat, lo ≤ x → x ≤ hi → s ≠ nI x) : md_isIn s (nI lo) (nI hi) = some false := by
  rcases hs with q | ⟨b, hb, q⟩
  · rw [q]; exact isIn_lo (by rw [Int32.lt_iff_toInt_lt, nI_toInt hlo]; have : (-1 : Int32).toInt = -1 := (by decide); omega)
  · subst q
    by_cases q1 : b < lo
    · exact isIn_lo (nI_lt q1 hlo)
    · by_cases q2 : hi < b
      · exact isIn_hi (nI_lt q2 (by omega))
      · exact absurd rfl (h b (by omega) (by omega))
theorem Sc.sg (h : Sc t r μ a len) : sgx t len a = -1 ∨ ∃ b : Nat, b < 128 ∧ sgx t len a = nI b := by
  unfold sgx
  by_cases q : a < len
  · rw [if_pos q]
    have := h.2.2.2.2.2.2.1
    exact Or.inr (h.2.2.2.2.2.2.2.2 a (by omega)).2
  · rw [if_neg q]; exact Or.inl rfl
/-- a digit, on both sides -/
theorem digit_sim {lo hi : Nat} (h : Sc t r μ a len) (hlo : lo ≤ 9) (hhi : hi ≤ 9) :
    (∃ (x : Nat) (r' μ' : Mem), lo ≤ x ∧ x ≤ hi ∧ re_readBetween t (nI (48 + lo)) (nI (48 + hi)) r = some (nI (x - lo), r') ∧ md_takesDigit (nI lo) (nI hi) μ = some (true, μ') ∧ Sc t r' μ' (a + 1) len ∧ RSf r r' ∧ MSf μ μ' ∧ μ' 0 18 = nI x) ∨
    (∃ r', re_readBetween t (nI (48 + lo)) (nI (48 + hi)) r = some (0, r') ∧ md_takesDigit (nI lo) (nI hi) μ = some (false, μ) ∧ Bad r' μ len ∧ RSf r r') := by
  obtain ⟨e1, e2⟩ := sgx_ev h
  rcases between_ev (lo := 48 + lo) (hi := 48 + hi) h (by omega) (by omega) with ⟨x, x1, x2, x3, x4, x5⟩ | ⟨x1, x2⟩
  · refine Or.inl ⟨x - 48, up r 0 5 (nI (a + 1)), up (up μ 0 18 (nI (x - 48))) 0 12 (nI (a + 1)), by omega, by omega, ?_, ?_, ?_, fun c hc => up_row hc, ⟨fun c hc => by rw [up_row hc, up_row hc], fun k k1 k2 => by rw [up_in k1, up_in k2]⟩, by rw [up_in (by omega), up_at]⟩
    · rw [x5, show x - (48 + lo) = x - 48 - lo by omega]
    · unfold md_takesDigit
      rw [e2, Option.bind_some, x3, show (48 : Int32) = nI 48 from rfl, nI_add, nI_add, isIn_nI x1 x2 (by omega), Option.bind_some, if_pos rfl, Option.bind_some, pk_sub (by omega), h.2.2.2.1, nI_1]
    · exact h.next x4 (up_in (by omega)) up_at (up_in (by omega)) (fun c hc => by rw [up_row hc, up_row hc]) up_at (by rw [up_in (by omega), up_in (by omega)]) (by rw [up_in (by omega), up_in (by omega)])
  · refine Or.inr ⟨_, x2, ?_, h.bad⟩
    unfold md_takesDigit
    rw [e2, Option.bind_some, show (48 : Int32) = nI 48 from rfl, nI_add, nI_add, isIn_no (by omega) (by omega) h.sg x1, Option.bind_some, if_neg (by decide)]
theorem code_sim (h : Sc t r μ a len) :
    (∃ (x : Nat) (r' μ' : Mem), x < 8 ∧ re_readCode t r = some (nI x, r') ∧ md_takesCode μ = some (true, μ') ∧ Sc t r' μ' (a + 1) len ∧ RSf r r' ∧ MSf μ μ' ∧ μ' 0 18 = nI x) ∨
    (∃ r', re_readCode t r = some (0, r') ∧ md_takesCode μ = some (false, μ) ∧ Bad r' μ len ∧ RSf r r') := by
  obtain ⟨e1, e2⟩ := sgx_ev h
  unfold re_readCode
  rw [show (97 : Int32) = nI 97 from rfl, show (104 : Int32) = nI 104 from rfl]
  rcases between_ev (lo := 97) (hi := 104) h (by omega) (by omega) with ⟨x, x1, x2, x3, x4, x5⟩ | ⟨x1, x2⟩
  · refine Or.inl ⟨x - 97, up r 0 5 (nI (a + 1)), up (up μ 0 18 (nI (x - 97))) 0 12 (nI (a + 1)), by omega, by rw [x5]; rfl, ?_, ?_, fun c hc => up_row hc, ⟨fun c hc => by rw [up_row hc, up_row hc], fun k k1 k2 => by rw [up_in k1, up_in k2]⟩, by rw [up_in (by omega), up_at]⟩
    · unfold md_takesCode
      rw [e2, Option.bind_some, x3, show (97 : Int32) = nI 97 from rfl, show (104 : Int32) = nI 104 from rfl, isIn_nI x1 x2 (by omega), Option.bind_some, if_pos rfl, Option.bind_some, pk_sub (by omega), h.2.2.2.1, nI_1]
    · exact h.next x4 (up_in (by omega)) up_at (up_in (by omega)) (fun c hc => by rw [up_row hc, up_row hc]) up_at (by rw [up_in (by omega), up_in (by omega)]) (by rw [up_in (by omega), up_in (by omega)])
  · refine Or.inr ⟨_, by rw [x2]; rfl, ?_, h.bad⟩
    unfold md_takesCode
    rw [e2, Option.bind_some, show (97 : Int32) = nI 97 from rfl, show (104 : Int32) = nI 104 from rfl, isIn_no (by omega) (by omega) h.sg x1, Option.bind_some, if_neg (by decide)]
theorem num_loop : ∀ (s k n m v a : Nat) (r μ : Mem), Sc t r μ a len → k + s = 3 → s < n → s < m → v < 10 ^ k →
    ∃ (v' a' : Nat) (r' μ' : Mem), v' ≤ 999 ∧ re_readNumber_11 N t n (nI v) (nI k) r = some (nI v', r') ∧ md_takesNumber_19 N m (nI v) (nI k) μ = some (true, μ') ∧ Sc t r' μ' a' len ∧ RSf r r' ∧ MSf μ μ' ∧ μ' 0 18 = nI v'
  | 0, k, n, m, v, a, r, μ, h, hk, hn, hm, hv => by
    obtain ⟨n, rfl⟩ : ∃ x, n = x + 1 := ⟨n - 1, by omega⟩
    obtain ⟨m, rfl⟩ : ∃ x, m = x + 1 := ⟨m - 1, by omega⟩
    have : k = 3 := by omega
    subst this
    refine ⟨v, a, r, up μ 0 18 (nI v), by omega, ?_, ?_, ⟨h.1, h.2.1, h.2.2.1, by rw [up_in (by omega)]; exact h.2.2.2.1, by rw [up_in (by omega)]; exact h.2.2.2.2.1, h.2.2.2.2.2.1, h.2.2.2.2.2.2.1, by rw [up_in (by omega)]; exact h.2.2.2.2.2.2.2.1, by rw [up_row (by decide)]; exact h.2.2.2.2.2.2.2.2⟩, RSf.refl, ⟨fun c hc => up_row hc, fun k _ k2 => up_in k2⟩, up_at⟩
    · unfold re_readNumber_11
      rw [if_neg (by decide)]
    · unfold md_takesNumber_19
      rw [if_neg (by decide)]
  | s + 1, k, n, m, v, a, r, μ, h, hk, hn, hm, hv => by
    obtain ⟨n, rfl⟩ : ∃ x, n = x + 1 := ⟨n - 1, by omega⟩
    obtain ⟨m, rfl⟩ : ∃ x, m = x + 1 := ⟨m - 1, by omega⟩
    obtain ⟨e1, e2⟩ := sgx_ev h
    have hp : 10 ^ k ≤ 10 ^ 2 := Nat.pow_le_pow_right (by decide) (by omega)
    have hk3 : nI k < 3 := nI_lt (b := 3) (by omega) (by decide)
    have stop : ∃ (v' a' : Nat) (r' μ' : Mem), v' ≤ 999 ∧ some (nI v, r) = some (nI v', r') ∧ some (true, up μ 0 18 (nI v)) = some (true, μ') ∧ Sc t r' μ' a' len ∧ RSf r r' ∧ MSf μ μ' ∧ μ' 0 18 = nI v' :=
      ⟨v, a, r, up μ 0 18 (nI v), by omega, rfl, rfl, ⟨h.1, h.2.1, h.2.2.1, by rw [up_in (by omega)]; exact h.2.2.2.1, by rw [up_in (by omega)]; exact h.2.2.2.2.1, h.2.2.2.2.2.1, h.2.2.2.2.2.2.1, by rw [up_in (by omega)]; exact h.2.2.2.2.2.2.2.1, by rw [up_row (by decide)]; exact h.2.2.2.2.2.2.2.2⟩, RSf.refl, ⟨fun c hc => up_row hc, fun k _ k2 => up_in k2⟩, up_at⟩
    unfold re_readNumber_11 md_takesNumber_19
    rw [if_pos hk3, if_pos hk3]
    by_cases q : 0 < v
    · have h0v : (0 : Int32) < nI v := nI_lt (a := 0) q (by omega)
      rw [if_pos h0v, if_pos h0v, e1, e2, Option.bind_some, Option.bind_some]
      rcases between_ev (lo := 48) (hi := 57) h (by omega) (by omega) with ⟨x, x1, x2, x3, x4, x5⟩ | ⟨x1, x2⟩
      · have hd : re_isDigit (nI x) = some true := by
          unfold re_isDigit
          rw [if_neg (show ¬ nI x < 48 from nI_nlt (b := 48) x1 (by omega)), if_neg (show ¬ 57 < nI x from nI_nlt (a := 57) x2 (by decide))]
        rw [x3, hd, Option.bind_some, if_pos rfl, show (48 : Int32) = nI 48 from rfl, show (57 : Int32) = nI 57 from rfl, x5, isIn_nI x1 x2 (by omega), Option.bind_some, Option.bind_some, if_pos rfl, Option.bind_some]
        have hS2 : Sc t (up r 0 5 (nI (a + 1))) (up μ 0 12 (nI (a + 1))) (a + 1) len := h.next x4 (up_in (by omega)) up_at (up_in (by omega)) (fun c hc => up_row hc) up_at (up_in (by omega)) (up_in (by omega))
        have hpw : 10 ^ (k + 1) = 10 * 10 ^ k := by rw [Nat.pow_succ]; omega
        obtain ⟨v', a', r', μ', y1, y2, y3, y4, y5, y6, y7⟩ := num_loop s (k + 1) n m (10 * v + (x - 48)) (a + 1) _ _ hS2 (by omega) (by omega) (by omega) (by omega)
        refine ⟨v', a', r', μ', y1, ?_, ?_, y4, (fun c hc => (y5 c hc).trans (up_row hc)), MSf.trans ⟨fun c hc => up_row hc, fun k k1 _ => up_in k1⟩ y6, y7⟩
        · dsimp only
          rw [show (10 : Int32) = nI 10 from rfl, pk_mul, nI_add, nI_1]
          exact y2
        · rw [show (10 : Int32) = nI 10 from rfl, pk_mul, nI_add, pk_sub (by omega), nI_1, h.2.2.2.1, nI_1, show 10 * v + x - 48 = 10 * v + (x - 48) by omega]
          exact y3
      · have hd : re_isDigit (sgx t len a) = some false := by
          unfold re_isDigit
          rcases h.sg with z | ⟨b, hb, z⟩
          · rw [z, if_pos (by decide)]
          · rw [z]
            by_cases q1 : b < 48
            · rw [if_pos (show nI b < 48 from nI_lt (b := 48) q1 (by decide))]
            · by_cases q2 : 57 < b
              · rw [if_neg (show ¬ nI b < 48 from nI_nlt (b := 48) (by omega) (by omega)), if_pos (show 57 < nI b from nI_lt (a := 57) q2 (by omega))]
              · exact absurd z (x1 b (by omega) (by omega))
        rw [hd, Option.bind_some, if_neg (by decide), show (48 : Int32) = nI 48 from rfl, show (57 : Int32) = nI 57 from rfl, isIn_no (by omega) (by omega) h.sg x1, Option.bind_some, if_neg (by decide)]
        exact stop
    · have h0v : ¬ (0 : Int32) < nI v := nI_nlt (a := 0) (by omega) (by decide)
      rw [if_neg h0v, if_neg h0v]
      exact stop
theorem number_sim (h : Sc t r μ a len) (hN : 5 ≤ N) :
    (∃ (v a' : Nat) (r' μ' : Mem), v ≤ 999 ∧ re_readNumber N t r = some (nI v, r') ∧ md_takesNumber N μ = some (true, μ') ∧ Sc t r' μ' a' len ∧ RSf r r' ∧ MSf μ μ' ∧ μ' 0 18 = nI v) ∨
    (∃ r', re_readNumber N t r = some (0, r') ∧ md_takesNumber N μ = some (false, μ) ∧ Bad r' μ len ∧ RSf r r') := by
  unfold re_readNumber md_takesNumber
  rcases digit_sim (lo := 0) (hi := 9) h (by omega) (by omega) with ⟨x, r1, μ1, x1, x2, x3, x4, x5, x6, x7, x8⟩ | ⟨r1, x1, x2, x3, x4⟩
  · have x3' : re_readBetween t 48 57 r = some (nI (x - 0), r1) := x3
    have x4' : md_takesDigit 0 9 μ = some (true, μ1) := x4
    rw [x3', x4', Option.bind_some, Option.bind_some]
    dsimp only
    rw [if_pos rfl, x8, show (1 : Int32) = nI 1 from rfl]
    obtain ⟨v', a', r', μ', y1, y2, y3, y4, y5, y6, y7⟩ := num_loop (N := N) 2 1 N N x (a + 1) r1 μ1 x5 (by omega) (by omega) (by omega) (by omega)
    exact Or.inl ⟨v', a', r', μ', y1, y2, y3, y4, x6.trans y5, x7.trans y6, y7⟩
  · have x1' : re_readBetween t 48 57 r = some (0, r1) := x1
    have x2' : md_takesDigit 0 9 μ = some (false, μ) := x2
    rw [x1', x2', Option.bind_some, Option.bind_some]
    dsimp only
    rw [if_neg (by decide)]
    refine Or.inr ⟨r1, ?_, rfl, x3, x4⟩
    obtain ⟨m, hm⟩ : ∃ m, N = m + 1 := ⟨N - 1, by omega⟩
    have : ∀ K, re_readNumber_11 K t (m + 1) 0 1 r1 = some (0, r1) := by
      intro K
      unfold re_readNumber_11
      rw [if_pos (by decide), if_neg (by decide)]
    have h2 := this N
    rw [← hm] at h2
    exact h2
/-! once the text is wrong, the class's reader stands still -/
theorem sign_some : ∃ s, re_sign t r = some s := by
  unfold re_sign
  by_cases q1 : r 0 5 < 0
  · exact ⟨_, if_pos q1⟩
  · rw [if_neg q1]
    by_cases q2 : r 0 5 < r 0 2
    · rw [if_pos q2]
      by_cases q3 : r 0 5 < 80
      · rw [if_pos q3]
        obtain ⟨j, hj, hj2⟩ := nI_of q1
        rw [hj2] at q3 ⊢
        have h80 : nI j < nI 80 := q3
        rw [nI_ltI hj (by decide)] at h80
        rw [rd_nI h80 (by decide)]
        exact ⟨_, rfl⟩
      · exact ⟨_, if_neg q3⟩
    · exact ⟨_, if_neg q2⟩
theorem takes_dead {c : Int32} (h : r 0 4 ≠ 0) : re_takes t c r = some (false, r) := by unfold re_takes; rw [if_neg h]
theorem fail_dead {c : Int32} (h : r 0 4 ≠ 0) : re_fail c r = some r := by unfold re_fail; rw [if_neg h]
theorem expect_dead {c : Int32} (h : r 0 4 ≠ 0) : re_expect t c r = some r := by
  unfold re_expect
  rw [takes_dead h, Option.bind_some]
  dsimp only
  rw [if_neg (by decide), fail_dead h, Option.bind_some]
theorem between_dead {x y : Int32} (h : r 0 4 ≠ 0) : re_readBetween t x y r = some (0, r) := by
  obtain ⟨s, hs⟩ := sign_some (t := t) (r := r)
  unfold re_readBetween
  rw [hs, Option.bind_some, if_neg h]
  unfold re_readBetween_22
  rw [fail_dead h, Option.bind_some]
theorem code_dead (h : r 0 4 ≠ 0) : re_readCode t r = some (0, r) := by unfold re_readCode; rw [between_dead h]; rfl
theorem var_dead (h : r 0 4 ≠ 0) : re_readVariable t r = some (0, r) := by unfold re_readVariable; rw [between_dead h]; rfl
theorem number_dead (h : r 0 4 ≠ 0) (hN : 1 ≤ N) : re_readNumber N t r = some (0, r) := by
  unfold re_readNumber
  rw [between_dead h, Option.bind_some]
  obtain ⟨m, hm⟩ : ∃ m, N = m + 1 := ⟨N - 1, by omega⟩
  have : ∀ K, re_readNumber_11 K t (m + 1) 0 1 r = some (0, r) := by
    intro K
    unfold re_readNumber_11
    rw [if_pos (by decide), if_neg (by decide)]
  have h2 := this N
  rw [← hm] at h2
  exact h2
theorem Bad.dead (h : Bad r μ len) : r 0 4 ≠ 0 := by rcases h.1 with q | q <;> rw [q] <;> decide
/-- a sign that must stand there -/
theorem expect_sim {c : Int32} (h : Sc t r μ a len) (hc : c ≠ -1) :
    (∃ r' μ', re_expect t c r = some r' ∧ md_takes c μ = some (true, μ') ∧ Sc t r' μ' (a + 1) len ∧ RSf r r' ∧ MSf μ μ') ∨ (∃ r', re_expect t c r = some r' ∧ md_takes c μ = some (false, μ) ∧ Bad r' μ len ∧ RSf r r') := by
  unfold re_expect
  rcases takes_sim h hc with ⟨q, r', μ', x1, x2, x3, x4, x5⟩ | ⟨q, x1, x2⟩
  · exact Or.inl ⟨r', μ', by rw [x1]; rfl, x2, x3, x4, x5⟩
  · refine Or.inr ⟨up r 0 4 1, ?_, x2, h.bad⟩
    rw [x1, Option.bind_some]
    dsimp only
    unfold re_fail
    rw [if_neg (by decide), if_pos h.2.2.1]
    rfl
end PA1
