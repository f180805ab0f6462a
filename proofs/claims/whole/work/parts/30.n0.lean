/-! the pure side: numbers, reads and writes -/
theorem up_eq (m : Mem) (c i : Nat) (v : Int32) (c' i' : Nat) : up m c i v c' i' = if c' = c ∧ i' = i then v else m c' i' := by
  unfold up upd
  by_cases h : c' = c
  · subst h
    rw [Nat.beq_refl]
    by_cases h2 : i' = i
    · subst h2; simp
    · simp [h2]
  · have hb : Nat.beq c' c = false := by
      cases hc : Nat.beq c' c with
      | false => rfl
      | true => exact absurd (Nat.eq_of_beq_eq_true hc) h
    rw [hb]
    simp [h]
theorem up_at {m : Mem} {c i : Nat} {v : Int32} : up m c i v c i = v := by rw [up_eq]; simp
theorem up_in {m : Mem} {c i i' : Nat} {v : Int32} (h : i' ≠ i) : up m c i v c i' = m c i' := by rw [up_eq, if_neg (fun q => h q.2)]
theorem up_row {m : Mem} {c i c' : Nat} {v : Int32} (h : c' ≠ c) : up m c i v c' = m c' := by
  funext i'
  rw [up_eq, if_neg (fun q => h q.1)]
theorem up_cell {m : Mem} {c i c' i' : Nat} {v : Int32} (h : c' ≠ c) : up m c i v c' i' = m c' i' := by rw [up_row h]
theorem up_self {m : Mem} {c i : Nat} {v : Int32} (h : m c i = v) : up m c i v = m := by
  funext c' i'
  rw [up_eq]
  by_cases q : c' = c ∧ i' = i
  · rw [if_pos q, q.1, q.2, h]
  · rw [if_neg q]
theorem upA_at {m : Mem} {c : Nat} {f : Nat → Int32} : upA m c f c = f := by unfold upA; rw [Nat.beq_refl]; rfl
theorem upA_row {m : Mem} {c c' : Nat} {f : Nat → Int32} (h : c' ≠ c) : upA m c f c' = m c' := by
  unfold upA
  have hb : Nat.beq c' c = false := by
    cases hc : Nat.beq c' c with
    | false => rfl
    | true => exact absurd (Nat.eq_of_beq_eq_true hc) h
  rw [hb]; rfl
theorem rd_nI {N a : Nat} {f : Nat → Int32} (h : a < N) (hN : N < 2 ^ 31) : rd N f (nI a) = some (f a) := by
  unfold rd
  rw [nI_toInt (by omega), nI_clamp (by omega), if_pos (by omega)]
theorem ck_nI {α : Type} {N a : Nat} {K : Option α} (h : a < N) (hN : N < 2 ^ 31) : ck N (nI a) K = K := by
  unfold ck
  rw [nI_toInt (by omega), if_pos (by omega)]
theorem ins_nI {a n : Nat} (h : a < n) (hn : n < 2 ^ 31) : xs_isInside (nI a) (nI n) = some true := by
  unfold xs_isInside
  rw [if_neg (nI_pos (by omega)), if_pos (nI_lt h hn)]
theorem ins_out {a n : Nat} (h : n ≤ a) (ha : a < 2 ^ 31) : xs_isInside (nI a) (nI n) = some false := by
  unfold xs_isInside
  rw [if_neg (nI_pos (by omega)), if_neg (nI_nlt h ha)]
theorem ins_neg {x y : Int32} (h : x < 0) : xs_isInside x y = some false := by
  unfold xs_isInside
  rw [if_pos h]
theorem ins24 {a : Nat} (h : a < 24) : xs_isInside (nI a) 24 = some true := ins_nI (n := 24) h (by decide)
theorem ins24m : xs_isInside (-1) 24 = some false := by decide
theorem ins8 {a : Nat} (h : a < 8) : xs_isInside (nI a) 8 = some true := ins_nI (n := 8) h (by decide)
theorem ins4 {a : Nat} (h : a < 4) : xs_isInside (nI a) 4 = some true := ins_nI (n := 4) h (by decide)
theorem ins6 {a : Nat} (h : a < 6) : xs_isInside (nI a) 6 = some true := ins_nI (n := 6) h (by decide)
theorem isIn_nI {a b c : Nat} (h1 : b ≤ a) (h2 : a ≤ c) (hc : c < 2 ^ 31) : md_isIn (nI a) (nI b) (nI c) = some true := by
  unfold md_isIn
  rw [if_neg (nI_nlt h1 (by omega)), if_neg (nI_nlt h2 hc)]
theorem isIn_lo {x y z : Int32} (h : x < y) : md_isIn x y z = some false := by
  unfold md_isIn
  rw [if_pos h]
theorem isIn_hi {x y z : Int32} (h : z < x) : md_isIn x y z = some false := by
  unfold md_isIn
  by_cases q : x < y
  · rw [if_pos q]
  · rw [if_neg q, if_pos h]
theorem i32_cases (x : Int32) : x < 0 ∨ ∃ j : Nat, j < 2 ^ 31 ∧ x = nI j := by
  by_cases h : x < 0
  · exact Or.inl h
  · exact Or.inr (nI_of h)
theorem i32_ge {x y : Int32} : ¬ x < y ↔ y.toInt ≤ x.toInt := by
  rw [Int32.lt_iff_toInt_lt]; omega
theorem nI_m1 {a : Nat} (h : a < 2 ^ 31) : nI a ≠ -1 := by
  intro q
  have := congrArg Int32.toInt q
  rw [nI_toInt h] at this
  have h2 : (-1 : Int32).toInt = -1 := by decide
  omega
theorem nI_inj {a b : Nat} (ha : a < 2 ^ 31) (hb : b < 2 ^ 31) (h : nI a = nI b) : a = b := (nI_eq ha hb).mp h
/-! views of the reference's row -/
abbrev Fm (μ : Mem) (i n w : Nat) : Int32 := μ 5 (643 + 1262 * i + 10 * n + w)
abbrev Gm (μ : Mem) (i w : Nat) : Int32 := μ 5 (21 + 1262 * i + w)
theorem of_nI (i w : Nat) : md_of (nI i) (nI w) = some (nI (21 + 1262 * i + w)) := by
  unfold md_of
  rw [show (21 : Int32) = nI 21 from rfl, show (1262 : Int32) = nI 1262 from rfl, pk_mul, nI_add, nI_add]
theorem at_nI (i n w : Nat) : md_at (nI i) (nI n) (nI w) = some (nI (643 + 1262 * i + 10 * n + w)) := by
  unfold md_at
  rw [show (622 : Int32) = nI 622 from rfl, show (10 : Int32) = nI 10 from rfl, pk_mul, nI_add, nI_add, of_nI]
  show some (nI _) = some (nI _)
  congr 2
  omega

theorem of_0 (i : Nat) : md_of (nI i) 0 = some (nI (21 + 1262 * i + 0)) := of_nI i 0
theorem of_1 (i : Nat) : md_of (nI i) 1 = some (nI (21 + 1262 * i + 1)) := of_nI i 1
theorem of_2 (i : Nat) : md_of (nI i) 2 = some (nI (21 + 1262 * i + 2)) := of_nI i 2
theorem of_3 (i : Nat) : md_of (nI i) 3 = some (nI (21 + 1262 * i + 3)) := of_nI i 3
theorem of_4 (i : Nat) : md_of (nI i) 4 = some (nI (21 + 1262 * i + 4)) := of_nI i 4
theorem of_5 (i : Nat) : md_of (nI i) 5 = some (nI (21 + 1262 * i + 5)) := of_nI i 5
theorem of_6 (i : Nat) : md_of (nI i) 6 = some (nI (21 + 1262 * i + 6)) := of_nI i 6
theorem of_7 (i : Nat) : md_of (nI i) 7 = some (nI (21 + 1262 * i + 7)) := of_nI i 7
theorem of_8 (i : Nat) : md_of (nI i) 8 = some (nI (21 + 1262 * i + 8)) := of_nI i 8
theorem of_9 (i : Nat) : md_of (nI i) 9 = some (nI (21 + 1262 * i + 9)) := of_nI i 9
theorem at_0 (i n : Nat) : md_at (nI i) (nI n) 0 = some (nI (643 + 1262 * i + 10 * n + 0)) := at_nI i n 0
theorem at_1 (i n : Nat) : md_at (nI i) (nI n) 1 = some (nI (643 + 1262 * i + 10 * n + 1)) := at_nI i n 1
theorem at_2 (i n : Nat) : md_at (nI i) (nI n) 2 = some (nI (643 + 1262 * i + 10 * n + 2)) := at_nI i n 2
theorem at_3 (i n : Nat) : md_at (nI i) (nI n) 3 = some (nI (643 + 1262 * i + 10 * n + 3)) := at_nI i n 3
theorem at_4 (i n : Nat) : md_at (nI i) (nI n) 4 = some (nI (643 + 1262 * i + 10 * n + 4)) := at_nI i n 4
theorem at_5 (i n : Nat) : md_at (nI i) (nI n) 5 = some (nI (643 + 1262 * i + 10 * n + 5)) := at_nI i n 5
theorem at_6 (i n : Nat) : md_at (nI i) (nI n) 6 = some (nI (643 + 1262 * i + 10 * n + 6)) := at_nI i n 6
theorem at_7 (i n : Nat) : md_at (nI i) (nI n) 7 = some (nI (643 + 1262 * i + 10 * n + 7)) := at_nI i n 7
theorem at_8 (i n : Nat) : md_at (nI i) (nI n) 8 = some (nI (643 + 1262 * i + 10 * n + 8)) := at_nI i n 8
theorem at_9 (i n : Nat) : md_at (nI i) (nI n) 9 = some (nI (643 + 1262 * i + 10 * n + 9)) := at_nI i n 9
theorem of_10 (i c : Nat) : md_of (nI i) (10 + nI c) = some (nI (21 + 1262 * i + (10 + c))) := by
  rw [show (10 : Int32) = nI 10 from rfl, nI_add, of_nI]
theorem of_14 (i c : Nat) : md_of (nI i) (14 + nI c) = some (nI (21 + 1262 * i + (14 + c))) := by
  rw [show (14 : Int32) = nI 14 from rfl, nI_add, of_nI]
theorem of_22 (i k : Nat) : md_of (nI i) (22 + (3 * nI k)) = some (nI (21 + 1262 * i + (22 + 3 * k))) := by
  rw [show (22 : Int32) = nI 22 from rfl, show (3 : Int32) = nI 3 from rfl, pk_mul, nI_add, of_nI]
theorem of_23 (i k : Nat) : md_of (nI i) ((22 + (3 * nI k)) + 1) = some (nI (21 + 1262 * i + (23 + 3 * k))) := by
  rw [show (22 : Int32) = nI 22 from rfl, show (3 : Int32) = nI 3 from rfl, show (1 : Int32) = nI 1 from rfl, pk_mul, nI_add, nI_add, of_nI]
  congr 2; omega
theorem of_24 (i k : Nat) : md_of (nI i) ((22 + (3 * nI k)) + 2) = some (nI (21 + 1262 * i + (24 + 3 * k))) := by
  rw [show (22 : Int32) = nI 22 from rfl, show (3 : Int32) = nI 3 from rfl, show (2 : Int32) = nI 2 from rfl, pk_mul, nI_add, nI_add, of_nI]
  congr 2; omega
theorem add1_nI (c : Nat) : (1 : Int32) + nI c = nI (1 + c) := by rw [show (1 : Int32) = nI 1 from rfl, nI_add]
theorem add9_nI (c : Nat) : (9 : Int32) + nI c = nI (9 + c) := by rw [show (9 : Int32) = nI 9 from rfl, nI_add]
theorem add17_nI (c : Nat) : (17 : Int32) + nI c = nI (17 + c) := by rw [show (17 : Int32) = nI 17 from rfl, nI_add]
/-- the version that an instance of the reference runs on -/
def Vr (i V : Nat) (sv : Nat → Nat → Int32) (μ : Mem) : Prop :=
  (∃ wf ve : Nat, wf < 4 ∧ ve < 4 ∧ V = 4 * wf + ve ∧ Gm μ i 2 = nI wf ∧ Gm μ i 3 = nI ve) ∧ (∀ n, n < 64 → ∀ w, w < 9 → μ 1 ((64 * V + n) * 9 + w) = sv n w) ∧ μ 3 (4 * V) = sv 64 0
theorem Vr.ver {i V : Nat} {sv : Nat → Nat → Int32} {μ : Mem} (h : Vr i V sv μ) (hi : i < 6) : md_versionOf μ (nI i) = some (nI V) ∧ V < 16 := by
  obtain ⟨⟨wf, ve, h1, h2, h3, h4, h5⟩, _⟩ := h
  refine ⟨?_, by omega⟩
  unfold md_versionOf
  rw [of_2]
  simp only [Option.bind_some]
  rw [rd_nI (by omega) (by decide), of_3]
  simp only [Option.bind_some]
  rw [rd_nI (by omega) (by decide)]
  simp only [Option.bind_some]
  rw [show μ 5 (21 + 1262 * i + 2) = nI wf from h4, show μ 5 (21 + 1262 * i + 3) = nI ve from h5, show (4 : Int32) = nI 4 from rfl, pk_mul, nI_add, h3]
theorem Vr.np {i V n w : Nat} {sv : Nat → Nat → Int32} {μ : Mem} (h : Vr i V sv μ) (hi : i < 6) (hn : n < 64) (hw : w < 9) : md_nodePart μ (nI i) (nI n) (nI w) = some (sv n w) := by
  obtain ⟨h1, h2⟩ := h.ver hi
  unfold md_nodePart md_part
  rw [h1]
  simp only [Option.bind_some]
  rw [show (64 : Int32) = nI 64 from rfl, show (9 : Int32) = nI 9 from rfl, pk_mul, nI_add, pk_mul, nI_add, rd_nI (by omega) (by decide)]
  simp only [Option.bind_some]
  rw [h.2.1 n hn w hw]
theorem Vr.fr {i V : Nat} {sv : Nat → Nat → Int32} {μ μ' : Mem} (h : Vr i V sv μ) (h1 : μ' 1 = μ 1) (h1b : μ' 3 = μ 3) (h2 : Gm μ' i 2 = Gm μ i 2) (h3 : Gm μ' i 3 = Gm μ i 3) : Vr i V sv μ' := by
  obtain ⟨⟨wf, ve, q1, q2, q3, q4, q5⟩, q6⟩ := h
  exact ⟨⟨wf, ve, q1, q2, q3, by rw [h2]; exact q4, by rw [h3]; exact q5⟩, by rw [h1]; exact q6.1, by rw [h1b]; exact q6.2⟩
theorem Vr.np0 {i V n : Nat} {sv : Nat → Nat → Int32} {μ : Mem} (h : Vr i V sv μ) (hi : i < 6) (hn : n < 64) : md_nodePart μ (nI i) (nI n) 0 = some (sv n 0) := h.np (w := 0) hi hn (by decide)
theorem Vr.np1 {i V n : Nat} {sv : Nat → Nat → Int32} {μ : Mem} (h : Vr i V sv μ) (hi : i < 6) (hn : n < 64) : md_nodePart μ (nI i) (nI n) 1 = some (sv n 1) := h.np (w := 1) hi hn (by decide)
theorem Vr.np2 {i V n : Nat} {sv : Nat → Nat → Int32} {μ : Mem} (h : Vr i V sv μ) (hi : i < 6) (hn : n < 64) : md_nodePart μ (nI i) (nI n) 2 = some (sv n 2) := h.np (w := 2) hi hn (by decide)
theorem Vr.np3 {i V n : Nat} {sv : Nat → Nat → Int32} {μ : Mem} (h : Vr i V sv μ) (hi : i < 6) (hn : n < 64) : md_nodePart μ (nI i) (nI n) 3 = some (sv n 3) := h.np (w := 3) hi hn (by decide)
theorem Vr.np4 {i V n : Nat} {sv : Nat → Nat → Int32} {μ : Mem} (h : Vr i V sv μ) (hi : i < 6) (hn : n < 64) : md_nodePart μ (nI i) (nI n) 4 = some (sv n 4) := h.np (w := 4) hi hn (by decide)
theorem Vr.np5 {i V n : Nat} {sv : Nat → Nat → Int32} {μ : Mem} (h : Vr i V sv μ) (hi : i < 6) (hn : n < 64) : md_nodePart μ (nI i) (nI n) 5 = some (sv n 5) := h.np (w := 5) hi hn (by decide)
theorem Vr.np6 {i V n : Nat} {sv : Nat → Nat → Int32} {μ : Mem} (h : Vr i V sv μ) (hi : i < 6) (hn : n < 64) : md_nodePart μ (nI i) (nI n) 6 = some (sv n 6) := h.np (w := 6) hi hn (by decide)
theorem Vr.np7 {i V n : Nat} {sv : Nat → Nat → Int32} {μ : Mem} (h : Vr i V sv μ) (hi : i < 6) (hn : n < 64) : md_nodePart μ (nI i) (nI n) 7 = some (sv n 7) := h.np (w := 7) hi hn (by decide)
theorem Vr.np8 {i V n : Nat} {sv : Nat → Nat → Int32} {μ : Mem} (h : Vr i V sv μ) (hi : i < 6) (hn : n < 64) : md_nodePart μ (nI i) (nI n) 8 = some (sv n 8) := h.np (w := 8) hi hn (by decide)
/-! sums over places -/
def sm : Nat → (Nat → Nat) → Nat
  | 0, _ => 0
  | n + 1, f => sm n f + f n
theorem sm_same {n : Nat} {f g : Nat → Nat} (h : ∀ k, k < n → g k = f k) : sm n g = sm n f := by
  induction n with
  | zero => rfl
  | succ n ih =>
    show sm n g + g n = sm n f + f n
    rw [ih (fun k hk => h k (by omega)), h n (by omega)]
theorem sm_upd {n j : Nat} {f g : Nat → Nat} (hj : j < n) (h : ∀ k, k < n → k ≠ j → g k = f k) : sm n g + f j = sm n f + g j := by
  induction n with
  | zero => omega
  | succ n ih =>
    show sm n g + g n + f j = sm n f + f n + g j
    by_cases q : j = n
    · subst q
      rw [sm_same (fun k hk => h k (by omega) (by omega))]
      omega
    · have := ih (by omega) (fun k hk hkj => h k (by omega) hkj)
      rw [h n (by omega) (fun q2 => q q2.symm)]
      omega
theorem sm_le {n : Nat} {f g : Nat → Nat} (h : ∀ k, k < n → f k ≤ g k) : sm n f ≤ sm n g := by
  induction n with
  | zero => exact Nat.le_refl _
  | succ n ih =>
    show sm n f + f n ≤ sm n g + g n
    have := ih (fun k hk => h k (by omega))
    have := h n (by omega)
    omega
theorem sm_const {n c : Nat} : sm n (fun _ => c) = n * c := by
  induction n with
  | zero => rw [Nat.zero_mul]; rfl
  | succ n ih =>
    show sm n (fun _ => c) + c = _
    rw [ih, Nat.succ_mul]
theorem sm_ge {n j : Nat} {f : Nat → Nat} (hj : j < n) : f j ≤ sm n f := by
  induction n with
  | zero => omega
  | succ n ih =>
    show f j ≤ sm n f + f n
    by_cases q : j = n
    · subst q; omega
    · have := ih (by omega); omega
/-- fewer than m places hold different numbers below m -/
theorem pigeon : ∀ (m n : Nat) (f : Nat → Nat), (∀ k, k < n → f k < m) → (∀ a b, a < n → b < n → f a = f b → a = b) → n ≤ m
  | 0, n, f, h1, _ => by
    cases n with
    | zero => exact Nat.le_refl _
    | succ n => exact absurd (h1 0 (by omega)) (by omega)
  | m + 1, n, f, h1, h2 => by
    by_cases q : ∃ k, k < n ∧ f k = m
    · obtain ⟨k, hk, hkm⟩ := q
      have := pigeon m (n - 1) (fun a => if a < k then f a else f (a + 1)) (fun a ha => by
        show (if a < k then f a else f (a + 1)) < m
        by_cases qa : a < k
        · rw [if_pos qa]
          have h3 := h1 a (by omega)
          have h4 : f a ≠ m := fun e => by have := h2 a k (by omega) hk (by omega); omega
          omega
        · rw [if_neg qa]
          have h3 := h1 (a + 1) (by omega)
          have h4 : f (a + 1) ≠ m := fun e => by have := h2 (a + 1) k (by omega) hk (by omega); omega
          omega) (fun a b ha hb e => by
        change (if a < k then f a else f (a + 1)) = (if b < k then f b else f (b + 1)) at e
        by_cases qa : a < k <;> by_cases qb : b < k
        · rw [if_pos qa, if_pos qb] at e; exact h2 a b (by omega) (by omega) e
        · rw [if_pos qa, if_neg qb] at e; have := h2 a (b + 1) (by omega) (by omega) e; omega
        · rw [if_neg qa, if_pos qb] at e; have := h2 (a + 1) b (by omega) (by omega) e; omega
        · rw [if_neg qa, if_neg qb] at e; have := h2 (a + 1) (b + 1) (by omega) (by omega) e; omega)
      omega
    · have := pigeon m n f (fun k hk => by
        have h3 := h1 k hk
        have h4 : f k ≠ m := fun e => q ⟨k, hk, e⟩
        omega) h2
      omega

