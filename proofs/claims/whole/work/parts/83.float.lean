/-! a float of two whole numbers -/
section PF1
theorem fl_c : ∀ k, k < 64 → ((nI k).toInt64 &&& 63) = lN k := by decide +kernel
theorem fl_sm : ∀ k, k < 64 → (BitVec.ofNat 64 k).smod 64 = BitVec.ofNat 64 k := by decide +kernel
theorem fl_shl (n : Nat) {k : Nat} (hk : k < 64) : lN n <<< ((nI k).toInt64 &&& 63) = lN (n * 2 ^ k) := by
  have tb : ∀ n : Nat, (lN n).toBitVec = BitVec.ofNat 64 n := fun _ => rfl
  rw [fl_c k hk]
  apply Int64.toBitVec_inj.mp
  rw [Int64.toBitVec_shiftLeft, tb, tb, tb, fl_sm k hk]
  apply BitVec.eq_of_toNat_eq
  rw [BitVec.shiftLeft_eq', BitVec.toNat_shiftLeft, BitVec.toNat_ofNat, BitVec.toNat_ofNat, BitVec.toNat_ofNat, Nat.mod_eq_of_lt (show k < 2 ^ 64 by omega), Nat.shiftLeft_eq, Nat.mul_mod, Nat.mod_mod, ← Nat.mul_mod]
/-- the least scale at which a reaches T -/
theorem fl_scale {a T : Nat} (ha : 0 < a) : ∃ m, T ≤ a * 2 ^ m ∧ ∀ j, j < m → a * 2 ^ j < T := by
  obtain ⟨m, h1, h2⟩ := pk_least (fun k => T ≤ a * 2 ^ k) ⟨T, by
    have h1 : T < 2 ^ T := Nat.lt_two_pow_self
    have h2 : 1 * 2 ^ T ≤ a * 2 ^ T := Nat.mul_le_mul_right _ ha
    omega⟩
  exact ⟨m, h1, fun j hj => Nat.not_le.mp (h2 j hj)⟩
/-- the class's way -/
theorem fl_end {a b m : Nat} {N : Nat} {y4 : Int32} (hb : 0 < b) (hb6 : b ≤ 6) (ha : a < 1048576) (hm : m ≤ 26) (hy : y4.toInt = -(m : Int)) : xs_floatBits_43 N (nI b) (lN (a * 2 ^ m)) y4 = some (nI ((149 - m) * 2 ^ 23 + (2 * (a * 2 ^ m) / b + 1) / 2)) := by
  have hp : a * 2 ^ m < 2 ^ 46 := by
    have h1 : 2 ^ m ≤ 2 ^ 26 := Nat.pow_le_pow_right (by decide) hm
    have h2 : a * 2 ^ m ≤ a * 2 ^ 26 := Nat.mul_le_mul_left _ h1
    omega
  have e1 : (nI b).toInt64 = lN b := nI_l (by omega)
  have n1 : ¬ (nI b).toInt64 = 0 := by
    rw [e1]
    intro q
    have := (pk_lEQ (a := b) (b := 0) (by omega) (by decide)).mp q
    omega
  have n2 : ¬ (2 : Int64) = 0 := by decide
  have q2 : 2 * (a * 2 ^ m) / b ≤ 2 * (a * 2 ^ m) := Nat.div_le_self _ _
  have e2 : ((2 : Int64) * lN (a * 2 ^ m) / lN b + 1) / 2 = lN ((2 * (a * 2 ^ m) / b + 1) / 2) := by
    rw [show (2 : Int64) = lN 2 from rfl, show (1 : Int64) = lN 1 from rfl, lN_mul, pk_lDiv (by omega) hb (by omega), lN_add, pk_lDiv (by omega) (by decide) (by decide)]
  have e3 : y4 + 149 = nI (149 - m) := by
    apply Int32.toInt_inj.mp
    have h149 : (149 : Int32).toInt = 149 := by decide
    rw [Int32.toInt_add, hy, h149, nI_toInt (by omega), Int.bmod_eq_of_le (by omega) (by omega)]
    omega
  have e4 : nI (149 - m) <<< (23 &&& 31) = nI ((149 - m) * 2 ^ 23) := by
    rw [pk_shlN (23 &&& 31) 23 (by decide) (by omega)]
  unfold xs_floatBits_43
  rw [gd_pos n1, gd_pos n2, e1, e2, lN_i, e3, e4, nI_add]
theorem fl_loop {a b m N : Nat} (hb : 0 < b) (hb6 : b ≤ 6) (ha : a < 1048576) (hm : m ≤ 26) (hge : b * 2 ^ 23 ≤ a * 2 ^ m) (hlt : ∀ j, j < m → a * 2 ^ j < b * 2 ^ 23) : ∀ (s k n : Nat) (y4 : Int32), k + s = m → s < n → y4.toInt = -(k : Int) → xs_floatBits_16 N n (nI b) (lN (a * 2 ^ k)) y4 = some (nI ((149 - m) * 2 ^ 23 + (2 * (a * 2 ^ m) / b + 1) / 2)) := by
  intro s
  have hpw : ∀ k, k ≤ m → a * 2 ^ k < 2 ^ 46 := fun k hk => by
    have h1 : 2 ^ k ≤ 2 ^ 26 := Nat.pow_le_pow_right (by decide) (by omega)
    have h2 : a * 2 ^ k ≤ a * 2 ^ 26 := Nat.mul_le_mul_left _ h1
    omega
  have e0 : (nI b).toInt64 <<< ((23 : Int32).toInt64 &&& 63) = lN (b * 2 ^ 23) := by
    rw [nI_l (by omega), show (23 : Int32) = nI 23 from rfl, fl_shl b (by decide)]
  have hc : ∀ y4 : Int32, ∀ k : Nat, k ≤ m → y4.toInt = -(k : Int) → (-64 : Int32) < y4 := fun y4 k hk hy => by
    rw [Int32.lt_iff_toInt_lt, hy]
    have : (-64 : Int32).toInt = -64 := by decide
    omega
  induction s with
  | zero =>
    intro k n y4 hk hn hy
    obtain ⟨n, rfl⟩ : ∃ x, n = x + 1 := ⟨n - 1, by omega⟩
    have hkm : k = m := by omega
    subst hkm
    unfold xs_floatBits_16
    rw [if_pos (hc y4 k (Nat.le_refl _) hy), e0, if_neg, fl_end hb hb6 ha hm hy]
    rw [lg_cmp_lt, pk_lLT (by have := hpw k (Nat.le_refl _); omega) (by omega)]
    omega
  | succ s ih =>
    intro k n y4 hk hn hy
    obtain ⟨n, rfl⟩ : ∃ x, n = x + 1 := ⟨n - 1, by omega⟩
    have e1 : lN (a * 2 ^ k) <<< ((1 : Int32).toInt64 &&& 63) = lN (a * 2 ^ (k + 1)) := by
      rw [show (1 : Int32) = nI 1 from rfl, fl_shl _ (by decide), Nat.pow_one, Nat.pow_succ, Nat.mul_assoc]
    conv => lhs; unfold xs_floatBits_16
    rw [if_pos (hc y4 k (by omega) hy), e0, if_pos, e1]
    · refine ih (k + 1) n (y4 + -1) (by omega) (by omega) ?_
      have h1 : (-1 : Int32).toInt = -1 := by decide
      rw [Int32.toInt_add, hy, h1, Int.bmod_eq_of_le (by omega) (by omega)]
      omega
    · rw [lg_cmp_lt, pk_lLT (by have := hpw k (by omega); omega) (by omega)]
      exact hlt k (by omega)
/-- the machine's way -/
theorem fl_lead {A B x y : Nat} (hA : 0 < A) (hB : 0 < B) (h1 : B * 2 ^ x ≤ A * 2 ^ y) (h2 : A * 2 ^ y < B * 2 ^ (x + 1)) : FP.Core.leading A B = (x : Int) - (y : Int) := by
  have a1 : 2 ^ A.log2 ≤ A := Nat.log2_self_le (by omega)
  have a2 : A < 2 ^ (A.log2 + 1) := Nat.lt_log2_self
  have b1 : 2 ^ B.log2 ≤ B := Nat.log2_self_le (by omega)
  have b2 : B < 2 ^ (B.log2 + 1) := Nat.lt_log2_self
  have lt2 : ∀ p q : Nat, 2 ^ p < 2 ^ q → p < q := fun p q h => (Nat.pow_lt_pow_iff_right (by decide)).mp h
  have f1 : A.log2 + y < B.log2 + 1 + (x + 1) := by
    apply lt2
    rw [Nat.pow_add, Nat.pow_add 2 (B.log2 + 1)]
    have c1 : 2 ^ A.log2 * 2 ^ y ≤ A * 2 ^ y := Nat.mul_le_mul_right _ a1
    have c2 : B * 2 ^ (x + 1) < 2 ^ (B.log2 + 1) * 2 ^ (x + 1) := (Nat.mul_lt_mul_right (Nat.two_pow_pos _)).mpr b2
    omega
  have f2 : B.log2 + x < A.log2 + 1 + y := by
    apply lt2
    rw [Nat.pow_add, Nat.pow_add 2 (A.log2 + 1)]
    have c1 : 2 ^ B.log2 * 2 ^ x ≤ B * 2 ^ x := Nat.mul_le_mul_right _ b1
    have c2 : A * 2 ^ y < 2 ^ (A.log2 + 1) * 2 ^ y := (Nat.mul_lt_mul_right (Nat.two_pow_pos _)).mpr a2
    omega
  -- when the quotient is at least a power of two
  have key : ∀ k : Int, (B * 2 ^ k.toNat ≤ A * 2 ^ (-k).toNat ↔ B * 2 ^ (k.toNat + y) ≤ A * 2 ^ ((-k).toNat + y)) := fun k => by
    rw [Nat.pow_add, Nat.pow_add, ← Nat.mul_assoc, ← Nat.mul_assoc]
    exact (Nat.mul_le_mul_right_iff (Nat.two_pow_pos y)).symm
  have mono : ∀ z k l : Nat, z ≤ k → B * 2 ^ (k + l) ≤ A * 2 ^ (y + l) → B * 2 ^ z ≤ A * 2 ^ y := fun z k l hz h => by
    rw [Nat.pow_add, Nat.pow_add, ← Nat.mul_assoc, ← Nat.mul_assoc] at h
    have h3 := Nat.le_of_mul_le_mul_right h (Nat.two_pow_pos l)
    have h4 : B * 2 ^ z ≤ B * 2 ^ k := Nat.mul_le_mul_left _ (Nat.pow_le_pow_right (by decide) hz)
    omega
  unfold FP.Core.leading
  dsimp only
  have hk : ((A.log2 : Int) - (B.log2 : Int)) = (x : Int) - y ∨ ((A.log2 : Int) - (B.log2 : Int)) = (x : Int) - y + 1 := by omega
  rcases hk with q | q
  · rw [q, if_pos]
    rw [key]
    have e1 : B * 2 ^ (((x : Int) - y).toNat + y) = B * 2 ^ x * 2 ^ (-((x : Int) - y)).toNat := by
      rw [Nat.mul_assoc, ← Nat.pow_add]
      congr 2; omega
    have e2 : A * 2 ^ ((-((x : Int) - y)).toNat + y) = A * 2 ^ y * 2 ^ (-((x : Int) - y)).toNat := by
      rw [Nat.mul_assoc, ← Nat.pow_add]
      congr 2; omega
    rw [e1, e2]
    exact Nat.mul_le_mul_right _ h1
  · rw [q, if_neg, Int.add_sub_cancel]
    rw [key]
    have e1 : B * 2 ^ (((x : Int) - y + 1).toNat + y) = B * 2 ^ (x + 1) * 2 ^ (-((x : Int) - y + 1)).toNat := by
      rw [Nat.mul_assoc, ← Nat.pow_add]
      congr 2; omega
    have e2 : A * 2 ^ ((-((x : Int) - y + 1)).toNat + y) = A * 2 ^ y * 2 ^ (-((x : Int) - y + 1)).toNat := by
      rw [Nat.mul_assoc, ← Nat.pow_add]
      congr 2; omega
    rw [e1, e2, Nat.not_le]
    exact (Nat.mul_lt_mul_right (Nat.two_pow_pos _)).mpr h2
theorem fl_b32 : FP.Core.b32.qmin = -149 ∧ FP.Core.b32.qmax = 104 ∧ FP.Core.b32.p = 24 ∧ FP.Core.b32.tails = 2 ^ 23 ∧ FP.Core.b32.exps = 2 ^ 8 := by decide
theorem fl_scaleN {A B k : Nat} (hk : 0 < k) : FP.Core.nearest (A * k) (B * k) = FP.Core.nearest A B := by
  unfold FP.Core.nearest
  rw [Nat.mul_mod_mul_right, Nat.mul_div_mul_right _ _ hk]
  have c1 : 2 * (A % B * k) < B * k ↔ 2 * (A % B) < B := by
    rw [← Nat.mul_assoc]
    exact Nat.mul_lt_mul_right hk
  have c2 : B * k < 2 * (A % B * k) ↔ B < 2 * (A % B) := by
    rw [← Nat.mul_assoc]
    exact Nat.mul_lt_mul_right hk
  by_cases q1 : 2 * (A % B) < B
  · rw [if_pos q1, if_pos (c1.mpr q1)]
  · rw [if_neg q1, if_neg (fun z => q1 (c1.mp z))]
    by_cases q2 : B < 2 * (A % B)
    · rw [if_pos q2, if_pos (c2.mpr q2)]
    · rw [if_neg q2, if_neg (fun z => q2 (c2.mp z))]
theorem fl_near {a b m : Nat} (hb : 0 < b) (hb6 : b ≤ 6) (hm : 4 ≤ m) (hge : b * 2 ^ 23 ≤ a * 2 ^ m) (hlt : a * 2 ^ m < b * 2 ^ 24) : FP.Core.nearest (a * 2 ^ m) b = (2 * (a * 2 ^ m) / b + 1) / 2 ∧ 2 ^ 23 ≤ (2 * (a * 2 ^ m) / b + 1) / 2 ∧ (2 * (a * 2 ^ m) / b + 1) / 2 ≤ 2 ^ 24 := by
  obtain ⟨x, hx⟩ : ∃ x, a * 2 ^ m = 16 * x := ⟨a * 2 ^ (m - 4), by
    obtain ⟨v, rfl⟩ : ∃ v, m = v + 4 := ⟨m - 4, by omega⟩
    rw [Nat.pow_add, show v + 4 - 4 = v by omega, ← Nat.mul_assoc, Nat.mul_comm]⟩
  rw [hx] at hge hlt ⊢
  refine ⟨?_, ?_, ?_⟩
  · unfold FP.Core.nearest
    have hb' : b = 1 ∨ b = 2 ∨ b = 3 ∨ b = 4 ∨ b = 5 ∨ b = 6 := by omega
    rcases hb' with q | q | q | q | q | q <;> subst q <;> split <;> (try split) <;> omega
  · have hb' : b = 1 ∨ b = 2 ∨ b = 3 ∨ b = 4 ∨ b = 5 ∨ b = 6 := by omega
    rcases hb' with q | q | q | q | q | q <;> subst q <;> omega
  · have hb' : b = 1 ∨ b = 2 ∨ b = 3 ∨ b = 4 ∨ b = 5 ∨ b = 6 := by omega
    rcases hb' with q | q | q | q | q | q <;> subst q <;> omega
/-- what a rounded number is written as -/
theorem fl_enc {M m : Nat} (h1 : 2 ^ 23 ≤ M) (h2 : M ≤ 2 ^ 24) (hm : m ≤ 64) : FP.Core.encode FP.Core.b32 (FP.Core.settle FP.Core.b32 false M (-(m : Int))) = (149 - m) * 2 ^ 23 + M := by
  obtain ⟨hqm, hqM, hpp, htt, hee⟩ := fl_b32
  unfold FP.Core.settle FP.Core.bound
  rw [hpp, htt, hqM]
  by_cases q : M < 2 ^ 24
  · rw [if_pos q, if_pos (by omega)]
    unfold FP.Core.encode
    dsimp only
    rw [htt, hqm, if_neg (by omega)]
    unfold FP.Core.assemble
    rw [htt, hee, show (-(m : Int) - -149).toNat = 149 - m by omega]
    show (0 * 2 ^ 8 + _) * _ + _ = _
    omega
  · rw [if_neg q, if_pos (by omega)]
    unfold FP.Core.encode
    dsimp only
    rw [htt, hqm, if_neg (by omega)]
    unfold FP.Core.assemble
    rw [htt, hee, show (-(m : Int) + 1 - -149).toNat = 150 - m by omega]
    show (0 * 2 ^ 8 + _) * _ + _ = _
    omega
theorem fl_dec {c u : Nat} (h1 : 2 ^ 23 ≤ c) (h2 : c < 2 ^ 24) (hu : u ≤ 64) : FP.Core.decode FP.Core.b32 ((149 - u) * 2 ^ 23 + c) = .fin false c (-(u : Int)) := by
  obtain ⟨hqm, hqM, hpp, htt, hee⟩ := fl_b32
  unfold FP.Core.decode
  have e1 : FP.Core.fieldE FP.Core.b32 ((149 - u) * 2 ^ 23 + c) = 150 - u := by
    unfold FP.Core.fieldE
    rw [htt, hee]
    omega
  have e2 : FP.Core.fieldT FP.Core.b32 ((149 - u) * 2 ^ 23 + c) = c - 2 ^ 23 := by
    unfold FP.Core.fieldT
    rw [htt]
    omega
  have e3 : FP.Core.fieldS FP.Core.b32 ((149 - u) * 2 ^ 23 + c) = false := by
    unfold FP.Core.fieldS
    rw [htt, hee, show ((149 - u) * 2 ^ 23 + c) / 2 ^ 23 / 2 ^ 8 % 2 = 0 by omega]
    rfl
  have e4 : 2 ^ 23 + (c - 2 ^ 23) = c := by omega
  have e5 : (-149 : Int) + (((150 - u : Nat) : Int) - 1) = -(u : Int) := by omega
  rw [e1, e2, e3, hee, htt, hqm, if_neg (by omega), if_neg (by omega), e4, e5]
theorem fl_round {A B x m : Nat} {e : Int} (hA : 0 < A) (hB : 0 < B) (hl : FP.Core.leading A B + e = 23 - (m : Int)) (hm : m ≤ 64) : FP.Core.roundRatio FP.Core.b32 false A B e = FP.Core.settle FP.Core.b32 false (FP.Core.nearest (A * 2 ^ (e + m).toNat) (B * 2 ^ (-(m : Int) - e).toNat)) (-(m : Int)) := by
  obtain ⟨hqm, hqM, hpp, htt, hee⟩ := fl_b32
  have hq : FP.Core.quantum FP.Core.b32 A B e = -(m : Int) := by
    unfold FP.Core.quantum
    rw [hqm, hpp, hl]
    omega
  unfold FP.Core.roundRatio
  rw [if_neg (by omega), hq]
  unfold FP.Core.roundAt FP.Core.unitsNum FP.Core.unitsDen
  rw [show e - -(m : Int) = e + m by omega]
theorem fl_val {a : Nat} (h0 : 0 < a) (ha : a < 1048576) : ∃ u : Nat, u ≤ 23 ∧ 2 ^ 23 ≤ a * 2 ^ u ∧ a * 2 ^ u < 2 ^ 24 ∧ FP.Core.decode FP.Core.b32 (FP.Core.i2f (nI a)).toNat = .fin false (a * 2 ^ u) (-(u : Int)) := by
  obtain ⟨u, h1, h2⟩ := fl_scale (T := 2 ^ 23) h0
  have hu : u ≤ 23 := Nat.not_lt.mp (fun q => by
    have := h2 23 q
    have h3 : 1 * 2 ^ 23 ≤ a * 2 ^ 23 := Nat.mul_le_mul_right _ h0
    omega)
  have h3 : a * 2 ^ u < 2 ^ 24 := by
    by_cases q : u = 0
    · subst q; omega
    · have h4 := h2 (u - 1) (by omega)
      have h5 : a * 2 ^ u = 2 * (a * 2 ^ (u - 1)) := by
        obtain ⟨v, rfl⟩ : ∃ v, u = v + 1 := ⟨u - 1, by omega⟩
        rw [Nat.pow_succ, show v + 1 - 1 = v from rfl, ← Nat.mul_assoc, Nat.mul_comm]
      omega
  refine ⟨u, hu, h1, h3, ?_⟩
  have e1 : FP.Core.ofInt (nI a).toInt = .fin false a 0 := by
    rw [nI_toInt (by omega)]
    unfold FP.Core.ofInt
    rw [decide_eq_false (by omega)]
    rfl
  have hl := fl_lead (A := a) (B := 1) (x := 23) (y := u) h0 (by decide) (by omega) (by omega)
  have e2 : FP.Core.roundRatio FP.Core.b32 false a 1 0 = FP.Core.settle FP.Core.b32 false (a * 2 ^ u) (-(u : Int)) := by
    rw [fl_round (x := 0) (m := u) h0 (by decide) (by rw [hl]; omega) (by omega), show ((0 : Int) + u).toNat = u by omega, show (-(u : Int) - 0).toNat = 0 by omega]
    congr 1
    unfold FP.Core.nearest
    rw [Nat.pow_zero, Nat.mod_one, Nat.mul_one, if_pos (by decide), Nat.div_one]
  have e3 : FP.Core.fromInt FP.Core.b32 (nI a).toInt = (149 - u) * 2 ^ 23 + a * 2 ^ u := by
    unfold FP.Core.fromInt
    rw [e1]
    show FP.Core.encode FP.Core.b32 (FP.Core.roundRatio FP.Core.b32 false a 1 0) = _
    rw [e2, fl_enc h1 (by omega) (by omega)]
  unfold FP.Core.i2f
  rw [e3, UInt32.toNat_ofNat_of_lt' (by show (149 - u) * 2 ^ 23 + a * 2 ^ u < 2 ^ 32; omega), fl_dec h1 h3 (by omega)]
theorem fl_div {a b m : Nat} (h0 : 0 < a) (ha : a < 1048576) (hb : 0 < b) (hb6 : b ≤ 6) (hm4 : 4 ≤ m) (hm : m ≤ 26) (hge : b * 2 ^ 23 ≤ a * 2 ^ m) (hlt : a * 2 ^ m < b * 2 ^ 24) : FP.Core.fdiv (FP.Core.i2f (nI a)) (FP.Core.i2f (nI b)) = UInt32.ofNat ((149 - m) * 2 ^ 23 + (2 * (a * 2 ^ m) / b + 1) / 2) := by
  obtain ⟨u, u0, u1, u2, u3⟩ := fl_val h0 ha
  obtain ⟨v, v0, v1, v2, v3⟩ := fl_val hb (show b < 1048576 by omega)
  obtain ⟨hM, hM1, hM2⟩ := fl_near hb hb6 hm4 hge hlt
  have hbv : ¬ b * 2 ^ v = 0 := by omega
  have huv : u ≤ m + v := Nat.not_lt.mp (fun q => by
    have c1 : a * 2 ^ (m + v) ≤ a * 2 ^ u := Nat.mul_le_mul_left _ (Nat.pow_le_pow_right (by decide) (by omega))
    have c2 : a * 2 ^ (m + v) = a * 2 ^ m * 2 ^ v := by rw [Nat.pow_add, Nat.mul_assoc]
    have c3 : b * 2 ^ 23 * 2 ^ v ≤ a * 2 ^ m * 2 ^ v := Nat.mul_le_mul_right _ hge
    have c4 : b * 2 ^ 23 * 2 ^ v = b * 2 ^ v * 2 ^ 23 := by ac_rfl
    omega)
  have hl : FP.Core.leading (a * 2 ^ u) (b * 2 ^ v) = ((23 + u : Nat) : Int) - ((m + v : Nat) : Int) := by
    refine fl_lead (by omega) (by omega) ?_ ?_
    · have c1 : b * 2 ^ v * 2 ^ (23 + u) = b * 2 ^ 23 * (2 ^ u * 2 ^ v) := by rw [Nat.pow_add]; ac_rfl
      have c2 : a * 2 ^ u * 2 ^ (m + v) = a * 2 ^ m * (2 ^ u * 2 ^ v) := by rw [Nat.pow_add]; ac_rfl
      rw [c1, c2]
      exact Nat.mul_le_mul_right _ hge
    · have c1 : b * 2 ^ v * 2 ^ (23 + u + 1) = b * 2 ^ 24 * (2 ^ u * 2 ^ v) := by rw [show 23 + u + 1 = 24 + u by omega, Nat.pow_add]; ac_rfl
      have c2 : a * 2 ^ u * 2 ^ (m + v) = a * 2 ^ m * (2 ^ u * 2 ^ v) := by rw [Nat.pow_add]; ac_rfl
      rw [c1, c2]
      exact (Nat.mul_lt_mul_right (Nat.mul_pos (Nat.two_pow_pos u) (Nat.two_pow_pos v))).mpr hlt
  have e1 : FP.Core.quotient FP.Core.b32 (.fin false (a * 2 ^ u) (-(u : Int))) (.fin false (b * 2 ^ v) (-(v : Int))) = FP.Core.settle FP.Core.b32 false ((2 * (a * 2 ^ m) / b + 1) / 2) (-(m : Int)) := by
    unfold FP.Core.quotient
    dsimp only
    rw [if_neg hbv]
    show FP.Core.roundRatio FP.Core.b32 false _ _ _ = _
    rw [fl_round (x := 0) (m := m) (by omega) (by omega) (by rw [hl]; omega) (by omega), show (-(u : Int) - -(v : Int) + m).toNat = m + v - u by omega, show (-(m : Int) - (-(u : Int) - -(v : Int))).toNat = 0 by omega, Nat.pow_zero, Nat.mul_one, show a * 2 ^ u * 2 ^ (m + v - u) = a * 2 ^ m * 2 ^ v by rw [Nat.mul_assoc, ← Nat.pow_add, show u + (m + v - u) = m + v by omega, Nat.pow_add, Nat.mul_assoc], fl_scaleN (Nat.two_pow_pos v), hM]
  unfold FP.Core.fdiv FP.Core.div
  rw [u3, v3, e1, fl_enc hM1 hM2 (by omega)]
theorem fl_bits {X : Nat} (hX : X ≤ 0x7f000000) : f2bits (UInt32.ofNat X) = some (nI X) ∧ (UInt32.ofNat X &&& 0x7fffffff ≤ 0x7f800000) := by
  have hn : (UInt32.ofNat X).toNat = X := UInt32.toNat_ofNat_of_lt' (by show X < 2 ^ 32; omega)
  constructor
  · unfold f2bits
    have hd : ∃ s c q, FP.Core.decode FP.Core.b32 X = .fin s c q := by
      unfold FP.Core.decode
      have hE : ¬ FP.Core.fieldE FP.Core.b32 X = FP.Core.b32.exps - 1 := by
        unfold FP.Core.fieldE
        show ¬ X / 2 ^ 23 % 2 ^ 8 = 2 ^ 8 - 1
        omega
      rw [if_neg hE]
      by_cases q : FP.Core.fieldE FP.Core.b32 X = 0
      · rw [if_pos q]; exact ⟨_, _, _, rfl⟩
      · rw [if_neg q]; exact ⟨_, _, _, rfl⟩
    obtain ⟨s, c, q, hd⟩ := hd
    have hcmp : FP.fcmp (UInt32.ofNat X) (UInt32.ofNat X) = some .eq := by
      show FP.Core.order (FP.Core.decode FP.Core.b32 (UInt32.ofNat X).toNat) (FP.Core.decode FP.Core.b32 (UInt32.ofNat X).toNat) = _
      rw [hn, hd]
      show some (compare (FP.Core.signed s (FP.Core.inUnits c q (min q q))) (FP.Core.signed s (FP.Core.inUnits c q (min q q)))) = some .eq
      congr 1
      show compareOfLessAndEq _ _ = _
      unfold compareOfLessAndEq
      rw [if_neg (Int.lt_irrefl _), if_pos rfl]
    rw [hcmp, if_pos (by rfl)]
    rfl
  · rw [UInt32.le_iff_toNat_le, UInt32.toNat_and, hn]
    have h1 : X &&& (0x7fffffff : UInt32).toNat ≤ X := Nat.and_le_left
    have h2 : (0x7f800000 : UInt32).toNat = 0x7f800000 := by decide
    omega
theorem float_sim {a b N : Nat} {μ : Mem} (hN : 100 ≤ N) (ha : a < 1048576) (hb : 0 < b) (hb6 : b ≤ 6) : ∃ v, xs_floatBits N (nI a) (nI b) = some v ∧ md_statistic_187 N μ (nI b) (nI a) = some v := by
  by_cases h0 : a = 0
  · subst h0
    refine ⟨0, ?_, ?_⟩
    · unfold xs_floatBits
      rw [if_neg (show ¬ (0 : Int32) < nI 0 by decide)]
    · unfold md_statistic_187
      have hb' : b = 1 ∨ b = 2 ∨ b = 3 ∨ b = 4 ∨ b = 5 ∨ b = 6 := by omega
      rcases hb' with q | q | q | q | q | q <;> subst q <;> decide +kernel
  · have ha0 : 0 < a := by omega
    obtain ⟨m, m1, m2⟩ := fl_scale (T := b * 2 ^ 23) ha0
    have hm26 : m ≤ 26 := Nat.not_lt.mp (fun q => by
      have := m2 26 q
      have h3 : 1 * 2 ^ 26 ≤ a * 2 ^ 26 := Nat.mul_le_mul_right _ ha0
      omega)
    have hm4 : 4 ≤ m := Nat.not_lt.mp (fun q => by
      have h1 : 2 ^ m ≤ 2 ^ 3 := Nat.pow_le_pow_right (by decide) (by omega)
      have h2 : a * 2 ^ m ≤ a * 2 ^ 3 := Nat.mul_le_mul_left _ h1
      omega)
    have hlt : a * 2 ^ m < b * 2 ^ 24 := by
      have h4 := m2 (m - 1) (by omega)
      have h5 : a * 2 ^ m = 2 * (a * 2 ^ (m - 1)) := by
        obtain ⟨v, rfl⟩ : ∃ v, m = v + 1 := ⟨m - 1, by omega⟩
        rw [Nat.pow_succ, show v + 1 - 1 = v from rfl, ← Nat.mul_assoc, Nat.mul_comm]
      omega
    have hdiv := fl_div ha0 ha hb hb6 hm4 hm26 m1 hlt
    have hM2 : (2 * (a * 2 ^ m) / b + 1) / 2 ≤ 2 ^ 24 := (fl_near hb hb6 hm4 m1 hlt).2.2
    have hX : (149 - m) * 2 ^ 23 + (2 * (a * 2 ^ m) / b + 1) / 2 ≤ 149 * 2 ^ 23 + 2 ^ 24 := Nat.add_le_add (Nat.mul_le_mul_right _ (Nat.sub_le _ _)) hM2
    obtain ⟨b1, b2⟩ := fl_bits (Nat.le_trans hX (by decide))
    refine ⟨nI ((149 - m) * 2 ^ 23 + (2 * (a * 2 ^ m) / b + 1) / 2), ?_, ?_⟩
    · unfold xs_floatBits
      have hl := fl_loop (N := N) hb hb6 ha hm26 m1 m2 m 0 N 0 (by omega) (by omega) (by decide)
      rw [Nat.pow_zero, Nat.mul_one] at hl
      rw [if_pos (show (0 : Int32) < nI a from nI_lt (a := 0) ha0 (by omega)), if_pos (show (0 : Int32) < nI b from nI_lt (a := 0) hb (by omega)), nI_l (by omega)]
      exact hl
    · unfold md_statistic_187
      have hdiv' : FP.fdiv (FP.i2f (nI a)) (FP.i2f (nI b)) = UInt32.ofNat ((149 - m) * 2 ^ 23 + (2 * (a * 2 ^ m) / b + 1) / 2) := hdiv
      rw [hdiv', gd_pos b2, b1]
      rfl
end PF1
