/-! worlds are copied -/
section PE1
variable {N D T rl rl2 : Nat} {x w e μ w2 e2 : Mem} {I H I2 H2 : Fam} {pl pl2 : Nat → Nat} {vs : Fam} {st : Prop}
theorem IW.ent {j pv : Nat} {o h : Mem} (hW : IW st rl j pv vs o h e μ w) : ∃ E : Nat, E < 4000 ∧ h 4 2 = nI E := by
  rcases hW.2 with ⟨_, _, E, z1, z2⟩ | ⟨_, _, _, nd, sv, its, _, hL, _⟩
  · exact ⟨E, z1, z2⟩
  · obtain ⟨E, E1, E2⟩ := hL.1.2.2.2.1
    exact ⟨E, by unfold Pot at E2; omega, E1.2.1⟩
theorem cpR_lt {n k : Nat} {f g : Nat → Int32} (h : k < n) : cpR n f g k = f k := if_pos h
theorem in_copy_ev {h2 o2 o h : Mem} {E : Nat} (hr : rl = 0 ∨ rl = 200) (hr2 : rl2 = 200) (hE : E < 4000) (h2E : h2 4 2 = nI E) : ∃ o' h', in_copy rl rl2 h2 o2 o h = some (o', h') ∧ SmO o2 o' ∧ SmH rl2 rl h2 h' := by
  obtain ⟨K, hK⟩ : ∃ K, K = min rl (min rl2 E) := ⟨_, rfl⟩
  have e1 : hi_kept rl2 h2 = some (nI (min rl2 E)) := by
    unfold hi_kept
    rw [h2E]
    by_cases q : rl2 < E
    · rw [if_pos (show Int32.ofNat rl2 < nI E from nI_lt q (by omega)), Nat.min_eq_left (by omega)]; rfl
    · rw [if_neg (show ¬ Int32.ofNat rl2 < nI E from nI_nlt (by omega) (by omega)), Nat.min_eq_right (by omega)]
  have e2 : (if Int32.ofNat rl < nI (min rl2 E) then Int32.ofNat rl else nI (min rl2 E)) = nI K := by
    rw [hK]
    by_cases q : rl < min rl2 E
    · rw [if_pos (show Int32.ofNat rl < nI (min rl2 E) from nI_lt q (by omega))]; exact congrArg nI (by omega)
    · rw [if_neg (show ¬ Int32.ofNat rl < nI (min rl2 E) from nI_nlt (by omega) (by omega))]; exact congrArg nI (by omega)
  have hKb : K ≤ rl ∧ K ≤ rl2 ∧ K ≤ E := by omega
  have e3 : hi_copy rl rl2 h2 h = some (upA (up h 4 2 (h2 4 2)) 5 (cpR K (h2 5) (h 5))) := by
    unfold hi_copy
    rw [e1, Option.bind_some, e2, nI_clamp (by omega), gd_pos ⟨nI_pos (by omega), by omega, by omega⟩]
  unfold in_copy
  rw [e3, Option.bind_some]
  refine ⟨_, _, rfl, ⟨fun q q1 q2 => ?_, fun v hv => ?_, fun c hc => ?_, fun k hk => ⟨?_, ?_, ?_, ?_⟩, fun k hk => ⟨?_, ?_, ?_⟩⟩, ⟨?_, ?_⟩⟩
  · rw [upA_row (by omega), upA_row (by omega), upA_row (by omega), upA_row (by omega), upA_row (by omega), upA_row (by omega), upA_row (by omega), upA_row (by omega), upA_row (by omega)]
    have hq : q = 3 ∨ q = 4 ∨ q = 5 ∨ q = 6 ∨ q = 7 ∨ q = 8 := by omega
    rcases hq with z | z | z | z | z | z <;> subst z
    · rw [up_in (by omega), up_in (by omega), up_in (by omega), up_in (by omega), up_in (by omega), up_at]
    · rw [up_in (by omega), up_in (by omega), up_in (by omega), up_in (by omega), up_at]
    · rw [up_in (by omega), up_in (by omega), up_in (by omega), up_at]
    · rw [up_in (by omega), up_in (by omega), up_at]
    · rw [up_in (by omega), up_at]
    · rw [up_at]
  · rw [upA_row (by omega), upA_row (by omega), upA_row (by omega), upA_row (by omega), upA_row (by omega), upA_row (by omega), upA_row (by omega), upA_row (by omega), upA_at, cpR_lt hv]
  · rw [upA_row (by omega), upA_row (by omega), upA_row (by omega), upA_row (by omega), upA_row (by omega), upA_row (by omega), upA_row (by omega), upA_at, cpR_lt hc]
  · rw [upA_row (by omega), upA_row (by omega), upA_row (by omega), upA_row (by omega), upA_row (by omega), upA_row (by omega), upA_at, cpR_lt hk]
  · rw [upA_row (by omega), upA_row (by omega), upA_row (by omega), upA_row (by omega), upA_row (by omega), upA_at, cpR_lt hk]
  · rw [upA_row (by omega), upA_row (by omega), upA_row (by omega), upA_row (by omega), upA_at, cpR_lt hk]
  · rw [upA_row (by omega), upA_row (by omega), upA_row (by omega), upA_at, cpR_lt hk]
  · rw [upA_row (by omega), upA_row (by omega), upA_at, cpR_lt hk]
  · rw [upA_row (by omega), upA_at, cpR_lt hk]
  · rw [upA_at, cpR_lt hk]
  · rw [upA_row (by omega), up_at]
  · rcases hr with z | z
    · exact Or.inl z
    · refine Or.inr ⟨by omega, fun k k1 k2 => ?_⟩
      rw [upA_at, cpR_lt]
      rw [h2E] at k2
      have := (nI_ltI (by omega) (by omega)).mp k2
      omega
theorem copy_loop6 (hr : rl = 0 ∨ rl = 200) (hr2 : rl2 = 200) (hE : ∀ j, j < 6 → ∃ E : Nat, E < 4000 ∧ H2 j 4 2 = nI E) : ∀ (s k n : Nat) (I H : Fam) (pl : Nat → Nat), k + s = 6 → s < n → ∃ I' H' pl', wo_copy_40 rl rl2 I2 H2 pl2 n (nI k) I H pl = some (I', H', pl') ∧ (∀ j, k ≤ j → j < 6 → SmO (I2 j) (I' j) ∧ SmH rl2 rl (H2 j) (H' j) ∧ pl' j = pl2 j) ∧ ∀ j, j < k → I' j = I j ∧ H' j = H j ∧ pl' j = pl j
  | 0, k, n, I, H, pl, hk, hn => by
    obtain ⟨n, rfl⟩ : ∃ x, n = x + 1 := ⟨n - 1, by omega⟩
    refine ⟨I, H, pl, ?_, fun j j1 j2 => by omega, fun _ _ => ⟨rfl, rfl, rfl⟩⟩
    unfold wo_copy_40
    rw [show k = 6 by omega]
    rfl
  | s + 1, k, n, I, H, pl, hk, hn => by
    obtain ⟨n, rfl⟩ : ∃ x, n = x + 1 := ⟨n - 1, by omega⟩
    obtain ⟨E, E1, E2⟩ := hE k (by omega)
    obtain ⟨o', h', c1, c2, c3⟩ := in_copy_ev (o2 := I2 k) (o := I k) (h := H k) hr hr2 E1 E2
    obtain ⟨I', H', pl', d1, d2, d3⟩ := copy_loop6 hr hr2 hE s (k + 1) n (upF I k o') (upF H k h') (upN pl k (pl2 k)) (by omega) (by omega)
    refine ⟨I', H', pl', ?_, fun j j1 j2 => ?_, fun j hj => ?_⟩
    · conv => lhs; unfold wo_copy_40
      rw [if_pos (show nI k < 6 from nI_lt (b := 6) (by omega) (by decide)), rx_nI (by omega) (by decide), Option.bind_some, Option.bind_some, c1, Option.bind_some, nI_1]
      exact d1
    · by_cases q : j = k
      · subst q
        obtain ⟨z1, z2, z3⟩ := d3 j (by omega)
        rw [z1, z2, z3, upF_at, upF_at, upN_at]
        exact ⟨c2, c3, rfl⟩
      · exact d2 j (by omega) j2
    · obtain ⟨z1, z2, z3⟩ := d3 j (by omega)
      rw [z1, z2, z3, upF_ne (by omega), upF_ne (by omega), upN_ne (by omega)]
      exact ⟨rfl, rfl, rfl⟩
/-- a world is the copy of another one -/
def CpW (rl2 rl : Nat) (w2 e2 : Mem) (I2 H2 : Fam) (pl2 : Nat → Nat) (w e : Mem) (I H : Fam) (pl : Nat → Nat) : Prop :=
  e 1 2 = e2 1 2 ∧ (∀ c, c < 8 → e 2 c = e2 2 c ∧ e 3 c = e2 3 c) ∧ w 0 3 = w2 0 3 ∧ w 0 4 = w2 0 4 ∧ (∀ k, k < 4 → w 5 k = w2 5 k) ∧ ∀ j, j < 6 → SmO (I2 j) (I j) ∧ SmH rl2 rl (H2 j) (H j) ∧ pl j = pl2 j
theorem wcopy_ev (hN : 10 ≤ N) (hr : rl = 0 ∨ rl = 200) (hr2 : rl2 = 200) (hE : ∀ j, j < 6 → ∃ E : Nat, E < 4000 ∧ H2 j 4 2 = nI E) : ∃ w' e' I' H' pl', wo_copy N rl rl2 w2 e2 I2 H2 pl2 w e I H pl = some (w', e', I', H', pl') ∧ CpW rl2 rl w2 e2 I2 H2 pl2 w' e' I' H' pl' := by
  obtain ⟨I', H', pl', d1, d2, d3⟩ := copy_loop6 (pl2 := pl2) (I2 := I2) hr hr2 hE 6 0 N I H pl (by omega) (by omega)
  have d1' : wo_copy_40 rl rl2 I2 H2 pl2 N 0 I H pl = some (I', H', pl') := d1
  unfold wo_copy en_copy
  rw [d1']
  simp only [Option.bind_some]
  refine ⟨_, _, _, _, _, rfl, ?_, fun c hc => ⟨?_, ?_⟩, ?_, ?_, fun k hk => ?_, fun j hj => d2 j (Nat.zero_le _) hj⟩
  · rw [upA_row (by omega), upA_row (by omega), up_at]
  · rw [upA_row (by omega), upA_at, cpR_lt hc]
  · rw [upA_at, cpR_lt hc]
  · rw [up_in (by omega), up_at]
  · rw [up_at]
  · rw [up_other (by omega), up_other (by omega), upA_at, cpR_lt hk]
/-- a world on both sides, copied -/
theorem WR.ext {μ' : Mem} (h : WR T rl w2 e2 I2 H2 pl2 vs μ) (hc : CpW rl rl2 w2 e2 I2 H2 pl2 w e I H pl) (h5 : ∀ k, k < 7593 → μ' 5 k = μ 5 k) (h1 : ∀ k, k < 9216 → μ' 1 k = μ 1 k) (h3 : ∀ k, k < 64 → μ' 3 k = μ 3 k) (h10 : μ' 0 10 = μ 0 10) (h11 : μ' 0 11 = μ 0 11) : WR T rl2 w e I H pl vs μ' := by
  obtain ⟨⟨a1, ⟨t0, a2, a2b⟩, a3⟩, ⟨t, b1, b2⟩, b3, b4, b5, b6⟩ := h
  obtain ⟨c1, c2, c3, c4, c5, c6⟩ := hc
  have hE : EnvR e μ' := ⟨by rw [h5 0 (by omega), c1]; exact a1, ⟨t0, by rw [c1]; exact a2, a2b⟩, fun c hc => by
    obtain ⟨z1, z2⟩ := c2 c hc
    rw [z1, z2, h5 _ (by omega), h5 _ (by omega)]
    exact a3 c hc⟩
  refine ⟨hE, ⟨t, b1, by rw [c1]; exact b2⟩, ?_, fun wf hwf => ?_, b5, fun j hj => ?_⟩
  · unfold WroR
    rw [c3, c4, h10, h11]
    exact b3
  · obtain ⟨v, v1, v2, v3, v4⟩ := b4 wf hwf
    refine ⟨v, v1, by rw [c5 wf hwf]; exact v2, by rw [h5 _ (by omega)]; exact v3, fun k hk => ?_⟩
    obtain ⟨nd, sv, its, hV⟩ := v4 k hk
    exact ⟨nd, sv, its, hV.ext (fun x x1 x2 => h1 x (by omega)) (fun x x1 x2 => h3 x (by omega))⟩
  · obtain ⟨z1, z2, z3⟩ := c6 j hj
    rw [z3]
    exact (b6 j hj).ext hj (fun z => z) z1 z2 hE (fun _ => c1) (fun t1 ht1 e1 => ⟨t1, Nat.le_refl _, ht1, by rw [c1]; exact e1⟩) (fun k k1 k2 => h5 k (by omega)) (fun wf ve v q1 q2 q3 q4 q5 => ⟨rfl, ⟨v, q4, q3, by rw [c5 wf q2]; exact q5⟩, fun x x1 x2 => h1 x (by omega), fun x x1 x2 => h3 x (by omega)⟩)
theorem CpW.refl : CpW rl rl w e I H pl w e I H pl := ⟨rfl, fun _ _ => ⟨rfl, rfl⟩, rfl, rfl, fun _ _ => rfl, fun _ _ => ⟨SmO.refl, SmH.refl, rfl⟩⟩
/-- rows are copied in the reference -/
theorem mcopy_loop {n0 n1 K : Nat} (h0 : K ≤ n0) (h1 : K ≤ n1) (hn0 : n0 < 2 ^ 31) (hn1 : n1 < 2 ^ 31) : ∀ (s k n : Nat) (c : Mem), k + s = K → s < n → ∃ c', md_copies_2 N n0 n1 n (nI K) (nI k) c = some c' ∧ c' 0 = c 0 ∧ (∀ x, k ≤ x → x < K → c' 1 x = c 0 x) ∧ ∀ x, x < k → c' 1 x = c 1 x
  | 0, k, n, c, hk, hn => by
    obtain ⟨n, rfl⟩ : ∃ x, n = x + 1 := ⟨n - 1, by omega⟩
    refine ⟨c, ?_, rfl, fun x x1 x2 => by omega, fun _ _ => rfl⟩
    unfold md_copies_2
    rw [if_neg (nI_nlt (by omega) (by omega))]
  | s + 1, k, n, c, hk, hn => by
    obtain ⟨n, rfl⟩ : ∃ x, n = x + 1 := ⟨n - 1, by omega⟩
    obtain ⟨c', d1, d2, d3, d4⟩ := mcopy_loop h0 h1 hn0 hn1 s (k + 1) n (up c 1 k (c 0 k)) (by omega) (by omega)
    refine ⟨c', ?_, by rw [d2, up_row (by decide)], fun x x1 x2 => ?_, fun x hx => ?_⟩
    · conv => lhs; unfold md_copies_2
      rw [if_pos (nI_lt (by omega) (by omega)), rd_nI (by omega) hn0, Option.bind_some, ck_nI (by omega) hn1, nI_clamp (by omega), nI_1]
      exact d1
    · by_cases q : x = k
      · subst q
        rw [d4 x (by omega), up_at]
      · rw [d3 x (by omega) x2, up_row (show (0 : Nat) ≠ 1 by decide)]
    · rw [d4 x (by omega), up_in (by omega)]
theorem mcopy_ev {K : Nat} {f g : Nat → Int32} (hK : K < 2 ^ 31) (hN : K < N) : ∃ c', md_copies N K K (nI K) (mem2 f g) = some c' ∧ c' 0 = f ∧ ∀ x, x < K → c' 1 x = f x := by
  obtain ⟨c', d1, d2, d3, d4⟩ := mcopy_loop (N := N) (Nat.le_refl K) (Nat.le_refl K) hK hK K 0 N (mem2 f g) (by omega) hN
  exact ⟨c', d1, d2, fun x hx => d3 x (Nat.zero_le _) hx⟩
end PE1
