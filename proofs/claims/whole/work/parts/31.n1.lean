/-! entries, attempts: the two sides side by side -/
theorem or_nI (a b : Nat) : nI a ||| nI b = nI (a ||| b) := by
  apply Int32.toBitVec_inj.1
  show BitVec.ofNat 32 a ||| BitVec.ofNat 32 b = BitVec.ofNat 32 (a ||| b)
  apply BitVec.eq_of_getLsbD_eq
  intro i hi
  simp [hi]
theorem or_sum {a k : Nat} (b : Nat) (h : a < 2 ^ k) : nI (2 ^ k * b) ||| nI a = nI (2 ^ k * b + a) := by rw [or_nI, Nat.two_pow_add_eq_or_of_lt h]
theorem enc_nI {t kd v : Nat} (ht : t < 131072) (hk : kd < 16) (hv : v < 8) : (((nI t <<< (4 &&& 31)) ||| nI kd) <<< (3 &&& 31)) ||| nI v = nI ((t * 16 + kd) * 8 + v) := by
  rw [pk_shlN (4 &&& 31) 4 (by decide) (by omega)]
  rw [show t * 2 ^ 4 = 2 ^ 4 * t by omega, or_sum t (by omega)]
  rw [pk_shlN (3 &&& 31) 3 (by decide) (by omega)]
  rw [show (2 ^ 4 * t + kd) * 2 ^ 3 = 2 ^ 3 * (2 ^ 4 * t + kd) by omega, or_sum _ (by omega)]
  all_goals (congr 1 <;> omega)
theorem dec_t {t kd v : Nat} (ht : t < 131072) (hk : kd < 16) (hv : v < 8) : nI ((t * 16 + kd) * 8 + v) >>> (7 &&& 31) = nI t := by
  rw [pk_shrN (by omega) (7 &&& 31) 7 (by decide)]
  all_goals (congr 1 <;> omega)
theorem dec_k {t kd v : Nat} (ht : t < 131072) (hk : kd < 16) (hv : v < 8) : (nI ((t * 16 + kd) * 8 + v) >>> (3 &&& 31)) &&& 15 = nI kd := by
  rw [pk_shrN (by omega) (3 &&& 31) 3 (by decide), pk_andN (by omega) 4 (by decide)]
  all_goals (congr 1 <;> omega)
theorem dec_v {t kd v : Nat} (ht : t < 131072) (hk : kd < 16) (hv : v < 8) : nI ((t * 16 + kd) * 8 + v) &&& 7 = nI v := by
  rw [pk_andN (by omega) 3 (by decide)]
  all_goals (congr 1 <;> omega)
def HisR (rl i E : Nat) (h μ : Mem) : Prop :=
  (rl = 0 ∨ rl = 200) ∧ h 4 2 = nI E ∧ μ 5 (21 + 1262 * i + 9) = nI E ∧ (rl = 200 → ∀ k, k < E → k < 200 → ∃ t kd v : Nat, t < 131072 ∧ kd < 16 ∧ v < 8 ∧ h 5 k = nI ((t * 16 + kd) * 8 + v) ∧ μ 5 (21 + 1262 * i + (22 + 3 * k)) = nI t ∧ μ 5 (21 + 1262 * i + (23 + 3 * k)) = nI kd ∧ μ 5 (21 + 1262 * i + (24 + 3 * k)) = nI v)
def NF (i : Nat) (μ μ' : Mem) : Prop := (∀ c, c ≠ 5 → μ' c = μ c) ∧ ∀ k, k ≠ 30 + 1262 * i → ¬ (43 + 1262 * i ≤ k ∧ k < 643 + 1262 * i) → μ' 5 k = μ 5 k
theorem HisR.fr {rl i E : Nat} {h μ μ' : Mem} (H : HisR rl i E h μ) (h9 : μ' 5 (21 + 1262 * i + 9) = μ 5 (21 + 1262 * i + 9)) (hr : ∀ k, 43 + 1262 * i ≤ k → k < 643 + 1262 * i → μ' 5 k = μ 5 k) : HisR rl i E h μ' := by
  refine ⟨H.1, H.2.1, by rw [h9]; exact H.2.2.1, fun hrl k hk hk2 => ?_⟩
  obtain ⟨t, kd, v, q1, q2, q3, q4, q5, q6, q7⟩ := H.2.2.2 hrl k hk hk2
  exact ⟨t, kd, v, q1, q2, q3, q4, by rw [hr _ (by omega) (by omega)]; exact q5, by rw [hr _ (by omega) (by omega)]; exact q6, by rw [hr _ (by omega) (by omega)]; exact q7⟩
theorem note_sim {rl i E t kd v : Nat} {e h μ : Mem} {x1 x2 : Int32} (hi : i < 6) (hE : μ 5 0 = e 1 2) (ht : e 1 2 = nI t) (htt : t < 131072) (hH : HisR rl i E h μ) (hEb : E < 4000) (h1 : x1 = nI kd) (hk : kd < 16) (h2 : x2 = nI v) (hv : v < 8) :
    ∃ h' μ', hi_add rl e x1 x2 h = some h' ∧ md_notes (nI i) x1 x2 μ = some μ' ∧ HisR rl i (E + 1) h' μ' ∧ NF i μ μ' := by
  obtain ⟨H1, H2, H3, H4⟩ := hH
  subst h1 h2
  have hM : ∃ μ', md_notes (nI i) (nI kd) (nI v) μ = some μ' ∧ NF i μ μ' ∧ μ' 5 (21 + 1262 * i + 9) = nI (E + 1) ∧ (∀ k, k < E → k < 200 → μ' 5 (21 + 1262 * i + (22 + 3 * k)) = μ 5 (21 + 1262 * i + (22 + 3 * k)) ∧ μ' 5 (21 + 1262 * i + (23 + 3 * k)) = μ 5 (21 + 1262 * i + (23 + 3 * k)) ∧ μ' 5 (21 + 1262 * i + (24 + 3 * k)) = μ 5 (21 + 1262 * i + (24 + 3 * k))) ∧ (E < 200 → μ' 5 (21 + 1262 * i + (22 + 3 * E)) = nI t ∧ μ' 5 (21 + 1262 * i + (23 + 3 * E)) = nI kd ∧ μ' 5 (21 + 1262 * i + (24 + 3 * E)) = nI v) := by
    by_cases hE2 : E < 200
    · refine ⟨up (up (up (up μ 5 (21 + 1262 * i + (22 + 3 * E)) (nI t)) 5 (21 + 1262 * i + (23 + 3 * E)) (nI kd)) 5 (21 + 1262 * i + (24 + 3 * E)) (nI v)) 5 (21 + 1262 * i + 9) (nI (E + 1)), ?_, ⟨?_, ?_⟩, up_at, ?_, ?_⟩
      · unfold md_notes
        rw [of_9, Option.bind_some, rd_nI (by omega) (by decide), Option.bind_some, H3, if_pos (show nI E < 200 from nI_lt hE2 (by decide)), of_22, Option.bind_some, show (0 : Int32) = nI 0 from rfl, rd_nI (by omega) (by decide), Option.bind_some, ck_nI (by omega) (by decide), of_23, Option.bind_some, ck_nI (by omega) (by decide), of_24, Option.bind_some, ck_nI (by omega) (by decide)]
        unfold md_notes_81
        rw [of_9, Option.bind_some, rd_nI (by omega) (by decide), Option.bind_some, ck_nI (by omega) (by decide)]
        rw [nI_clamp (by omega), nI_clamp (by omega), nI_clamp (by omega), nI_clamp (by omega), up_in (by omega), up_in (by omega), up_in (by omega), H3, hE, ht, nI_1]
      · intro c hc
        rw [up_row hc, up_row hc, up_row hc, up_row hc]
      · intro k hk1 hk2
        rw [up_in (by omega), up_in (by omega), up_in (by omega), up_in (by omega)]
      · intro k hk1 hk2
        refine ⟨?_, ?_, ?_⟩ <;> rw [up_in (by omega), up_in (by omega), up_in (by omega), up_in (by omega)]
      · intro _
        refine ⟨?_, ?_, ?_⟩
        · rw [up_in (by omega), up_in (by omega), up_in (by omega), up_at]
        · rw [up_in (by omega), up_in (by omega), up_at]
        · rw [up_in (by omega), up_at]
    · refine ⟨up μ 5 (21 + 1262 * i + 9) (nI (E + 1)), ?_, ⟨?_, ?_⟩, up_at, ?_, fun q => absurd q hE2⟩
      · unfold md_notes
        rw [of_9, Option.bind_some, rd_nI (by omega) (by decide), Option.bind_some, H3, if_neg (show ¬ nI E < 200 from nI_nlt (b := 200) (by omega) (by omega))]
        unfold md_notes_81
        rw [of_9, Option.bind_some, rd_nI (by omega) (by decide), Option.bind_some, ck_nI (by omega) (by decide), nI_clamp (by omega), H3, nI_1]
      · intro c hc
        rw [up_row hc]
      · intro k hk1 hk2
        rw [up_in (by omega)]
      · intro k hk1 hk2
        refine ⟨?_, ?_, ?_⟩ <;> rw [up_in (by omega)]
  obtain ⟨μ', m1, m2, m3, m4, m5⟩ := hM
  have hX : ∃ h', hi_add rl e (nI kd) (nI v) h = some h' ∧ h' 4 2 = nI (E + 1) ∧ (rl = 200 → ∀ k, k < E → k < 200 → h' 5 k = h 5 k) ∧ (rl = 200 → E < 200 → h' 5 E = nI ((t * 16 + kd) * 8 + v)) := by
    unfold hi_add
    rw [H2, if_neg (nI_pos (by omega))]
    by_cases hq : E < rl
    · have hr : rl = 200 := by rcases H1 with q | q <;> omega
      subst hr
      refine ⟨up (up h 5 E (nI ((t * 16 + kd) * 8 + v))) 4 2 (nI (E + 1)), ?_, up_at, ?_, ?_⟩
      · rw [if_pos (show nI E < Int32.ofNat 200 from nI_lt hq (by decide)), ck_nI hq (by decide), nI_clamp (by omega), ht, enc_nI htt hk hv, nI_1]
      · intro _ k hk1 _
        rw [up_cell (by decide), up_in (by omega)]
      · intro _ _
        rw [up_cell (by decide), up_at]
    · refine ⟨up h 4 2 (nI (E + 1)), ?_, up_at, ?_, ?_⟩
      · rw [if_neg (show ¬ nI E < Int32.ofNat rl from nI_nlt (b := rl) (by omega) (by omega)), nI_1]
      · intro _ k _ _
        rw [up_cell (by decide)]
      · intro hr q; omega
  obtain ⟨h', x1, x2, x3, x4⟩ := hX
  refine ⟨h', μ', x1, m1, ⟨H1, x2, m3, fun hr k hk1 hk2 => ?_⟩, m2⟩
  by_cases hkE : k < E
  · obtain ⟨t', kd', v', q1, q2, q3, q4, q5, q6, q7⟩ := H4 hr k hkE hk2
    obtain ⟨w1, w2, w3⟩ := m4 k hkE hk2
    exact ⟨t', kd', v', q1, q2, q3, by rw [x3 hr k hkE hk2]; exact q4, by rw [w1]; exact q5, by rw [w2]; exact q6, by rw [w3]; exact q7⟩
  · have hkk : k = E := by omega
    subst hkk
    obtain ⟨w1, w2, w3⟩ := m5 hk2
    exact ⟨t, kd, v, htt, hk, hv, x4 hr hk2, w1, w2, w3⟩
def EnvR (e μ : Mem) : Prop := μ 5 0 = e 1 2 ∧ (∃ t : Nat, e 1 2 = nI t ∧ t < 131072) ∧ ∀ c, c < 8 → μ 5 (1 + c) = e 2 c ∧ μ 5 (9 + c) = e 3 c ∧ (∃ d : Nat, e 2 c = nI d ∧ d ≤ 99) ∧ ∃ f : Nat, e 3 c = nI f ∧ f ≤ 99
theorem EnvR.fr {e μ μ' : Mem} (H : EnvR e μ) (h : ∀ k, k < 17 → μ' 5 k = μ 5 k) : EnvR e μ' :=
  ⟨by rw [h 0 (by omega)]; exact H.1, H.2.1, fun c hc => ⟨by rw [h _ (by omega)]; exact (H.2.2 c hc).1, by rw [h _ (by omega)]; exact (H.2.2 c hc).2.1, (H.2.2 c hc).2.2⟩⟩
theorem ends_eval {e : Mem} {c : Nat} (hc : c < 8) : en_endOfAttempt e (nI c) = some (e 1 2 + e 2 c) := by
  unfold en_endOfAttempt
  rw [if_neg (nI_pos (by omega)), if_pos (show nI c < 8 from nI_lt hc (by decide)), rd_nI hc (by decide)]
  rfl
theorem fails_sim {e μ : Mem} {c : Nat} (hc : c < 8) (hE : EnvR e μ) :
    ∃ (b : Bool) (e' μ' : Mem), en_succeeds (nI c) e = some (b, e') ∧ md_fails (nI c) μ = some (!b, μ') ∧ EnvR e' μ' ∧ (∀ r, r ≠ 3 → e' r = e r) ∧ (∀ r, r ≠ 5 → μ' r = μ r) ∧ ∀ k, ¬ (9 ≤ k ∧ k < 17) → μ' 5 k = μ 5 k := by
  obtain ⟨q1, q2, ⟨d, q3, q3'⟩, f, q4, q5⟩ := hE.2.2 c hc
  by_cases hf : f = 0
  · subst hf
    refine ⟨true, e, μ, ?_, ?_, hE, fun _ _ => rfl, fun _ _ => rfl, fun _ _ => rfl⟩
    · unfold en_succeeds
      rw [if_neg (nI_pos (by omega)), if_pos (show nI c < 8 from nI_lt hc (by decide)), rd_nI hc (by decide), Option.bind_some, q4, if_neg (by decide)]
    · unfold md_fails
      rw [add9_nI, rd_nI (by omega) (by decide), Option.bind_some, q2, q4, if_pos (by decide)]
      rfl
  · refine ⟨false, up e 3 c (nI (f - 1)), up μ 5 (9 + c) (nI (f - 1)), ?_, ?_, ⟨?_, ?_, ?_⟩, fun r hr => up_row hr, fun r hr => up_row hr, fun k hk => up_in (by omega)⟩
    · unfold en_succeeds
      rw [if_neg (nI_pos (by omega)), if_pos (show nI c < 8 from nI_lt hc (by decide)), rd_nI hc (by decide), Option.bind_some, q4, if_pos (show (0 : Int32) < nI f from nI_lt (a := 0) (by omega) (by omega)), Option.bind_some, ck_nI hc (by decide), nI_clamp (by omega), show nI f - 1 = nI (f - 1) from pk_sub (b := 1) (by omega)]
    · unfold md_fails
      rw [add9_nI, rd_nI (by omega) (by decide), Option.bind_some, q2, q4, if_neg (nI_ne0 (by omega) (by omega)), Option.bind_some, ck_nI (by omega) (by decide), nI_clamp (by omega), show nI f - 1 = nI (f - 1) from pk_sub (b := 1) (by omega)]
      rfl
    · rw [up_in (by omega), up_cell (by decide)]; exact hE.1
    · obtain ⟨t, h1, h2⟩ := hE.2.1
      exact ⟨t, by rw [up_cell (by decide)]; exact h1, h2⟩
    · intro c' hc'
      obtain ⟨w1, w2, w3, w4⟩ := hE.2.2 c' hc'
      refine ⟨by rw [up_in (by omega), up_cell (by decide)]; exact w1, ?_, by rw [up_cell (by decide)]; exact w3, ?_⟩
      · by_cases hcc : c' = c
        · subst hcc; rw [up_at, up_at]
        · rw [up_in (by omega), up_in hcc]; exact w2
      · by_cases hcc : c' = c
        · subst hcc; exact ⟨f - 1, up_at, by omega⟩
        · rw [up_in hcc]; exact w4
