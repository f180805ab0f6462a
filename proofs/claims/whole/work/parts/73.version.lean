/-! what is asked about a version, on both sides -/
section PB9
variable {μ w : Mem} {N D wf v : Nat} {vs : Fam}
theorem ver_arg (hv : v ≤ 4) (z : Int32) : (∃ k : Nat, k < v ∧ z = nI k) ∨ (xs_isInside z (nI v) = some false ∧ md_isIn z 0 (nI v - 1) = some false) := by
  by_cases q : 0 < v
  · rcases arg_cases q (by omega) z with h | ⟨h1, h2⟩
    · exact Or.inl h
    · refine Or.inr ⟨h1, ?_⟩
      rw [show (nI v - 1 : Int32) = nI (v - 1) from by rw [show (1 : Int32) = nI 1 from rfl, pk_sub (by omega)]]
      exact h2
  · have hv0 : v = 0 := by omega
    subst hv0
    refine Or.inr ?_
    by_cases q2 : z < 0
    · exact ⟨ins_neg q2, isIn_lo q2⟩
    · obtain ⟨a, ha, rfl⟩ := nI_of q2
      refine ⟨ins_out (Nat.zero_le _) ha, isIn_hi ?_⟩
      rw [Int32.lt_iff_toInt_lt, nI_toInt ha]
      have : (nI 0 - 1 : Int32).toInt = -1 := by decide
      omega
/-- the versions of a workflow -/
def VwR (vs : Fam) (w μ : Mem) (wf : Nat) : Prop := ∃ v : Nat, v ≤ 4 ∧ w 5 wf = nI v ∧ μ 5 (17 + wf) = nI v ∧ ∀ k, k < v → ∃ nd sv its, VerR (vs (4 * wf + k)) μ (4 * wf + k) nd sv its
theorem ver_core (hN : 80 ≤ N) (hD : 9 ≤ D) (hwf : wf < 4) (hv : v ≤ 4) (hm : μ 5 (17 + wf) = nI v) (hR : ∀ k, k < v → ∃ nd sv its, VerR (vs (4 * wf + k)) μ (4 * wf + k) nd sv its) (z : Int32) {q : Nat} (hq : q < 5) :
    ∃ a, ((xs_isInside z (nI v)).bind fun k43 => if k43 = true then ((xs_isInside z 4).bind fun k52 => if k52 = true then ((rx 16 ((nI wf * 4) + z)).bind fun j70 => if nI q = 0 then some (vs j70 6 11) else if nI q = 1 then some (vs j70 6 12) else if nI q = 2 then some (vs j70 6 13) else if nI q = 3 then some (vs j70 6 14) else if nI q = 4 then some (vs j70 6 15) else some (-1)) else some (-1)) else some (-1)) = some a ∧ md_version_38 N D μ (nI wf) (nI q) z = some a := by
  unfold md_version_38
  rw [add17_nI, rd_nI (by omega) (by decide), Option.bind_some, hm]
  rcases ver_arg hv z with ⟨k, hk, rfl⟩ | ⟨h1, h2⟩
  · obtain ⟨nd, sv, its, hV⟩ := hR k hk
    have hV16 : 4 * wf + k < 16 := by omega
    have hw := width_ver (N := N) (D := D) (by omega) hD hV16 hV
    have ht := tasks_ver (N := N) hN hV16 hV
    obtain ⟨_, _, _, _, _, s1, s2, s3, _⟩ := hV
    rw [show (nI v - 1 : Int32) = nI (v - 1) from by rw [show (1 : Int32) = nI 1 from rfl, pk_sub (by omega)], ins_nI hk (by omega), ins4 (by omega), Option.bind_some, Option.bind_some, if_pos rfl, if_pos rfl, show md_isIn (nI k) 0 (nI (v - 1)) = some true from isIn_nI (b := 0) (Nat.zero_le _) (by omega) (by omega), Option.bind_some, if_pos rfl]
    have e4 : nI wf * 4 + nI k = nI (4 * wf + k) := by
      rw [show (4 : Int32) = nI 4 from rfl, pk_mul, nI_add, show wf * 4 + k = 4 * wf + k by omega]
    have e5 : 4 * nI wf + nI k = nI (4 * wf + k) := by rw [mul4_nI, nI_add]
    rw [e4, e5, rx_nI hV16 (by decide), Option.bind_some, mul4_nI, hw, ht]
    have r1 : nI (4 * (4 * wf + k)) + 1 = nI (4 * (4 * wf + k) + 1) := nI_1 _
    have r2 : nI (4 * (4 * wf + k)) + 2 = nI (4 * (4 * wf + k) + 2) := by rw [show (2 : Int32) = nI 2 from rfl, nI_add]
    have r3 : nI (4 * (4 * wf + k)) + 3 = nI (4 * (4 * wf + k) + 3) := by rw [show (3 : Int32) = nI 3 from rfl, nI_add]
    rw [r1, r2, r3, rd_nI (by omega) (by decide), rd_nI (by omega) (by decide), rd_nI (by omega) (by decide), s1, s2, s3]
    have hq5 : q = 0 ∨ q = 1 ∨ q = 2 ∨ q = 3 ∨ q = 4 := by omega
    rcases hq5 with y | y | y | y | y <;> subst y <;> exact ⟨_, rfl, rfl⟩
  · rw [h1, h2, Option.bind_some, Option.bind_some, if_neg (by decide), if_neg (by decide)]
    exact ⟨-1, rfl, rfl⟩
theorem ver_bad {q : Int32} (hq : q ≠ 0 ∧ q ≠ 1 ∧ q ≠ 2 ∧ q ≠ 3 ∧ q ≠ 4) (hv : v ≤ 4) (hwf : wf < 4) (z : Int32) : ((xs_isInside z (nI v)).bind fun k43 => if k43 = true then ((xs_isInside z 4).bind fun k52 => if k52 = true then ((rx 16 ((nI wf * 4) + z)).bind fun j70 => if q = 0 then some (vs j70 6 11) else if q = 1 then some (vs j70 6 12) else if q = 2 then some (vs j70 6 13) else if q = 3 then some (vs j70 6 14) else if q = 4 then some (vs j70 6 15) else some (-1)) else some (-1)) else some (-1)) = some (-1) := by
  rcases ver_arg hv z with ⟨k, hk, rfl⟩ | ⟨h1, h2⟩
  · have e4 : nI wf * 4 + nI k = nI (4 * wf + k) := by
      rw [show (4 : Int32) = nI 4 from rfl, pk_mul, nI_add, show wf * 4 + k = 4 * wf + k by omega]
    rw [ins_nI hk (by omega), ins4 (by omega), Option.bind_some, Option.bind_some, if_pos rfl, if_pos rfl, e4, rx_nI (by omega) (by decide), Option.bind_some, if_neg hq.1, if_neg hq.2.1, if_neg hq.2.2.1, if_neg hq.2.2.2.1, if_neg hq.2.2.2.2]
  · rw [h1, Option.bind_some, if_neg (by decide)]
theorem version_sim (hN : 80 ≤ N) (hD : 9 ≤ D) (hR : ∀ wf, wf < 4 → VwR vs w μ wf) (y1 y2 y3 : Int32) : ∃ a, xe_version vs w y1 y2 y3 = some a ∧ md_version N D μ y1 y2 y3 = some a := by
  unfold xe_version md_version md_isWorkflow
  rcases arg_cases (n := 4) (by decide) (by decide) y1 with ⟨wf, hwf, rfl⟩ | ⟨h1, h2⟩
  · obtain ⟨v, hv, hw, hm, hver⟩ := hR wf hwf
    rw [ins4 hwf, Option.bind_some, if_pos rfl, show md_isIn (nI wf) 0 3 = some true from isIn_nI (b := 0) (c := 3) (Nat.zero_le _) (by omega) (by decide), Option.bind_some, Option.bind_some, if_pos rfl, rd_nI (by omega) (by decide), Option.bind_some, Option.bind_some, Option.bind_some, hw, add17_nI, rd_nI (by omega) (by decide), Option.bind_some, hm]
    rcases arg_cases (n := 5) (by decide) (by decide) y3 with ⟨q, hq, rfl⟩ | ⟨h1, h2⟩
    · rw [show md_isIn (nI q) 0 4 = some true from isIn_nI (b := 0) (c := 4) (Nat.zero_le _) (by omega) (by decide), Option.bind_some, if_pos rfl]
      by_cases q2 : y2 = -1
      · rw [if_pos q2, if_pos q2]
        exact ver_core hN hD hwf hv hm hver _ hq
      · rw [if_neg q2, if_neg q2]
        exact ver_core hN hD hwf hv hm hver _ hq
    · have h2' : md_isIn y3 0 4 = some false := h2
      have hne : y3 ≠ 0 ∧ y3 ≠ 1 ∧ y3 ≠ 2 ∧ y3 ≠ 3 ∧ y3 ≠ 4 := by
        refine ⟨?_, ?_, ?_, ?_, ?_⟩ <;> (intro e; rw [e] at h1; exact absurd h1 (by decide))
      rw [h2', Option.bind_some, if_neg (show ¬ (false = true) by decide)]
      by_cases q2 : y2 = -1
      · rw [if_pos q2]
        exact ⟨-1, ver_bad hne hv hwf _, rfl⟩
      · rw [if_neg q2]
        exact ⟨-1, ver_bad hne hv hwf _, rfl⟩
  · have h1' : xs_isInside y1 4 = some false := h1
    have h2' : md_isIn y1 0 3 = some false := h2
    rw [h1', h2', Option.bind_some, Option.bind_some, Option.bind_some, if_neg (by decide), if_neg (by decide)]
    exact ⟨-1, rfl, rfl⟩
end PB9
