/-! durations and failures are set -/
section PC1
variable {e μ : Mem}
theorem duration_sim (y1 y2 : Int32) (h : EnvR e μ) : ∃ a e' μ', xe_duration y1 y2 e = some (a, e') ∧ md_duration y1 y2 μ = some (a, μ') ∧ EnvR e' μ' ∧ (∀ c, c ≠ 2 → e' c = e c) ∧ (∀ c, c ≠ 5 → μ' c = μ c) ∧ ∀ k, ¬ (1 ≤ k ∧ k < 1 + 8) → μ' 5 k = μ 5 k := by
  have hE := h
  obtain ⟨h1, h2, h3⟩ := h
  have hself : upA e 2 (e 2) = e := by
    funext c
    by_cases q : c = 2
    · subst q; exact upA_at
    · exact upA_row q
  unfold xe_duration md_duration md_isCode xs_replaced
  rcases arg_cases (n := 8) (by decide) (by decide) y1 with ⟨c, hc, rfl⟩ | ⟨q1, q2⟩
  · have hin : xs_isInside (nI c) (Int32.ofNat 8) = some true := ins8 hc
    rw [ins8 hc, Option.bind_some, if_pos rfl, hin, Option.bind_some, if_pos rfl, show md_isIn (nI c) 0 7 = some true from isIn_nI (b := 0) (c := 7) (Nat.zero_le _) (by omega) (by decide), Option.bind_some, Option.bind_some, if_pos rfl]
    rcases arg_cases (n := 100) (by decide) (by decide) y2 with ⟨b, hb, rfl⟩ | ⟨q1, q2⟩
    · rw [if_neg (nI_pos (by omega)), if_neg (show ¬ 99 < nI b from nI_nlt (a := 99) (by omega) (by decide)), rd_nI (by omega) (by decide), Option.bind_some, ck_nI (by omega) (by decide), Option.bind_some, show md_isIn (nI b) 0 99 = some true from isIn_nI (b := 0) (c := 99) (Nat.zero_le _) (by omega) (by decide), Option.bind_some, if_pos rfl, add1_nI, rd_nI (by omega) (by decide), Option.bind_some, ck_nI (by omega) (by decide), nI_clamp (by omega), nI_clamp (by omega)]
      dsimp only
      have ha : μ 5 (1 + c) = e 2 c := (h3 c hc).1
      rw [ha]
      refine ⟨_, _, _, rfl, rfl, ⟨?_, ?_, fun k hk => ?_⟩, fun k hk => upA_row hk, fun k hk => up_row hk, fun k hk => up_in (by omega)⟩
      · rw [up_in (by omega), upA_row (by decide)]; exact h1
      · rw [upA_row (by decide)]; exact h2
      · obtain ⟨g1, g2, g3, g4⟩ := h3 k hk
        have eo : upA e 2 (up (fun _ => e 2) 0 c (nI b) 0) 3 k = e 3 k := by rw [upA_row (by decide)]
        have em : upA e 2 (up (fun _ => e 2) 0 c (nI b) 0) 2 k = up (fun _ => e 2) 0 c (nI b) 0 k := by rw [upA_at]
        by_cases q : k = c
        · subst q
          refine ⟨?_, ?_, ?_, ?_⟩
          · rw [up_at, em, up_at]
          · rw [up_in (by omega), eo]; exact g2
          · exact ⟨b, by rw [em, up_at], by omega⟩
          · rw [eo]; exact g4
        · refine ⟨?_, ?_, ?_, ?_⟩
          · rw [up_in (by omega), em, up_in q]; exact g1
          · rw [up_in (by omega), eo]; exact g2
          · rw [em, up_in q]; exact g3
          · rw [eo]; exact g4
    · have q2' : md_isIn y2 0 99 = some false := q2
      rw [q2', Option.bind_some, if_neg (show ¬ (false = true) by decide)]
      have q1' : y2 < 0 ∨ 99 < y2 := by
        by_cases z : y2 < 0
        · exact Or.inl z
        · obtain ⟨b, hb, rfl⟩ := nI_of z
          by_cases z2 : b < 100
          · have : xs_isInside (nI b) (nI 100) = some true := ins_nI z2 (by decide)
            rw [this] at q1; exact absurd q1 (by decide)
          · exact Or.inr (nI_lt (a := 99) (by omega) hb)
      by_cases z : y2 < 0
      · rw [if_pos z, Option.bind_some]
        exact ⟨_, _, _, rfl, rfl, by rw [hself]; exact hE, fun k hk => upA_row hk, fun _ _ => rfl, fun _ _ => rfl⟩
      · rw [if_neg z, if_pos (q1'.resolve_left z), Option.bind_some]
        exact ⟨_, _, _, rfl, rfl, by rw [hself]; exact hE, fun k hk => upA_row hk, fun _ _ => rfl, fun _ _ => rfl⟩
  · have q1' : xs_isInside y1 8 = some false := q1
    have q2' : md_isIn y1 0 7 = some false := q2
    rw [q1', q2', Option.bind_some, Option.bind_some, Option.bind_some, if_neg (show ¬ (false = true) by decide), if_neg (show ¬ (false = true) by decide), Option.bind_some]
    exact ⟨_, _, _, rfl, rfl, by rw [hself]; exact hE, fun k hk => upA_row hk, fun _ _ => rfl, fun _ _ => rfl⟩
theorem failures_sim (y1 y2 : Int32) (h : EnvR e μ) : ∃ a e' μ', xe_failures y1 y2 e = some (a, e') ∧ md_failures y1 y2 μ = some (a, μ') ∧ EnvR e' μ' ∧ (∀ c, c ≠ 3 → e' c = e c) ∧ (∀ c, c ≠ 5 → μ' c = μ c) ∧ ∀ k, ¬ (9 ≤ k ∧ k < 9 + 8) → μ' 5 k = μ 5 k := by
  have hE := h
  obtain ⟨h1, h2, h3⟩ := h
  have hself : upA e 3 (e 3) = e := by
    funext c
    by_cases q : c = 3
    · subst q; exact upA_at
    · exact upA_row q
  unfold xe_failures md_failures md_isCode xs_replaced
  rcases arg_cases (n := 8) (by decide) (by decide) y1 with ⟨c, hc, rfl⟩ | ⟨q1, q2⟩
  · have hin : xs_isInside (nI c) (Int32.ofNat 8) = some true := ins8 hc
    rw [ins8 hc, Option.bind_some, if_pos rfl, hin, Option.bind_some, if_pos rfl, show md_isIn (nI c) 0 7 = some true from isIn_nI (b := 0) (c := 7) (Nat.zero_le _) (by omega) (by decide), Option.bind_some, Option.bind_some, if_pos rfl]
    rcases arg_cases (n := 100) (by decide) (by decide) y2 with ⟨b, hb, rfl⟩ | ⟨q1, q2⟩
    · rw [if_neg (nI_pos (by omega)), if_neg (show ¬ 99 < nI b from nI_nlt (a := 99) (by omega) (by decide)), rd_nI (by omega) (by decide), Option.bind_some, ck_nI (by omega) (by decide), Option.bind_some, show md_isIn (nI b) 0 99 = some true from isIn_nI (b := 0) (c := 99) (Nat.zero_le _) (by omega) (by decide), Option.bind_some, if_pos rfl, add9_nI, rd_nI (by omega) (by decide), Option.bind_some, ck_nI (by omega) (by decide), nI_clamp (by omega), nI_clamp (by omega)]
      dsimp only
      have ha : μ 5 (9 + c) = e 3 c := (h3 c hc).2.1
      rw [ha]
      refine ⟨_, _, _, rfl, rfl, ⟨?_, ?_, fun k hk => ?_⟩, fun k hk => upA_row hk, fun k hk => up_row hk, fun k hk => up_in (by omega)⟩
      · rw [up_in (by omega), upA_row (by decide)]; exact h1
      · rw [upA_row (by decide)]; exact h2
      · obtain ⟨g1, g2, g3, g4⟩ := h3 k hk
        have eo : upA e 3 (up (fun _ => e 3) 0 c (nI b) 0) 2 k = e 2 k := by rw [upA_row (by decide)]
        have em : upA e 3 (up (fun _ => e 3) 0 c (nI b) 0) 3 k = up (fun _ => e 3) 0 c (nI b) 0 k := by rw [upA_at]
        by_cases q : k = c
        · subst q
          refine ⟨?_, ?_, ?_, ?_⟩
          · rw [up_in (by omega), eo]; exact g1
          · rw [up_at, em, up_at]
          · rw [eo]; exact g3
          · exact ⟨b, by rw [em, up_at], by omega⟩
        · refine ⟨?_, ?_, ?_, ?_⟩
          · rw [up_in (by omega), eo]; exact g1
          · rw [up_in (by omega), em, up_in q]; exact g2
          · rw [eo]; exact g3
          · rw [em, up_in q]; exact g4
    · have q2' : md_isIn y2 0 99 = some false := q2
      rw [q2', Option.bind_some, if_neg (show ¬ (false = true) by decide)]
      have q1' : y2 < 0 ∨ 99 < y2 := by
        by_cases z : y2 < 0
        · exact Or.inl z
        · obtain ⟨b, hb, rfl⟩ := nI_of z
          by_cases z2 : b < 100
          · have : xs_isInside (nI b) (nI 100) = some true := ins_nI z2 (by decide)
            rw [this] at q1; exact absurd q1 (by decide)
          · exact Or.inr (nI_lt (a := 99) (by omega) hb)
      by_cases z : y2 < 0
      · rw [if_pos z, Option.bind_some]
        exact ⟨_, _, _, rfl, rfl, by rw [hself]; exact hE, fun k hk => upA_row hk, fun _ _ => rfl, fun _ _ => rfl⟩
      · rw [if_neg z, if_pos (q1'.resolve_left z), Option.bind_some]
        exact ⟨_, _, _, rfl, rfl, by rw [hself]; exact hE, fun k hk => upA_row hk, fun _ _ => rfl, fun _ _ => rfl⟩
  · have q1' : xs_isInside y1 8 = some false := q1
    have q2' : md_isIn y1 0 7 = some false := q2
    rw [q1', q2', Option.bind_some, Option.bind_some, Option.bind_some, if_neg (show ¬ (false = true) by decide), if_neg (show ¬ (false = true) by decide), Option.bind_some]
    exact ⟨_, _, _, rfl, rfl, by rw [hself]; exact hE, fun k hk => upA_row hk, fun _ _ => rfl, fun _ _ => rfl⟩
end PC1
