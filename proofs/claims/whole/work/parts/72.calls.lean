/-! the small calls -/
/-- a number from outside is one of the first n, or neither side takes it -/
theorem arg_cases {n : Nat} (hn : 0 < n) (hn2 : n < 2 ^ 31) (y : Int32) : (∃ a : Nat, a < n ∧ y = nI a) ∨ (xs_isInside y (nI n) = some false ∧ md_isIn y 0 (nI (n - 1)) = some false) := by
  by_cases q : y < 0
  · exact Or.inr ⟨ins_neg q, isIn_lo q⟩
  · obtain ⟨a, ha, rfl⟩ := nI_of q
    by_cases q2 : a < n
    · exact Or.inl ⟨a, q2, rfl⟩
    · exact Or.inr ⟨ins_out (by omega) ha, isIn_hi (nI_lt (by omega) ha)⟩
section PB8
variable {μ p x w r : Mem} {N D V its wf v len tx tg : Nat} {vs : Fam}
theorem define_none {y : Int32} (h1 : xs_isInside y 4 = some false) (h2 : md_isIn y 0 3 = some false) : xe_define N D y x tx tg r w vs = some (-1, x, tx, tg, r, w, vs) ∧ md_define N D y μ = some (-1, μ) := by
  unfold xe_define md_define md_isWorkflow
  rw [h1, h2, Option.bind_some, Option.bind_some, Option.bind_some, if_neg (by decide), if_neg (by decide)]
  exact ⟨rfl, rfl⟩
theorem define_full (hwf : wf < 4) (hw : w 5 wf = nI 4) (hm : μ 5 (17 + wf) = nI 4) : xe_define N D (nI wf) x tx tg r w vs = some (-4, x, tx, tg, r, w, vs) ∧ md_define N D (nI wf) μ = some (-4, μ) := by
  constructor
  · unfold xe_define
    rw [ins4 hwf, Option.bind_some, if_pos rfl, rd_nI (by omega) (by decide), Option.bind_some, hw, show xs_isInside (nI 4) 4 = some false by decide, Option.bind_some, if_neg (by decide)]
  · unfold md_define md_isWorkflow
    rw [show (0 : Int32) = nI 0 from rfl, show (3 : Int32) = nI 3 from rfl, isIn_nI (Nat.zero_le _) (by omega) (by decide), Option.bind_some, Option.bind_some, if_pos rfl, add17_nI, rd_nI (by omega) (by decide), Option.bind_some, hm, if_pos (by decide)]
/-- the tape and what is fed of it -/
def TapR (x μ : Mem) : Prop := ∃ len : Nat, len ≤ 80 ∧ x 0 6 = nI len ∧ μ 0 9 = nI len ∧ ∀ k, k < 80 → μ 8 k = x 1 k ∧ ∃ b : Nat, b < 128 ∧ x 1 k = nI b
theorem feed_sim (y : Int32) (h : TapR x μ) : ∃ a x' μ', xe_feed y x = some (a, x') ∧ md_feed y μ = some (a, μ') ∧ TapR x' μ' ∧ (∀ c k, c ≠ 1 → ¬ (c = 0 ∧ k = 6) → x' c k = x c k) ∧ (∀ c k, c ≠ 8 → ¬ (c = 0 ∧ k = 9) → μ' c k = μ c k) := by
  obtain ⟨len, h1, h2, h3, h4⟩ := h
  unfold xe_feed md_feed
  by_cases q : y < 0
  · rw [if_pos q, isIn_lo q, Option.bind_some, if_neg (by decide)]
    exact ⟨_, _, _, rfl, rfl, ⟨len, h1, h2, h3, h4⟩, fun _ _ _ _ => rfl, fun _ _ _ _ => rfl⟩
  · rw [if_neg q]
    by_cases q2 : 127 < y
    · rw [if_pos q2, isIn_hi q2, Option.bind_some, if_neg (by decide)]
      exact ⟨_, _, _, rfl, rfl, ⟨len, h1, h2, h3, h4⟩, fun _ _ _ _ => rfl, fun _ _ _ _ => rfl⟩
    · obtain ⟨b, hb, rfl⟩ := nI_of q
      have hb2 : b < 128 := by
        by_cases z : b < 128
        · exact z
        · exact absurd (nI_lt (a := 127) (b := b) (by omega) hb) q2
      have hin : md_isIn (nI b) 0 127 = some true := isIn_nI (b := 0) (c := 127) (Nat.zero_le _) (by omega) (by decide)
      rw [if_neg q2, hin, Option.bind_some, if_pos rfl, h2, h3]
      by_cases z : len < 80
      · rw [if_pos (show nI len < 80 from nI_lt (b := 80) z (by decide)), if_neg (show ¬ nI len = 80 from fun e => by have := nI_inj (a := len) (b := 80) (by omega) (by decide) e; omega), ck_nI z (by decide), ck_nI z (by decide), nI_1, nI_clamp (by omega)]
        refine ⟨_, _, _, rfl, rfl, ⟨len + 1, by omega, up_at, up_at, fun k hk => ?_⟩, fun c k c1 c2 => ?_, fun c k c1 c2 => ?_⟩
        · have eM : up (up μ 8 len (nI b)) 0 9 (nI (len + 1)) 8 k = up μ 8 len (nI b) 8 k := up_cell (by decide)
          have eX : up (up x 1 len (nI b)) 0 6 (nI (len + 1)) 1 k = up x 1 len (nI b) 1 k := up_cell (by decide)
          rw [eM, eX]
          by_cases e : k = len
          · subst e
            rw [up_at, up_at]
            exact ⟨rfl, b, hb2, rfl⟩
          · rw [up_in e, up_in e]; exact h4 k hk
        · rw [up_other (by omega), up_other (by omega)]
        · rw [up_other (by omega), up_other (by omega)]
      · rw [if_neg (show ¬ nI len < 80 from nI_nlt (b := 80) (by omega) (by omega)), if_pos (show nI len = 80 by rw [show len = 80 by omega]; rfl)]
        exact ⟨_, _, _, rfl, rfl, ⟨len, h1, h2, h3, h4⟩, fun _ _ _ _ => rfl, fun _ _ _ _ => rfl⟩
/-- what was wrong with the last text -/
def WroR (w μ : Mem) : Prop := (w 0 3 = 0 ∧ μ 0 10 = -1) ∨ (w 0 3 ≠ 0 ∧ w 0 3 = μ 0 11 ∧ w 0 4 = μ 0 10 ∧ ¬ μ 0 10 < 0)
theorem wrong_sim (y : Int32) (h : WroR w μ) : ∃ a, xe_wrong w y = some a ∧ md_wrong μ y = some a := by
  unfold xe_wrong md_wrong
  rcases arg_cases (n := 2) (by decide) (by decide) y with ⟨a, ha, rfl⟩ | ⟨q1, q2⟩
  · have hin : md_isIn (nI a) 0 1 = some true := isIn_nI (b := 0) (c := 1) (Nat.zero_le _) (by omega) (by decide)
    have ha2 : a = 0 ∨ a = 1 := by omega
    rw [hin, Option.bind_some, if_pos rfl]
    rcases h with ⟨e1, e2⟩ | ⟨e1, e2, e3, e4⟩
    · rw [e1, e2]
      rcases ha2 with z | z <;> subst z <;> exact ⟨-5, rfl, rfl⟩
    · rw [if_neg e1, if_neg e4]
      rcases ha2 with z | z <;> subst z
      · exact ⟨w 0 4, by rw [if_pos (show nI 0 = 0 by decide), if_pos (show nI 0 = 0 by decide)], by rw [if_pos (show nI 0 = 0 by decide), e3]⟩
      · exact ⟨w 0 3, by rw [if_neg (show ¬ nI 1 = 0 by decide), if_pos (show nI 1 = 1 by decide), if_neg (show ¬ nI 1 = 0 by decide)], by rw [if_neg (show ¬ nI 1 = 0 by decide), e2]⟩
  · have q2' : md_isIn y 0 1 = some false := q2
    rw [q2', Option.bind_some, if_neg (show ¬ (false = true) by decide)]
    have n0 : ¬ y = 0 := fun e => by rw [e] at q1; exact absurd q1 (by decide)
    have n1 : ¬ y = 1 := fun e => by rw [e] at q1; exact absurd q1 (by decide)
    rw [if_neg n0, if_neg n1]
    exact ⟨-1, rfl, rfl⟩
end PB8
