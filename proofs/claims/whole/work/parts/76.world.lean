/-! the world on both sides -/
section PD2
variable {N D T rl : Nat} {x w e μ e' μ' o' h' : Mem} {I H : Fam} {pl : Nat → Nat} {vs : Fam} {st : Prop}
def VsR (vs : Fam) : Prop := ∀ k, k < 17 → ∃ a b : Nat, a < 4 ∧ b < 4 ∧ vs k 6 0 = nI a ∧ vs k 6 1 = nI b ∧ (k < 16 → k = 4 * a + b)
def WR (T rl : Nat) (w e : Mem) (I H : Fam) (pl : Nat → Nat) (vs : Fam) (μ : Mem) : Prop :=
  EnvR e μ ∧ (∃ t : Nat, t ≤ T ∧ e 1 2 = nI t) ∧ WroR w μ ∧ (∀ wf, wf < 4 → VwR vs w μ wf) ∧ VsR vs ∧ ∀ j, j < 6 → IW True rl j (pl j) vs (I j) (H j) e μ w
theorem gd_pos {α : Type} {P : Prop} [Decidable P] {K : Option α} (h : P) : gd P K = K := if_pos h
theorem beq_no {j k : Nat} (h : k ≠ j) : Nat.beq k j = false := by
  cases hc : Nat.beq k j with
  | false => rfl
  | true => exact absurd (Nat.eq_of_beq_eq_true hc) h
theorem upF_at {F : Fam} {j : Nat} {m : Mem} : upF F j m j = m := by unfold upF; rw [Nat.beq_refl]; rfl
theorem upF_ne {F : Fam} {j k : Nat} {m : Mem} (h : k ≠ j) : upF F j m k = F k := by unfold upF; rw [beq_no h]; rfl
theorem upN_at {f : Nat → Nat} {j v : Nat} : upN f j v j = v := by unfold upN; rw [Nat.beq_refl]; rfl
theorem upN_ne {f : Nat → Nat} {j k v : Nat} (h : k ≠ j) : upN f j v k = f k := by unfold upN; rw [beq_no h]; rfl
theorem upF_self {F : Fam} {j : Nat} : upF F j (F j) = F := by
  funext k
  by_cases q : k = j
  · subst q; exact upF_at
  · exact upF_ne q
theorem upN_self {f : Nat → Nat} {j : Nat} : upN f j (f j) = f := by
  funext k
  by_cases q : k = j
  · subst q; exact upN_at
  · exact upN_ne q
theorem IW.live {j pv : Nat} {o h : Mem} (H : IW st rl j pv vs o h e μ w) : (o 0 3 = -1 ∧ Gm μ j 0 = 0) ∨ (o 0 3 ≠ -1 ∧ Gm μ j 0 = 1) := by
  rcases H.2 with ⟨z1, z2, _⟩ | ⟨a1, _, _, nd, sv, its, _, c2, _⟩
  · exact Or.inl ⟨z1, z2⟩
  · refine Or.inr ⟨fun q => ?_, a1⟩
    have := c2.st
    rw [q] at this
    revert this; decide
theorem find_sim (h : ∀ j, j < 6 → IW st rl j (pl j) vs (I j) (H j) e μ w) (y : Int32) : (xe_find I y = some none ∧ md_isInstance μ y = some false) ∨ ∃ j : Nat, j < 6 ∧ y = nI j ∧ xe_find I y = some (some j) ∧ md_isInstance μ y = some true ∧ Gm μ j 0 = 1 ∧ I j 0 3 ≠ -1 := by
  unfold xe_find md_isInstance
  rcases arg_cases (n := 6) (by decide) (by decide) y with ⟨j, hj, rfl⟩ | ⟨q1, q2⟩
  · rw [ins6 hj, Option.bind_some, if_pos rfl, rx_nI hj (by decide), Option.bind_some, show md_isIn (nI j) 0 5 = some true from isIn_nI (b := 0) (c := 5) (Nat.zero_le _) (by omega) (by decide), Option.bind_some, if_pos rfl, of_0, Option.bind_some, rd_nI (by omega) (by decide), Option.bind_some]
    rcases (h j hj).live with ⟨z1, z2⟩ | ⟨z1, z2⟩
    · refine Or.inl ⟨if_pos z1, ?_⟩
      rw [show μ 5 (21 + 1262 * j + 0) = 0 from z2, if_neg (by decide)]
    · exact Or.inr ⟨j, hj, rfl, if_neg z1, if_pos z2, z2, z1⟩
  · have q1' : xs_isInside y 6 = some false := q1
    have q2' : md_isIn y 0 5 = some false := q2
    rw [q1', q2', Option.bind_some, Option.bind_some, if_neg (show ¬ (false = true) by decide), if_neg (show ¬ (false = true) by decide)]
    exact Or.inl ⟨rfl, rfl⟩
theorem ended_f {o : Mem} (h : o 0 3 = 0 ∨ o 0 3 = 2 ∨ o 0 3 = -1) : in_hasEnded o = some false := by
  unfold in_hasEnded
  rcases h with z | z | z <;> rw [z] <;> rfl
theorem ended_t {o : Mem} (h : o 0 3 = 1 ∨ o 0 3 = 3 ∨ o 0 3 = 4) : in_hasEnded o = some true := by
  unfold in_hasEnded
  rcases h with z | z | z <;> rw [z] <;> rfl
/-- one instance changes -/
theorem WR.one {j pv : Nat} (h : WR T rl w e I H pl vs μ) (hj : j < 6) (hE : EnvR e' μ') (he : e' 1 2 = e 1 2) (hr : ∀ c, c ≠ 5 → μ' c = μ c) (hk : ∀ k, (k < 9 ∨ 17 ≤ k) → ¬ (21 + 1262 * j ≤ k ∧ k < 21 + 1262 * j + 1262) → μ' 5 k = μ 5 k) (hnew : IW True rl j pv vs o' h' e' μ' w) : WR T rl w e' (upF I j o') (upF H j h') (upN pl j pv) vs μ' := by
  obtain ⟨h1, ⟨t, h2, h3⟩, h4, h5, h6, h7⟩ := h
  refine ⟨hE, ⟨t, h2, by rw [he]; exact h3⟩, ?_, fun wf hwf => ?_, h6, fun k hk6 => ?_⟩
  · unfold WroR
    rw [hr 0 (by decide)]
    exact h4
  · obtain ⟨v, v1, v2, v3, v4⟩ := h5 wf hwf
    refine ⟨v, v1, v2, by rw [hk _ (by omega) (by omega)]; exact v3, fun k hkv => ?_⟩
    obtain ⟨nd, sv, its, hV⟩ := v4 k hkv
    exact ⟨nd, sv, its, hV.ext (fun _ _ _ => by rw [hr 1 (by decide)]) (fun _ _ _ => by rw [hr 3 (by decide)])⟩
  · by_cases q : k = j
    · subst q
      rw [upF_at, upF_at, upN_at]
      exact hnew
    · rw [upF_ne q, upF_ne q, upN_ne q]
      refine (h7 k hk6).ext hk6 (fun z => z) SmO.refl SmH.refl hE (fun _ => he) (fun t0 ht0 e0 => ⟨t0, Nat.le_refl _, ht0, by rw [he]; exact e0⟩) (fun x x1 x2 => hk x (by omega) ?_) (fun wf ve v _ _ _ _ hw => ⟨rfl, ⟨v, by omega, by omega, hw⟩, fun _ _ _ => by rw [hr 1 (by decide)], fun _ _ _ => by rw [hr 3 (by decide)]⟩)
      rcases Nat.lt_or_gt_of_ne q with z | z <;> omega
theorem remove_sim (y : Int32) (h : WR T rl w e I H pl vs μ) : ∃ a I' μ', xe_remove pl y I = some (a, I') ∧ md_remove y μ = some (a, μ') ∧ WR T rl w e I' H pl vs μ' ∧ (∀ c, c ≠ 5 → μ' c = μ c) := by
  have hI := h.2.2.2.2.2
  unfold xe_remove md_remove
  rcases find_sim hI y with ⟨f1, f2⟩ | ⟨j, hj, rfl, f1, f2, f3, f4⟩
  · rw [f1, f2, Option.bind_some, Option.bind_some, if_neg (by decide)]
    exact ⟨_, _, _, rfl, rfl, h, fun _ _ => rfl⟩
  · rw [f1, f2, Option.bind_some, Option.bind_some, if_pos rfl]
    dsimp only
    obtain ⟨p17, hl⟩ := hI j hj
    rcases hl with ⟨z, _⟩ | ⟨g0, tm, hvv, nd, sv, its, hV, hL, hs⟩
    · exact absurd z f4
    rw [gd_pos hj, gd_pos p17, of_1, Option.bind_some, rd_nI (by omega) (by decide), Option.bind_some, show μ 5 (21 + 1262 * j + 1) = I j 0 3 from hL.2.1]
    have hend : ∀ z : I j 0 3 = 1 ∨ I j 0 3 = 3 ∨ I j 0 3 = 4, ∃ a I' μ', ((in_hasEnded (I j)).bind fun k13 => if k13 = true then (some (I j 0 3, upF I j (up (I j) 0 3 ((-1))))) else (some ((-3), I))) = some (a, I') ∧ (if I j 0 3 = 0 then (some ((-3), μ)) else (if I j 0 3 = 2 then (some ((-3), μ)) else ((md_of (nI j) 0).bind fun k39 => ck 7593 k39 <| some (I j 0 3, up μ 5 k39.toNatClampNeg 0)))) = some (a, μ') ∧ WR T rl w e I' H pl vs μ' ∧ (∀ c, c ≠ 5 → μ' c = μ c) := fun z => by
      have n0 : ¬ I j 0 3 = 0 := by rcases z with q | q | q <;> rw [q] <;> decide
      have n2 : ¬ I j 0 3 = 2 := by rcases z with q | q | q <;> rw [q] <;> decide
      rw [ended_t z, Option.bind_some, if_pos rfl, if_neg n0, if_neg n2, of_0, Option.bind_some, ck_nI (by omega) (by decide), nI_clamp (by omega)]
      refine ⟨_, _, _, rfl, rfl, ?_, fun c hc => up_row hc⟩
      obtain ⟨E, E1, E2⟩ := hL.1.2.2.2.1
      have hE4 : E < 4000 := by unfold Pot at E2; omega
      have := h.one (pv := pl j) (h' := H j) (o' := up (I j) 0 3 (-1)) (μ' := up μ 5 (21 + 1262 * j + 0) 0) hj (h.1.fr (fun k hk => up_in (by omega))) rfl (fun c hc => up_row hc) (fun k _ k2 => up_in (by omega)) ⟨p17, Or.inl ⟨up_at, up_at, E, hE4, E1.2.1⟩⟩
      rw [upF_self, upN_self] at this
      exact this
    rcases hL.st with z | z | z
    · rw [ended_f (Or.inl z), Option.bind_some, if_neg (by decide), if_pos z]
      exact ⟨_, _, _, rfl, rfl, h, fun _ _ => rfl⟩
    · rw [ended_f (Or.inr (Or.inl z)), Option.bind_some, if_neg (by decide), if_neg (by rw [z]; decide), if_pos z]
      exact ⟨_, _, _, rfl, rfl, h, fun _ _ => rfl⟩
    · exact hend z
end PD2
