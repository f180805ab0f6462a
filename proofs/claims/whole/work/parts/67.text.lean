/-! a whole text is read -/
/-- what a text that is right comes to on both sides -/
def TxO (len : Nat) (p μ p' μ' : Mem) (its nn W : Nat) (nd : Nat → Nat) : Prop :=
  0 < its ∧ its ≤ 24 ∧ nn ≤ 2 * its ∧ nd 0 = 1 ∧ NR nd (SvR μ') 0 its 1 nn ∧ (∀ x, x < its → SI p' nd (SvR μ') x) ∧ SvR μ' 0 0 = 0 ∧ SvR μ' 0 5 = 1 ∧ SvR μ' 0 6 = -1 ∧ SvR μ' 0 8 = -1 ∧
  (∀ f, its ≤ f → Ch p' nd (SvR μ') f 0 0 0 its ∧ WC p' f 0 its = W) ∧ W ≤ its ∧ p' 6 11 = nI its ∧ p' 6 12 = nI (sm its (fun x => if p' 7 x = 0 then 1 else 0)) ∧ (∃ dp : Nat, dp ≤ 4 ∧ p' 6 13 = nI dp ∧ μ' 0 17 = nI dp) ∧ p' 6 14 = nI len ∧ p' 6 15 = nI W ∧ (∀ x, x < 11 → p' 6 x = p 6 x) ∧ μ' 0 14 = nI nn ∧ μ' 0 15 = nI its
section PB3
variable {t r μ p : Mem} {len N D : Nat}
theorem text_sim (hN : 40 ≤ N) (hD : 5 ≤ D) (hl : len ≤ 80) (h9 : μ 0 9 = nI len) (ht : ∀ k, k < 80 → μ 8 k = t 2 k ∧ ∃ b : Nat, b < 128 ∧ t 2 k = nI b) :
    ∃ (c : Int32) (r' p' μ' : Mem) (b : Bool) (a : Nat), re_read N D t (nI len) r p = some (c, r', p') ∧ md_readsBody N (kn_mread N D) (-1) (-1) (up (up (up (up (up (up μ 0 12 0) 0 13 1) 0 14 0) 0 15 0) 0 16 0) 0 17 0) = some (b, μ') ∧ r' 0 5 = nI a ∧ a ≤ 80 ∧ μ' 0 12 = nI a ∧ μ' 0 9 = nI len ∧
      (∀ x, x < 11 → p' 6 x = p 6 x) ∧ (∀ k, k ≠ 0 → k ≠ 1 → μ' k = μ k) ∧ (∀ k, ¬ (12 ≤ k ∧ k ≤ 18) → μ' 0 k = μ 0 k) ∧ (∀ x, x < 9216 → μ' 1 x = μ 1 x) ∧
      ((c = 0 ∧ b = true ∧ μ' 0 12 = μ' 0 9 ∧ ∃ its nn W nd, TxO len p μ p' μ' its nn W nd) ∨ ((c = 1 ∨ c = 2) ∧ μ' 0 13 = c ∧ (b = true → μ' 0 12 ≠ μ' 0 9))) := by
  obtain ⟨μ0, hμ0⟩ : ∃ μ0, μ0 = up (up (up (up (up (up μ 0 12 0) 0 13 1) 0 14 0) 0 15 0) 0 16 0) 0 17 0 := ⟨_, rfl⟩
  have m0c : ∀ c, c ≠ 0 → μ0 c = μ c := fun c hc => by rw [hμ0, up_row hc, up_row hc, up_row hc, up_row hc, up_row hc, up_row hc]
  have m0k : ∀ k, ¬ (12 ≤ k ∧ k ≤ 17) → μ0 0 k = μ 0 k := fun k hk => by rw [hμ0, up_in (by omega), up_in (by omega), up_in (by omega), up_in (by omega), up_in (by omega), up_in (by omega)]
  have m12 : μ0 0 12 = 0 := by rw [hμ0, up_in (by omega), up_in (by omega), up_in (by omega), up_in (by omega), up_in (by omega), up_at]
  have m13 : μ0 0 13 = 1 := by rw [hμ0, up_in (by omega), up_in (by omega), up_in (by omega), up_in (by omega), up_at]
  have m14 : μ0 0 14 = 0 := by rw [hμ0, up_in (by omega), up_in (by omega), up_in (by omega), up_at]
  have m15 : μ0 0 15 = 0 := by rw [hμ0, up_in (by omega), up_in (by omega), up_at]
  have m16 : μ0 0 16 = 0 := by rw [hμ0, up_in (by omega), up_at]
  have m17 : μ0 0 17 = 0 := by rw [hμ0, up_at]
  rw [← hμ0]
  obtain ⟨p0, hp0⟩ : ∃ p0, p0 = up (up (up (up p 6 11 0) 6 12 0) 6 13 0) 6 14 (nI len) := ⟨_, rfl⟩
  obtain ⟨r0, hr0⟩ : ∃ r0, r0 = up (up (up r 0 2 (nI len)) 0 4 0) 0 5 0 := ⟨_, rfl⟩
  have h80 : (if (80 : Int32) < nI len then 80 else nI len) = nI len := if_neg (nI_nlt (a := 80) (by omega) (by decide))
  have hX : re_read N D t (nI len) r p = (re_readBody N t (kn_rread N t D) (nI 0) r0 p0).bind fun z => if z.2.1 0 5 < z.2.1 0 2 then (re_fail 1 z.2.1).bind fun r66 => some (r66 0 4, r66, up z.2.2 6 15 z.1) else some (z.2.1 0 4, z.2.1, up z.2.2 6 15 z.1) := by
    unfold re_read ve_clear
    rw [h80, Option.bind_some, hp0, hr0, show nI 0 = (0 : Int32) from rfl]
  rw [hX]
  have q6 : ∀ x, x ≠ 11 → x ≠ 12 → x ≠ 13 → x ≠ 14 → p0 6 x = p 6 x := fun x x1 x2 x3 x4 => by rw [hp0, up_in x4, up_in x3, up_in x2, up_in x1]
  have p614 : p0 6 14 = nI len := by rw [hp0, up_at]
  have hPS : PS t r0 p0 μ0 0 0 0 0 len := by
    refine ⟨⟨?_, by rw [hr0, up_at]; rfl, by rw [hr0, up_in (by omega), up_at], m12, by rw [m0k 9 (by omega)]; exact h9, Nat.zero_le _, hl, m13, ?_⟩, by rw [hp0, up_in (by omega), up_in (by omega), up_in (by omega), up_at]; rfl, by omega, m15, m14, m16, ⟨0, by omega, by rw [hp0, up_in (by omega), up_at]; rfl, m17⟩, by rw [hp0, up_in (by omega), up_in (by omega), up_at]; rfl⟩
    · rw [hr0, up_in (by omega), up_in (by omega), up_at]
    · rw [m0c 8 (by decide)]; exact ht
  have hbs := body_sim (t := t) (len := len) (N := N) (d := 0) (B := kn_rread N t D) (Bm := kn_mread N D) hN (fun _ => ⟨read_all hN 3 1 D D (by omega) (by omega) (by omega), knot_dead (by omega) (by omega)⟩) (by omega) 0 0 0 (fun _ => 0) r0 p0 μ0 (-1) (-1) hPS (by omega) (Or.inl rfl) (Or.inl rfl)
  have hlk : lkM (-1) (-1) 0 μ0 = μ0 := by unfold lkM; rw [if_pos (by decide), if_pos (by decide)]
  rw [hlk] at hbs
  rcases hbs with ⟨r', p', μ', be, nn', a', W, nd', z1, z2, z3, z4, z5, z6, z7, z8, z9, z10, z11, z12, z13, z14, z15, z16, z17, z18⟩ | ⟨k, r', p', μ', z1, z2, z3⟩
  · have z1' : re_readBody N t (kn_rread N t D) (nI 0) r0 p0 = some (nI W, r', p') := z1
    have z2' : md_readsBody N (kn_mread N D) (-1) (-1) μ0 = some (true, μ') := z2
    rw [z1', z2', Option.bind_some]
    dsimp only
    obtain ⟨g1, g2, g3, g4, g5, g6, g7, g8⟩ := z3
    have fr1 : ∀ k, k ≠ 0 → k ≠ 1 → μ' k = μ k := fun k k0 k1 => by rw [z7.1 k k0 k1, m0c k k0]
    have fr2 : ∀ k, ¬ (12 ≤ k ∧ k ≤ 18) → μ' 0 k = μ 0 k := fun k hk => by rw [z7.2.1 k hk, m0k k (by omega)]
    have fr3 : ∀ x, x < 9216 → μ' 1 x = μ 1 x := fun x hx => by rw [z7.2.2 x (by omega), m0c 1 (by decide)]
    have fr4 : ∀ x, x < 11 → up p' 6 15 (nI W) 6 x = p 6 x := fun x hx => by rw [up_in (by omega), z6.2.2 x (by omega), q6 x (by omega) (by omega) (by omega) (by omega)]
    by_cases q : a' < len
    · rw [if_pos (show r' 0 5 < r' 0 2 from by rw [g1.2.1, g1.1]; exact nI_lt q (by omega))]
      unfold re_fail
      rw [if_pos g1.2.2.1, Option.bind_some, up_at]
      refine ⟨1, _, _, μ', true, a', rfl, rfl, by rw [up_in (by omega)]; exact g1.2.1, by omega, g1.2.2.2.1, g1.2.2.2.2.1, fr4, fr1, fr2, fr3, Or.inr ⟨Or.inl rfl, g1.2.2.2.2.2.2.2.1, fun _ e => ?_⟩⟩
      rw [g1.2.2.2.1, g1.2.2.2.2.1] at e
      have := nI_inj (a := a') (b := len) (by omega) (by omega) e
      omega
    · have he : a' = len := by have := g1.2.2.2.2.2.1; omega
      rw [if_neg (show ¬ r' 0 5 < r' 0 2 from by rw [g1.2.1, g1.1]; exact nI_nlt (by omega) (by omega)), g1.2.2.1]
      have hr : ∀ c x, c ≠ 6 → up p' 6 15 (nI W) c x = p' c x := fun c x hc => up_cell hc
      refine ⟨0, r', _, μ', true, a', rfl, rfl, g1.2.1, by omega, g1.2.2.2.1, g1.2.2.2.2.1, fr4, fr1, fr2, fr3, Or.inl ⟨rfl, rfl, by rw [g1.2.2.2.1, g1.2.2.2.2.1, he], be, nn', W, nd', z4, g3, z5, z9, z10, fun x hx => (z11 x (Nat.zero_le _) hx).ext rfl (fun c c1 c2 => hr c x (by omega)) (fun _ _ => rfl), z12, z13, z14, z15, fun f hf => ?_, by omega, by rw [up_in (by omega)]; exact g2, ?_, ?_, ?_, up_at, fr4, g5, g4⟩⟩
      · obtain ⟨c1, c2⟩ := z16 f (by omega)
        have hPE : PE p' (up p' 6 15 (nI W)) 0 be := fun x _ _ => ⟨hr 7 x (by omega), hr 13 x (by omega), hr 14 x (by omega), fun v _ => hr 15 _ (by omega)⟩
        exact ⟨Ch.ext _ _ _ _ _ c1 g3 hPE (fun x _ _ => ⟨rfl, fun _ _ => rfl, fun _ _ _ => rfl⟩), by rw [(WC.ext _ _ _ _ _ c1 g3 hPE).1]; exact c2⟩
      · rw [up_in (by omega), g8]
        congr 1
      · rw [up_in (by omega)]; exact g7
      · rw [up_in (by omega), z6.2.2 14 (by omega)]; exact p614
  · have z1' : re_readBody N t (kn_rread N t D) (nI 0) r0 p0 = some (k, r', p') := z1
    have z2' : md_readsBody N (kn_mread N D) (-1) (-1) μ0 = some (false, μ') := z2
    rw [z1', z2', Option.bind_some]
    dsimp only
    obtain ⟨⟨b1, b2, ⟨a', b3, b4, b5⟩, b6, b7⟩, c1, c2, c3, c4⟩ := z3
    have hc : (if r' 0 5 < r' 0 2 then (re_fail 1 r').bind fun r66 => some (r66 0 4, r66, up p' 6 15 k) else some (r' 0 4, r', up p' 6 15 k)) = some (r' 0 4, r', up p' 6 15 k) := by
      by_cases q : r' 0 5 < r' 0 2
      · rw [if_pos q, fail_dead (by rcases b1 with w | w <;> rw [w] <;> decide), Option.bind_some]
      · rw [if_neg q]
    rw [hc]
    exact ⟨_, r', _, μ', false, a', rfl, rfl, b4, by omega, b5, b7, fun x hx => by rw [up_in (by omega), c1 x (by omega), q6 x (by omega) (by omega) (by omega) (by omega)], fun k k0 k1 => by rw [c2 k k0 k1, m0c k k0], fun k hk => by rw [c3 k hk, m0k k (by omega)], fun x hx => by rw [c4 x hx, m0c 1 (by decide)], Or.inr ⟨b1, b2, fun e => Bool.noConfusion e⟩⟩
end PB3
