/-! a body is read; all bodies at all depths -/
section PB2
variable {t r μ p : Mem} {a len N d : Nat} {B : Int32 → Mem → Mem → Option (Int32 × Mem × Mem)} {Bm : Int32 → Int32 → Mem → Option (Bool × Mem)}
theorem body_dead {y : Int32} (hN : 1 ≤ N) (h : r 0 4 ≠ 0) : re_readBody N t B y r p = some (0, r, p) := by
  obtain ⟨n, rfl⟩ : ∃ x, N = x + 1 := ⟨N - 1, by omega⟩
  obtain ⟨s, hs⟩ := sign_some (t := t) (r := r)
  have hk : ∃ k, re_kindOf s = some k := by
    rcases kinds s with ⟨_, k1, _⟩ | ⟨_, k1, _⟩ | ⟨_, k1, _⟩ | ⟨_, k1, _⟩ | ⟨_, k1, _⟩ | ⟨_, k1, _⟩ | ⟨k1, _⟩
    · exact ⟨_, k1⟩
    · exact ⟨_, k1⟩
    · exact ⟨_, k1⟩
    · exact ⟨_, k1⟩
    · exact ⟨_, k1⟩
    · exact ⟨_, k1⟩
    · exact ⟨_, k1⟩
  obtain ⟨k, hk⟩ := hk
  have hi : re_readItem (n + 1) t B y r p = some (-1, r, p) := by
    unfold re_readItem
    rw [hs, Option.bind_some, hk, Option.bind_some, if_neg h]
    unfold re_readItem_19
    rw [fail_dead h, Option.bind_some]
  unfold re_readBody re_readBody_10
  rw [if_neg (by decide), if_pos rfl, hi, Option.bind_some]
  dsimp only
  rw [ins24m, Option.bind_some, if_neg (by decide)]
theorem body_sim (hN : 40 ≤ N) (hB : d < 4 → BSim t len (d + 1) B Bm ∧ BDead B) (hd : d ≤ 4) : BSim t len d (fun x r p => re_readBody N t B x r p) (fun x y μ => md_readsBody N Bm x y μ) := by
  intro its nn a nd r p μ ar x2 hPS hnn hx2 har
  have hits : its ≤ 24 := hPS.2.2.1
  obtain ⟨μm, y1, y2, y3, y4, y5, y6, y7, y8, y9⟩ := makes_ev (N := N) (y1 := 0) (y2 := ar) (μ := μ) (n := nn) (by omega) (by omega) hPS.2.2.2.2.1
  show BdO d ar its nn len nd t r p μ (lkM ar x2 nn μ) (re_readBody N t B (nI d) r p) (md_readsBody N Bm ar x2 μ)
  -- what stands when the body has been linked
  have hlink : ∃ μk, md_readsBody N Bm ar x2 μ = md_readsBody_36 N Bm N (nI nn) (-1) μk ∧ (∀ c, c ≠ 1 → μk c = μm c) ∧ (∀ v, v < 9 → SvR μk nn v = SvR μm nn v) ∧ (∀ x, x < (1024 + nn) * 9 → μk 1 x = (lkM ar x2 nn μ) 1 x) ∧ (∀ c, c ≠ 1 → (lkM ar x2 nn μ) c = μ c) := by
    unfold md_readsBody
    rw [y1, Option.bind_some]
    dsimp only
    have hm : ∀ x, x < (1024 + nn) * 9 → μm 1 x = μ 1 x := fun x hx => y5 x (by omega)
    rcases hx2 with q | ⟨b, hb, q⟩
    · subst q
      rw [if_pos (show (-1 : Int32) < 0 by decide)]
      rcases har with q | ⟨g, hg, q⟩
      · subst q
        rw [if_pos (show (-1 : Int32) < 0 by decide), show lkM (-1) (-1) nn μ = μ from by unfold lkM; rw [if_pos (by decide), if_pos (by decide)]]
        exact ⟨μm, rfl, fun _ _ => rfl, fun _ _ => rfl, hm, fun _ _ => rfl⟩
      · subst q
        rw [if_neg (show ¬ nI g < 0 from nI_pos (by omega)), show (5 : Int32) = nI 5 from rfl, put_ev (by omega) (by decide), Option.bind_some, show lkM (nI g) (-1) nn μ = up μ 1 ((1024 + g) * 9 + 5) (nI nn) from by unfold lkM; rw [if_pos (by decide), if_neg (nI_pos (by omega)), nI_clamp (by omega)]]
        refine ⟨_, rfl, fun c hc => up_row hc, fun v hv => by show up _ _ _ _ _ _ = _; rw [up_in (by omega)], fun x hx => ?_, fun c hc => up_row hc⟩
        by_cases q : x = (1024 + g) * 9 + 5
        · rw [q, up_at, up_at]
        · rw [up_in q, up_in q]; exact hm x hx
    · subst q
      rw [if_neg (show ¬ nI b < 0 from nI_pos (by omega)), show (6 : Int32) = nI 6 from rfl, put_ev (by omega) (by decide), Option.bind_some, show lkM ar (nI b) nn μ = up μ 1 ((1024 + b) * 9 + 6) (nI nn) from by unfold lkM; rw [if_neg (nI_pos (by omega)), nI_clamp (by omega)]]
      refine ⟨_, rfl, fun c hc => up_row hc, fun v hv => by show up _ _ _ _ _ _ = _; rw [up_in (by omega)], fun x hx => ?_, fun c hc => up_row hc⟩
      by_cases q : x = (1024 + b) * 9 + 6
      · rw [q, up_at, up_at]
      · rw [up_in q, up_in q]; exact hm x hx
  obtain ⟨μk, k1, k2, k3, k4, k5⟩ := hlink
  rw [k1]
  unfold re_readBody
  have e0 : ∀ k, k ≠ 14 → μk 0 k = μ 0 k := fun k hk => by rw [k2 0 (by decide), y3 k hk]
  have hPS2 : PS t r p μk its (nn + 1) d a len := by
    obtain ⟨g1, g2, g3, g4, g5, g6, g7, g8⟩ := hPS
    exact ⟨⟨g1.1, g1.2.1, g1.2.2.1, by rw [e0 12 (by omega)]; exact g1.2.2.2.1, by rw [e0 9 (by omega)]; exact g1.2.2.2.2.1, g1.2.2.2.2.2.1, g1.2.2.2.2.2.2.1, by rw [e0 13 (by omega)]; exact g1.2.2.2.2.2.2.2.1, by rw [k2 8 (by decide), y2 8 (by decide) (by decide)]; exact g1.2.2.2.2.2.2.2.2⟩, g2, g3, by rw [e0 15 (by omega)]; exact g4, by rw [k2 0 (by decide)]; exact y4, by rw [e0 16 (by omega)]; exact g6, by rw [e0 17 (by omega)]; exact g7, g8⟩
  have hc := chain_sim (N := N) (by omega) hB hd (24 - its) its N N 0 (nn + 1) a nn 0 nd r p μk (-1) (-1) (by omega) (by omega) (by omega) (by omega) hPS2 (by omega) (by omega) (by omega) (Or.inl ⟨rfl, rfl⟩)
  have hc2 : ChO d nn its (nn + 1) len 0 nd t r p μk p (up μk 1 ((1024 + nn) * 9 + 5) (nI (nn + 1))) (re_readBody_10 N t B N (nI d) 0 (-1) true 0 r p) (md_readsBody_36 N Bm N (nI nn) (-1) μk) := by
    have e1 : plk p (-1) its = p := if_pos (by decide)
    have e2 : mlk μk nn (-1) (nn + 1) = up μk 1 ((1024 + nn) * 9 + 5) (nI (nn + 1)) := if_pos (by decide)
    rw [e1, e2] at hc
    exact hc
  rcases hc2 with ⟨r', p', μ', be, nn', a', W, nd', z1, z2, z3, z4, z5, z6, z7, z8, z9, z10, z11, z12, z13, z14⟩ | ⟨k, r', p', μ', z1, z2, z3⟩
  · have sv : ∀ v, v < 9 → v ≠ 5 → SvR μ' nn v = SvR μm nn v := fun v v1 v2 => by
      rw [← k3 v v1]
      show μ' 1 _ = μk 1 _
      rw [z7.2.2 _ (by omega), up_in (by omega)]
    refine Or.inl ⟨r', p', μ', be, nn', a', W, nd', by rw [z1, Nat.max_eq_right (by omega)], z2, z3, z4, z5, z6, ⟨fun c c0 c1 => ?_, fun k hk => ?_, fun x hx => ?_⟩, z8, z9, z10, z11, ?_, ?_, ?_, ?_, z12, z13, z14⟩
    · rw [z7.1 c c0 c1, up_row c1, k2 c c1, y2 c c0 c1, k5 c c1]
    · rw [z7.2.1 k hk, up_cell (by decide), e0 k (by omega), k5 0 (by decide)]
    · rw [z7.2.2 x (by omega), up_in (by omega)]; exact k4 x hx
    · rw [sv 0 (by decide) (by decide)]; exact y6
    · show μ' 1 _ = _
      rw [z7.2.2 _ (by omega), up_at]
    · rw [sv 6 (by decide) (by decide)]; exact y9 6 (by decide) (by decide) (by decide) (by decide)
    · rw [sv 8 (by decide) (by decide)]; exact y8
  · refine Or.inr ⟨k, r', p', μ', z1, z2, z3.1, z3.2.1, fun c c0 c1 => ?_, fun x hx => ?_, fun x hx => ?_⟩
    · rw [z3.2.2.1 c c0 c1, k2 c c1, y2 c c0 c1]
    · rw [z3.2.2.2.1 x hx, e0 x (by omega)]
    · rw [z3.2.2.2.2 x hx, k4 x (by omega)]
      unfold lkM
      by_cases q : x2 < 0
      · rw [if_pos q]
        by_cases q2 : ar < 0
        · rw [if_pos q2]
        · rw [if_neg q2, up_in (by omega)]
      · rw [if_neg q, up_in (by omega)]
theorem knot_dead {n : Nat} (hN : 1 ≤ N) (hn : 1 ≤ n) : BDead (kn_rread N t n) := by
  obtain ⟨n, rfl⟩ : ∃ x, n = x + 1 := ⟨n - 1, by omega⟩
  intro x r p h
  exact body_dead hN h
theorem read_all (hN : 40 ≤ N) : ∀ (e d n m : Nat), d + e = 4 → e < n → e < m → BSim t len d (kn_rread N t n) (kn_mread N m)
  | 0, d, n, m, hd, hn, hm => by
    obtain ⟨n, rfl⟩ : ∃ x, n = x + 1 := ⟨n - 1, by omega⟩
    obtain ⟨m, rfl⟩ : ∃ x, m = x + 1 := ⟨m - 1, by omega⟩
    exact body_sim (B := kn_rread N t n) (Bm := kn_mread N m) hN (fun h => absurd h (by omega)) (by omega)
  | e + 1, d, n, m, hd, hn, hm => by
    obtain ⟨n, rfl⟩ : ∃ x, n = x + 1 := ⟨n - 1, by omega⟩
    obtain ⟨m, rfl⟩ : ∃ x, m = x + 1 := ⟨m - 1, by omega⟩
    exact body_sim (B := kn_rread N t n) (Bm := kn_mread N m) hN (fun _ => ⟨read_all hN e (d + 1) n m (by omega) (by omega) (by omega), knot_dead (by omega) (by omega)⟩) (by omega)
end PB2
