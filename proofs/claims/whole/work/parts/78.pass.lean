/-! time passes -/
section PD4
variable {N D T rl : Nat} {x w e μ e' μ' o' h' : Mem} {I H : Fam} {pl : Nat → Nat} {vs : Fam} {st : Prop}
theorem LkR.set {p o h : Mem} {nd : Nat → Nat} {sv : Nat → Nat → Int32} {i V its F : Nat} (H : LkR p nd sv i V its rl F o h e μ) (h0 : o 0 3 ≠ 0) (h2 : o 0 3 ≠ 2) : SetR p e o its := by
  obtain ⟨_, _, _, _, G⟩ := H
  rcases G with ⟨z, _⟩ | ⟨z, _⟩ | ⟨_, z, _⟩
  · exact absurd z h0
  · exact absurd z h2
  · exact ⟨fun j hj hg => absurd hg (z j (Nat.zero_le _) hj), fun q => absurd q h2⟩
theorem looks_loop (hN : 100 ≤ N) (hD : 16 ≤ D) : ∀ (s k n m : Nat) (e : Mem) (I H : Fam) (μ : Mem), k + s = 6 → s < n → s < m → EnvR e μ → (∀ j, j < 6 → IW (j < k) rl j (pl j) vs (I j) (H j) e μ w) →
    ∃ e' I' H' μ', (∀ K2 y1 y2, wo_letPass_22 N D rl pl vs K2 n y1 y2 (nI k) e I H = K2 y1 (y2 + 1) e' I' H') ∧ md_passes_12 N D m (nI k) μ = some μ' ∧ EnvR e' μ' ∧ (∀ j, j < 6 → IW True rl j (pl j) vs (I' j) (H' j) e' μ' w) ∧ (∀ r, r ≠ 3 → e' r = e r) ∧ (∀ r, r ≠ 5 → μ' r = μ r) ∧ (∀ k, (k < 9 ∨ 17 ≤ k) → k < 21 → μ' 5 k = μ 5 k) ∧ ∀ j, j < 6 → Gm μ' j 0 = Gm μ j 0
  | 0, k, n, m, e, I, H, μ, hk, hn, hm, hE, hI => by
    obtain ⟨n, rfl⟩ : ∃ x, n = x + 1 := ⟨n - 1, by omega⟩
    obtain ⟨m, rfl⟩ : ∃ x, m = x + 1 := ⟨m - 1, by omega⟩
    have hk6 : k = 6 := by omega
    subst hk6
    refine ⟨e, I, H, μ, fun K2 y1 y2 => ?_, ?_, hE, fun j hj => ?_, fun _ _ => rfl, fun _ _ => rfl, fun _ _ _ => rfl, fun _ _ => rfl⟩
    · unfold wo_letPass_22
      rw [if_neg (show ¬ nI 6 < 6 by decide)]
    · unfold md_passes_12
      rw [if_neg (show ¬ nI 6 < 6 by decide)]
    · exact (hI j hj).ext hj (fun _ => hj) SmO.refl SmH.refl hE (fun _ => rfl) (fun t0 ht0 e0 => ⟨t0, Nat.le_refl _, ht0, e0⟩) (fun _ _ _ => rfl) (fun wf ve v _ _ _ _ hw => ⟨rfl, ⟨v, by omega, by omega, hw⟩, fun _ _ _ => rfl, fun _ _ _ => rfl⟩)
  | s + 1, k, n, m, e, I, H, μ, hk, hn, hm, hE, hI => by
    obtain ⟨n, rfl⟩ : ∃ x, n = x + 1 := ⟨n - 1, by omega⟩
    obtain ⟨m, rfl⟩ : ∃ x, m = x + 1 := ⟨m - 1, by omega⟩
    have hk6 : k < 6 := by omega
    obtain ⟨p17, hl⟩ := hI k hk6
    have eM : md_passes_12 N D (m + 1) (nI k) μ = if Gm μ k 0 = 1 then (md_looksAt N D (nI k) μ).bind fun μ34 => md_passes_12 N D m (nI (k + 1)) μ34 else md_passes_12 N D m (nI (k + 1)) μ := by
      conv => lhs; unfold md_passes_12
      rw [if_pos (show nI k < 6 from nI_lt (b := 6) (by omega) (by decide)), of_0, Option.bind_some, rd_nI (by omega) (by decide), Option.bind_some, nI_1]
    have eX : ∀ K2 y1 y2, wo_letPass_22 N D rl pl vs K2 (n + 1) y1 y2 (nI k) e I H = (in_look N D rl (vs (pl k)) (I k) (H k) e).bind fun (o34, h34, e34) => wo_letPass_22 N D rl pl vs K2 n y1 y2 (nI (k + 1)) e34 (upF I k o34) (upF H k h34) := fun K2 y1 y2 => by
      conv => lhs; unfold wo_letPass_22
      rw [if_pos (show nI k < 6 from nI_lt (b := 6) (by omega) (by decide)), rx_nI hk6 (by decide), Option.bind_some, gd_pos p17, nI_1]
    have hstep : ∀ (e1 : Mem) (I1 H1 : Fam) (μ1 : Mem), (in_look N D rl (vs (pl k)) (I k) (H k) e = some (I1 k, H1 k, e1)) → (if Gm μ k 0 = 1 then md_looksAt N D (nI k) μ else some μ) = some μ1 → (I1 = upF I k (I1 k)) → (H1 = upF H k (H1 k)) → EnvR e1 μ1 → (∀ r, r ≠ 3 → e1 r = e r) → (∀ r, r ≠ 5 → μ1 r = μ r) → (∀ x, (x < 9 ∨ 17 ≤ x) → ¬ (21 + 1262 * k ≤ x ∧ x < 21 + 1262 * k + 1262) → μ1 5 x = μ 5 x) → Gm μ1 k 0 = Gm μ k 0 → IW True rl k (pl k) vs (I1 k) (H1 k) e1 μ1 w → ∃ e' I' H' μ', (∀ K2 y1 y2, wo_letPass_22 N D rl pl vs K2 (n + 1) y1 y2 (nI k) e I H = K2 y1 (y2 + 1) e' I' H') ∧ md_passes_12 N D (m + 1) (nI k) μ = some μ' ∧ EnvR e' μ' ∧ (∀ j, j < 6 → IW True rl j (pl j) vs (I' j) (H' j) e' μ' w) ∧ (∀ r, r ≠ 3 → e' r = e r) ∧ (∀ r, r ≠ 5 → μ' r = μ r) ∧ (∀ k, (k < 9 ∨ 17 ≤ k) → k < 21 → μ' 5 k = μ 5 k) ∧ ∀ j, j < 6 → Gm μ' j 0 = Gm μ j 0 := fun e1 I1 H1 μ1 a1 a2 a3 a4 a5 a6 a7 a8 a8b a9 => by
      obtain ⟨e', I', H', μ', b1, b2, b3, b4, b5, b6, b7, b8⟩ := looks_loop hN hD s (k + 1) n m e1 I1 H1 μ1 (by omega) (by omega) (by omega) a5 (fun j hj => by
        by_cases q : j = k
        · subst q
          exact a9.ext hj (fun _ => trivial) SmO.refl SmH.refl a5 (fun _ => rfl) (fun t0 ht0 e0 => ⟨t0, Nat.le_refl _, ht0, e0⟩) (fun _ _ _ => rfl) (fun wf ve v _ _ _ _ hw => ⟨rfl, ⟨v, by omega, by omega, hw⟩, fun _ _ _ => rfl, fun _ _ _ => rfl⟩)
        · rw [a3, a4, upF_ne q, upF_ne q]
          have he : e1 1 2 = e 1 2 := by rw [a6 1 (by decide)]
          refine (hI j hj).ext hj (fun z => by omega) SmO.refl SmH.refl a5 (fun _ => he) (fun t0 ht0 e0 => ⟨t0, Nat.le_refl _, ht0, by rw [he]; exact e0⟩) (fun x x1 x2 => a8 x (by omega) ?_) (fun wf ve v _ _ _ _ hw => ⟨rfl, ⟨v, by omega, by omega, hw⟩, fun _ _ _ => by rw [a7 1 (by decide)], fun _ _ _ => by rw [a7 3 (by decide)]⟩)
          rcases Nat.lt_or_gt_of_ne q with z | z <;> omega)
      refine ⟨e', I', H', μ', fun K2 y1 y2 => ?_, ?_, b3, b4, fun r hr => (b5 r hr).trans (a6 r hr), fun r hr => (b6 r hr).trans (a7 r hr), fun x x1 x2 => (b7 x x1 x2).trans (a8 x x1 (by omega)), fun j hj => (b8 j hj).trans ?_⟩
      · rw [eX, a1, Option.bind_some]
        dsimp only
        rw [← a3, ← a4]
        exact b1 K2 y1 y2
      · rw [eM]
        by_cases q : Gm μ k 0 = 1
        · rw [if_pos q] at a2
          rw [if_pos q, a2, Option.bind_some]; exact b2
        · rw [if_neg q] at a2
          rw [if_neg q, Option.some.inj a2]; exact b2
      · by_cases q : j = k
        · subst q; exact a8b
        · refine a8 _ (by omega) ?_
          rcases Nat.lt_or_gt_of_ne q with z | z <;> omega
    rcases hl with ⟨z1, z2, zE⟩ | ⟨g0, tm, hvv, nd, sv, its, hV, hL, hs⟩
    · exact hstep e I H μ (look_free z1) (by rw [if_neg (show ¬ Gm μ k 0 = 1 by rw [z2]; decide)]) upF_self.symm upF_self.symm hE (fun _ _ => rfl) (fun _ _ => rfl) (fun _ _ _ => rfl) rfl ⟨p17, Or.inl ⟨z1, z2, zE⟩⟩
    · obtain ⟨o', h', e1, μ1, x1, x2, x3, x4, x5, x6⟩ := look_sim hk6 hV.1 hN hD (hV.2.1 its (Nat.le_refl _)) hL
      have hset : SetR (vs (pl k)) e1 o' its := by
        by_cases q : I k 0 3 = 0 ∨ I k 0 3 = 2
        · exact x4 q
        · have hoo := x5 ⟨fun z => q (Or.inl z), fun z => q (Or.inr z)⟩
          exact x3.set (by rw [hoo]; exact fun z => q (Or.inl z)) (by rw [hoo]; exact fun z => q (Or.inr z))
      have hr := x6.2.2.1
      have hk' := x6.2.2.2
      refine hstep e1 (upF I k o') (upF H k h') μ1 (by rw [upF_at, upF_at]; exact x1) (by rw [if_pos g0]; exact x2) (by rw [upF_at]) (by rw [upF_at]) x3.1.2.1 x6.2.1 hr (fun x q1 q2 => hk' x q1 (by omega) (by omega) (by omega)) (hk' (21 + 1262 * k + 0) (by omega) (by omega) (by omega) (by omega)) ?_
      rw [upF_at, upF_at]
      exact ⟨p17, Or.inr ⟨(hk' (21 + 1262 * k + 0) (by omega) (by omega) (by omega) (by omega)).trans g0, tm.look x6, hvv, nd, sv, its, hV.ext (fun _ _ _ => by rw [hr 1 (by decide)]) (fun _ _ _ => by rw [hr 3 (by decide)]), x3, fun _ => hset⟩⟩
theorem minute_sim {t : Nat} (hN : 100 ≤ N) (hD : 16 ≤ D) (hE : EnvR e μ) (ht : e 1 2 = nI t) (htt : t + 1 < 131072) (hI : ∀ j, j < 6 → IW True rl j (pl j) vs (I j) (H j) e μ w) :
    ∃ e' I' H' μ', (∀ K2 y1 y2, wo_letPass_22 N D rl pl vs K2 N y1 y2 0 (up e 1 2 ((e 1 2) + 1)) I H = K2 y1 (y2 + 1) e' I' H') ∧ md_passes N D μ = some μ' ∧ EnvR e' μ' ∧ (∀ j, j < 6 → IW True rl j (pl j) vs (I' j) (H' j) e' μ' w) ∧ e' 1 2 = nI (t + 1) ∧ (∀ r, r ≠ 5 → μ' r = μ r) ∧ (∀ k, 17 ≤ k → k < 21 → μ' 5 k = μ 5 k) ∧ ∀ j, j < 6 → Gm μ' j 0 = Gm μ j 0 := by
  have e1 : e 1 2 + 1 = nI (t + 1) := by rw [ht, nI_1]
  have e2 : μ 5 0 = nI t := hE.1.trans ht
  have hE1 : EnvR (up e 1 2 (nI (t + 1))) (up μ 5 0 (nI (t + 1))) := by
    refine ⟨by rw [up_at, up_at], ⟨t + 1, up_at, htt⟩, fun c hc => ?_⟩
    rw [up_in (by omega), up_in (by omega), up_cell (show (2 : Nat) ≠ 1 by decide), up_cell (show (3 : Nat) ≠ 1 by decide)]
    exact hE.2.2 c hc
  obtain ⟨e', I', H', μ', b1, b2, b3, b4, b5, b6, b7, b8⟩ := looks_loop (rl := rl) (pl := pl) (vs := vs) (w := w) hN hD 6 0 N N (up e 1 2 (nI (t + 1))) I H (up μ 5 0 (nI (t + 1))) (by omega) (by omega) (by omega) hE1 (fun j hj => (hI j hj).ext hj (fun z => absurd z (by omega)) SmO.refl SmH.refl hE1 (fun z => absurd z (by omega)) (fun t0 ht0 e0 => by
      have := nI_inj (a := t) (b := t0) (by omega) (by omega) (ht.symm.trans e0)
      exact ⟨t + 1, by omega, htt, up_at⟩) (fun x x1 x2 => up_in (by omega)) (fun wf ve v _ _ _ _ hw => ⟨rfl, ⟨v, by omega, by omega, hw⟩, fun _ _ _ => up_other (by omega), fun _ _ _ => up_other (by omega)⟩))
  refine ⟨e', I', H', μ', fun K2 y1 y2 => ?_, ?_, b3, b4, ?_, fun r hr => (b6 r hr).trans (up_row hr), fun k k1 k2 => (b7 k (by omega) k2).trans (up_in (by omega)), fun j hj => (b8 j hj).trans (up_in (by omega))⟩
  · rw [e1]; exact b1 K2 y1 y2
  · unfold md_passes
    have c0 : (0 : Int32).toNatClampNeg = 0 := by decide
    rw [rd70, Option.bind_some, show (0 : Int32) = nI 0 from rfl, ck_nI (by omega) (by decide), nI_clamp (by omega), e2, nI_1]
    exact b2
  · rw [b5 1 (by decide), up_at]
theorem pass_loop {q : Nat} (hN : 100 ≤ N) (hD : 16 ≤ D) (hq : q < 1000) : ∀ (s k n m t : Nat) (e : Mem) (I H : Fam) (μ : Mem), k + s = q → s < n → s < m → EnvR e μ → e 1 2 = nI t → t + s < 131072 → (∀ j, j < 6 → IW True rl j (pl j) vs (I j) (H j) e μ w) →
    ∃ e' I' H' μ', wo_letPass_2 N D rl pl vs n (nI q) (nI k) e I H = some (e', I', H') ∧ md_pass_32 N D m (nI q) (nI k) μ = some (μ' 5 0, μ') ∧ (∀ y, md_ahead_40 N D m y (nI q) (nI k) μ = ((md_of y 1).bind fun k61 => (rd 7593 (μ' 5) k61).bind fun v64 => (md_copies N 7593 7593 7593 (mem2 (μ' 7) (μ' 5))).bind fun c77 => some (v64, upA (upA μ' 7 (c77 0)) 5 (c77 1)))) ∧ EnvR e' μ' ∧ (∀ j, j < 6 → IW True rl j (pl j) vs (I' j) (H' j) e' μ' w) ∧ e' 1 2 = nI (t + s) ∧ (∀ r, r ≠ 5 → μ' r = μ r) ∧ (∀ k, 17 ≤ k → k < 21 → μ' 5 k = μ 5 k) ∧ ∀ j, j < 6 → Gm μ' j 0 = Gm μ j 0
  | 0, k, n, m, t, e, I, H, μ, hk, hn, hm, hE, ht, htt, hI => by
    obtain ⟨n, rfl⟩ : ∃ x, n = x + 1 := ⟨n - 1, by omega⟩
    obtain ⟨m, rfl⟩ : ∃ x, m = x + 1 := ⟨m - 1, by omega⟩
    have hlt : ¬ nI k < nI q := nI_nlt (by omega) (by omega)
    refine ⟨e, I, H, μ, ?_, ?_, fun y => ?_, hE, hI, ht, fun _ _ => rfl, fun _ _ _ => rfl, fun _ _ => rfl⟩
    · unfold wo_letPass_2
      rw [if_neg hlt]
    · unfold md_pass_32
      rw [if_neg hlt, rd70, Option.bind_some]
    · unfold md_ahead_40
      rw [if_neg hlt]
  | s + 1, k, n, m, t, e, I, H, μ, hk, hn, hm, hE, ht, htt, hI => by
    obtain ⟨n, rfl⟩ : ∃ x, n = x + 1 := ⟨n - 1, by omega⟩
    obtain ⟨m, rfl⟩ : ∃ x, m = x + 1 := ⟨m - 1, by omega⟩
    have hlt : nI k < nI q := nI_lt (by omega) (by omega)
    obtain ⟨e1, I1, H1, μ1, a1, a2, a3, a4, a5, a6, a7, a8⟩ := minute_sim (t := t) hN hD hE ht (by omega) hI
    obtain ⟨e', I', H', μ', b1, b2, b3, b4, b5, b6, b7, b8, b9⟩ := pass_loop hN hD hq s (k + 1) n m (t + 1) e1 I1 H1 μ1 (by omega) (by omega) (by omega) a3 a5 (by omega) a4
    refine ⟨e', I', H', μ', ?_, ?_, fun y => ?_, b4, b5, by rw [b6]; congr 1; omega, fun r hr => (b7 r hr).trans (a6 r hr), fun x x1 x2 => (b8 x x1 x2).trans (a7 x x1 x2), fun j hj => (b9 j hj).trans (a8 j hj)⟩
    · conv => lhs; unfold wo_letPass_2
      rw [if_pos hlt, a1, nI_1]
      exact b1
    · conv => lhs; unfold md_pass_32
      rw [if_pos hlt, a2, Option.bind_some, nI_1]
      exact b2
    · conv => lhs; unfold md_ahead_40
      rw [if_pos hlt, a2, Option.bind_some, nI_1]
      exact b3 y
theorem arg200 (y : Int32) : y < 1 ∨ 200 < y ∨ ∃ q : Nat, 1 ≤ q ∧ q ≤ 200 ∧ y = nI q ∧ ¬ y < 1 ∧ ¬ 200 < y := by
  by_cases a : y < 1
  · exact Or.inl a
  · by_cases b : 200 < y
    · exact Or.inr (Or.inl b)
    · obtain ⟨q, hq, rfl⟩ := nI_of (x := y) (fun z => a (by
        rw [Int32.lt_iff_toInt_lt] at z ⊢
        have z0 : (0 : Int32).toInt = 0 := by decide
        have z1 : (1 : Int32).toInt = 1 := by decide
        omega))
      refine Or.inr (Or.inr ⟨q, Nat.not_lt.mp fun z => a (nI_lt (b := 1) z (by decide)), Nat.not_lt.mp fun z => b (nI_lt (a := 200) z hq), rfl, a, b⟩)
theorem pass_call (hN : 1000 ≤ N) (hD : 16 ≤ D) (y : Int32) (h : WR 99999 rl w e I H pl vs μ) : ∃ a e' I' H' μ', xe_pass N D rl pl vs y e I H = some (a, e', I', H') ∧ md_pass N D y μ = some (a, μ') ∧ WR 99999 rl w e' I' H' pl vs μ' ∧ (∀ c, c ≠ 5 → μ' c = μ c) := by
  unfold xe_pass md_pass
  rcases arg200 y with z | z | ⟨q, q1, q2, rfl, q3, q4⟩
  · rw [if_pos z, isIn_lo z, Option.bind_some, if_neg (show ¬ (false = true) by decide)]
    exact ⟨_, _, _, _, _, rfl, rfl, h, fun _ _ => rfl⟩
  · rw [if_pos z, isIn_hi z, Option.bind_some, if_neg (show ¬ (false = true) by decide)]
    by_cases z2 : y < 1
    · rw [if_pos z2]
      exact ⟨_, _, _, _, _, rfl, rfl, h, fun _ _ => rfl⟩
    · rw [if_neg z2]
      exact ⟨_, _, _, _, _, rfl, rfl, h, fun _ _ => rfl⟩
  · obtain ⟨h1, ⟨t, h2, h3⟩, h4, h5, h6, h7⟩ := h
    have hin : md_isIn (nI q) 1 200 = some true := isIn_nI (b := 1) (c := 200) q1 q2 (by decide)
    rw [if_neg q3, if_neg q4, hin, Option.bind_some, if_pos rfl, rd70, Option.bind_some, h1.1, h3, nI_add]
    by_cases z : 99999 < t + q
    · have hz : (99999 : Int32) < nI (t + q) := nI_lt (a := 99999) z (by omega)
      rw [if_pos hz, if_pos hz]
      exact ⟨_, _, _, _, _, rfl, rfl, ⟨h1, ⟨t, h2, h3⟩, h4, h5, h6, h7⟩, fun _ _ => rfl⟩
    · have hz : ¬ (99999 : Int32) < nI (t + q) := nI_nlt (a := 99999) (b := t + q) (by omega) (by decide)
      obtain ⟨e', I', H', μ', b1, b2, b3, b4, b5, b6, b7, b8, _⟩ := pass_loop (q := q) (rl := rl) (pl := pl) (vs := vs) (w := w) (N := N) (D := D) (by omega) hD (by omega) q 0 N N t e I H μ (by omega) (by omega) (by omega) h1 h3 (by omega) h7
      have b1' : wo_letPass N D rl pl vs (nI q) e I H = some (e', I', H') := b1
      have b2' : md_pass_32 N D N (nI q) 0 μ = some (μ' 5 0, μ') := b2
      rw [if_neg hz, if_neg hz, b1', Option.bind_some, b2', b4.1]
      refine ⟨_, _, _, _, _, rfl, rfl, ⟨b4, ⟨t + q, by omega, b6⟩, ?_, fun wf hwf => ?_, h6, b5⟩, b7⟩
      · unfold WroR
        rw [b7 0 (by decide)]
        exact h4
      · obtain ⟨v, v1, v2, v3, v4⟩ := h5 wf hwf
        refine ⟨v, v1, v2, by rw [b8 _ (by omega) (by omega)]; exact v3, fun k hkv => ?_⟩
        obtain ⟨nd, sv, its, hV⟩ := v4 k hkv
        exact ⟨nd, sv, its, hV.ext (fun _ _ _ => by rw [b7 1 (by decide)]) (fun _ _ _ => by rw [b7 3 (by decide)])⟩
end PD4
