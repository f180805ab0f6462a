/-! the snapshot and the forecast -/
section PE3
variable {N D T rl : Nat} {x w e μ μ' w1 e1 w2 e2 : Mem} {I H I1 H1 I2 H2 : Fam} {pl pl1 pl2 : Nat → Nat} {vs : Fam}
theorem image_call (hN : 10000 ≤ N) (h : SR x w e I H pl vs w1 e1 I1 H1 pl1 μ) : ∃ a x' w1' e1' I1' H1' pl1' μ', xe_image N 200 x w e I H pl vs w1 e1 I1 H1 pl1 = some (a, x', w1', e1', I1', H1', pl1') ∧ md_image N μ = some (a, μ') ∧ SR x' w e I H pl vs w1' e1' I1' H1' pl1' μ' := by
  obtain ⟨h1, h2, h3⟩ := h
  have hI := h2.2.2.2.2.2
  obtain ⟨w', e', I', H', pl', c1, c2⟩ := wcopy_ev (N := N) (rl := 200) (rl2 := 200) (w2 := w) (e2 := e) (I2 := I) (H2 := H) (pl2 := pl) (w := w1) (e := e1) (I := I1) (H := H1) (pl := pl1) (by omega) (Or.inr rfl) rfl (fun j hj => (hI j hj).ent)
  obtain ⟨ca, a1, a2, a3⟩ := mcopy_ev (N := N) (K := 7593) (f := μ 5) (g := μ 6) (by decide) (by omega)
  obtain ⟨cb, b1, b2, b3⟩ := mcopy_ev (N := N) (K := 9792) (f := μ 1) (g := μ 2) (by decide) (by omega)
  obtain ⟨cc, d1, d2, d3⟩ := mcopy_ev (N := N) (K := 68) (f := μ 3) (g := μ 4) (by decide) (by omega)
  have a1' : md_copies N 7593 7593 7593 (mem2 (μ 5) (μ 6)) = some ca := a1
  have b1' : md_copies N 9792 9792 9792 (mem2 (μ 1) (μ 2)) = some cb := b1
  have d1' : md_copies N 68 68 68 (mem2 (μ 3) (μ 4)) = some cc := d1
  obtain ⟨μI, hμ⟩ : ∃ m, m = up (up (up (upA (upA (upA (upA (upA (upA μ 5 (ca 0)) 6 (ca 1)) 1 (cb 0)) 2 (cb 1)) 3 (cc 0)) 4 (cc 1)) 0 19 (μ 0 10)) 0 20 (μ 0 11)) 0 7 1 := ⟨_, rfl⟩
  have m5 : μI 5 = μ 5 := by rw [hμ, up_row (by decide), up_row (by decide), up_row (by decide), upA_row (by decide), upA_row (by decide), upA_row (by decide), upA_row (by decide), upA_row (by decide), upA_at, a2]
  have m6 : μI 6 = ca 1 := by rw [hμ, up_row (by decide), up_row (by decide), up_row (by decide), upA_row (by decide), upA_row (by decide), upA_row (by decide), upA_row (by decide), upA_at]
  have m1 : μI 1 = μ 1 := by rw [hμ, up_row (by decide), up_row (by decide), up_row (by decide), upA_row (by decide), upA_row (by decide), upA_row (by decide), upA_at, b2]
  have m2 : μI 2 = cb 1 := by rw [hμ, up_row (by decide), up_row (by decide), up_row (by decide), upA_row (by decide), upA_row (by decide), upA_at]
  have m3 : μI 3 = μ 3 := by rw [hμ, up_row (by decide), up_row (by decide), up_row (by decide), upA_row (by decide), upA_at, d2]
  have m4 : μI 4 = cc 1 := by rw [hμ, up_row (by decide), up_row (by decide), up_row (by decide), upA_at]
  have m8 : μI 8 = μ 8 := by rw [hμ, up_row (by decide), up_row (by decide), up_row (by decide), upA_row (by decide), upA_row (by decide), upA_row (by decide), upA_row (by decide), upA_row (by decide), upA_row (by decide)]
  have m0 : ∀ k, k ≠ 19 → k ≠ 20 → k ≠ 7 → μI 0 k = μ 0 k := fun k k1 k2 k3 => by rw [hμ, up_in k3, up_in k2, up_in k1, upA_row (by decide), upA_row (by decide), upA_row (by decide), upA_row (by decide), upA_row (by decide), upA_row (by decide)]
  have m19 : μI 0 19 = μ 0 10 := by rw [hμ, up_in (by omega), up_in (by omega), up_at]
  have m20 : μI 0 20 = μ 0 11 := by rw [hμ, up_in (by omega), up_at]
  have m7 : μI 0 7 = 1 := by rw [hμ, up_at]
  have hWI : WR 99999 200 w e I H pl vs μI := h2.ext CpW.refl (fun k _ => by rw [m5]) (fun k _ => by rw [m1]) (fun k _ => by rw [m3]) (m0 10 (by omega) (by omega) (by omega)) (m0 11 (by omega) (by omega) (by omega))
  have hI' := hWI.2.2.2.2.2
  unfold xe_image md_image
  rw [c1, a1', b1', d1', started_ev (by omega) hI' h2.2.2.2.2.1]
  simp only [Option.bind_some]
  rw [← hμ, inst_ev (by omega) hI', Option.bind_some]
  refine ⟨_, _, _, _, _, _, _, _, rfl, rfl, ?_, hWI, Or.inr ⟨?_, by rw [m7]; decide, h2.ext c2 (fun k hk => ?_) (fun k hk => ?_) (fun k hk => ?_) ?_ ?_, fun wf hwf => ?_⟩⟩
  · obtain ⟨len, l1, l2, l3, l4⟩ := h1
    exact ⟨len, l1, by rw [up_in (by omega)]; exact l2, by rw [m0 9 (by omega) (by omega) (by omega)]; exact l3, fun k hk => by rw [m8, up_cell (show (1 : Nat) ≠ 0 by decide)]; exact l4 k hk⟩
  · rw [up_at]; decide
  · rw [kv5, m6, a3 k hk]
  · rw [kv1, m2, b3 k (by omega)]
  · rw [kv3, m4, d3 k (by omega)]
  · rw [kv10, m19]
  · rw [kv11, m20]
  · obtain ⟨v, v1, v2, _⟩ := h2.2.2.2.1 wf hwf
    exact ⟨v, v, v1, Nat.le_refl _, v2, by rw [c2.2.2.2.2.1 wf hwf]; exact v2⟩
theorem undo_call (hN : 10000 ≤ N) (h : SR x w e I H pl vs w1 e1 I1 H1 pl1 μ) : ∃ a w' e' I' H' pl' μ', xe_undo N 200 x w e I H pl vs w1 e1 I1 H1 pl1 = some (a, w', e', I', H', pl') ∧ md_undo N μ = some (a, μ') ∧ SR x w' e' I' H' pl' vs w1 e1 I1 H1 pl1 μ' := by
  have hh := h
  obtain ⟨h1, h2, h3⟩ := h
  unfold xe_undo md_undo
  rcases h3 with ⟨z1, z2⟩ | ⟨z1, z2, z3, z4⟩
  · rw [if_pos z1, if_pos z2]
    exact ⟨_, _, _, _, _, _, _, rfl, rfl, hh⟩
  · have hI := z3.2.2.2.2.2
    obtain ⟨w', e', I', H', pl', c1, c2⟩ := wcopy_ev (N := N) (rl := 200) (rl2 := 200) (w2 := w1) (e2 := e1) (I2 := I1) (H2 := H1) (pl2 := pl1) (w := w) (e := e) (I := I) (H := H) (pl := pl) (by omega) (Or.inr rfl) rfl (fun j hj => (hI j hj).ent)
    obtain ⟨ca, a1, a2, a3⟩ := mcopy_ev (N := N) (K := 7593) (f := μ 6) (g := μ 5) (by decide) (by omega)
    obtain ⟨cb, b1, b2, b3⟩ := mcopy_ev (N := N) (K := 9792) (f := μ 2) (g := μ 1) (by decide) (by omega)
    obtain ⟨cc, d1, d2, d3⟩ := mcopy_ev (N := N) (K := 68) (f := μ 4) (g := μ 3) (by decide) (by omega)
    have a1' : md_copies N 7593 7593 7593 (mem2 (μ 6) (μ 5)) = some ca := a1
    have b1' : md_copies N 9792 9792 9792 (mem2 (μ 2) (μ 1)) = some cb := b1
    have d1' : md_copies N 68 68 68 (mem2 (μ 4) (μ 3)) = some cc := d1
    obtain ⟨μI, hμ⟩ : ∃ m, m = up (up (upA (upA (upA (upA (upA (upA μ 6 (ca 0)) 5 (ca 1)) 2 (cb 0)) 1 (cb 1)) 4 (cc 0)) 3 (cc 1)) 0 10 (μ 0 19)) 0 11 (μ 0 20) := ⟨_, rfl⟩
    have m6 : μI 6 = μ 6 := by rw [hμ, up_row (by decide), up_row (by decide), upA_row (by decide), upA_row (by decide), upA_row (by decide), upA_row (by decide), upA_row (by decide), upA_at, a2]
    have m5 : μI 5 = ca 1 := by rw [hμ, up_row (by decide), up_row (by decide), upA_row (by decide), upA_row (by decide), upA_row (by decide), upA_row (by decide), upA_at]
    have m2 : μI 2 = μ 2 := by rw [hμ, up_row (by decide), up_row (by decide), upA_row (by decide), upA_row (by decide), upA_row (by decide), upA_at, b2]
    have m1 : μI 1 = cb 1 := by rw [hμ, up_row (by decide), up_row (by decide), upA_row (by decide), upA_row (by decide), upA_at]
    have m4 : μI 4 = μ 4 := by rw [hμ, up_row (by decide), up_row (by decide), upA_row (by decide), upA_at, d2]
    have m3 : μI 3 = cc 1 := by rw [hμ, up_row (by decide), up_row (by decide), upA_at]
    have m8 : μI 8 = μ 8 := by rw [hμ, up_row (by decide), up_row (by decide), upA_row (by decide), upA_row (by decide), upA_row (by decide), upA_row (by decide), upA_row (by decide), upA_row (by decide)]
    have m0 : ∀ k, k ≠ 10 → k ≠ 11 → μI 0 k = μ 0 k := fun k k1 k2 => by rw [hμ, up_in k2, up_in k1, upA_row (by decide), upA_row (by decide), upA_row (by decide), upA_row (by decide), upA_row (by decide), upA_row (by decide)]
    have m10 : μI 0 10 = μ 0 19 := by rw [hμ, up_in (by omega), up_at]
    have m11 : μI 0 11 = μ 0 20 := by rw [hμ, up_at]
    have hWI : WR 99999 200 w' e' I' H' pl' vs μI := z3.ext c2 (fun k hk => by rw [kv5, m5, a3 k hk]) (fun k hk => by rw [kv1, m1, b3 k (by omega)]) (fun k hk => by rw [kv3, m3, d3 k (by omega)]) (by rw [kv10, m10]) (by rw [kv11, m11])
    have hI' := hWI.2.2.2.2.2
    rw [if_neg z1, if_neg z2, c1, a1', b1', d1']
    simp only [Option.bind_some]
    rw [← hμ, started_ev (by omega) hI' hWI.2.2.2.2.1, inst_ev (by omega) hI', Option.bind_some, Option.bind_some]
    refine ⟨_, _, _, _, _, _, _, rfl, rfl, h1.same (m0 9 (by omega) (by omega)) m8, hWI, Or.inr ⟨z1, by rw [m0 7 (by omega) (by omega)]; exact z2, z3.kv (fun k _ => by rw [m6]) (fun k _ => by rw [m2]) (fun k _ => by rw [m4]) (m0 19 (by omega) (by omega)) (m0 20 (by omega) (by omega)), fun wf hwf => ?_⟩⟩
    obtain ⟨v, v1, k1, k2, k3, k4⟩ := z4 wf hwf
    exact ⟨v1, v1, by omega, Nat.le_refl _, by rw [c2.2.2.2.2.1 wf hwf]; exact k4, k4⟩
theorem ahead_call (hN : 10000 ≤ N) (hD : 16 ≤ D) (y1 y2 : Int32) (h : SR x w e I H pl vs w1 e1 I1 H1 pl1 μ) : ∃ a w2' e2' I2' H2' pl2' μ', xe_ahead N D 200 y1 y2 w e I H pl vs w2 e2 I2 H2 pl2 = some (a, w2', e2', I2', H2', pl2') ∧ md_ahead N D y1 y2 μ = some (a, μ') ∧ SR x w e I H pl vs w1 e1 I1 H1 pl1 μ' := by
  have hh := h
  obtain ⟨h1, h2, h3⟩ := h
  have hI := h2.2.2.2.2.2
  unfold xe_ahead md_ahead
  rcases find_sim hI y1 with ⟨f1, f2⟩ | ⟨j, hj, rfl, f1, f2, f3, f4⟩
  · rw [f1, f2, Option.bind_some, Option.bind_some, if_neg (show ¬ (false = true) by decide)]
    exact ⟨_, _, _, _, _, _, _, rfl, rfl, hh⟩
  · rw [f1, f2, Option.bind_some, Option.bind_some, if_pos rfl]
    dsimp only
    rw [ins6 hj, Option.bind_some, if_pos rfl]
    rcases arg200 y2 with z | z | ⟨q, q1, q2, rfl, q3, q4⟩
    · rw [if_pos z, isIn_lo z, Option.bind_some, if_neg (show ¬ (false = true) by decide)]
      exact ⟨_, _, _, _, _, _, _, rfl, rfl, hh⟩
    · rw [isIn_hi z, Option.bind_some, if_neg (show ¬ (false = true) by decide)]
      by_cases z2 : y2 < 1
      · rw [if_pos z2]
        exact ⟨_, _, _, _, _, _, _, rfl, rfl, hh⟩
      · rw [if_neg z2, if_pos z]
        exact ⟨_, _, _, _, _, _, _, rfl, rfl, hh⟩
    · rw [if_neg q3, if_neg q4, show md_isIn (nI q) 1 200 = some true from isIn_nI (b := 1) (c := 200) q1 q2 (by decide), Option.bind_some, if_pos rfl]
      obtain ⟨w', e', I', H', pl', c1, c2⟩ := wcopy_ev (N := N) (rl := 0) (rl2 := 200) (w2 := w) (e2 := e) (I2 := I) (H2 := H) (pl2 := pl) (w := w2) (e := e2) (I := I2) (H := H2) (pl := pl2) (by omega) (Or.inl rfl) rfl (fun j hj => (hI j hj).ent)
      obtain ⟨ca, a1, a2, a3⟩ := mcopy_ev (N := N) (K := 7593) (f := μ 5) (g := μ 7) (by decide) (by omega)
      have a1' : md_copies N 7593 7593 7593 (mem2 (μ 5) (μ 7)) = some ca := a1
      obtain ⟨μa, hμ⟩ : ∃ m, m = upA (upA μ 5 (ca 0)) 7 (ca 1) := ⟨_, rfl⟩
      have m5 : μa 5 = μ 5 := by rw [hμ, upA_row (by decide), upA_at, a2]
      have m7 : μa 7 = ca 1 := by rw [hμ, upA_at]
      have mr : ∀ r, r ≠ 5 → r ≠ 7 → μa r = μ r := fun r r5 r7 => by rw [hμ, upA_row r7, upA_row r5]
      have hWa : WR 99999 0 w' e' I' H' pl' vs μa := h2.ext c2 (fun k _ => by rw [m5]) (fun k _ => by rw [mr 1 (by decide) (by decide)]) (fun k _ => by rw [mr 3 (by decide) (by decide)]) (by rw [mr 0 (by decide) (by decide)]) (by rw [mr 0 (by decide) (by decide)])
      obtain ⟨g1, ⟨t, g2, g3⟩, _, _, gv, g4⟩ := hWa
      obtain ⟨e3, I3, H3, μ3, k1, k2, k3, k4, k5, k6, k7, k8, k9⟩ := pass_loop (q := q) (rl := 0) (pl := pl') (vs := vs) (w := w') (N := N) (D := D) (by omega) hD (by omega) q 0 N N t e' I' H' μa (by omega) (by omega) (by omega) g1 g3 (by omega) g4
      have k1' : wo_letPass N D 0 pl' vs (nI q) e' I' H' = some (e3, I3, H3) := k1
      have k3' := k3 (nI j)
      have k3'' : md_ahead_40 N D N (nI j) (nI q) 0 μa = _ := k3'
      obtain ⟨cb, b1, b2, b3⟩ := mcopy_ev (N := N) (K := 7593) (f := μ3 7) (g := μ3 5) (by decide) (by omega)
      have b1' : md_copies N 7593 7593 7593 (mem2 (μ3 7) (μ3 5)) = some cb := b1
      have hlive : Gm μ3 j 0 = 1 := (k9 j hj).trans (by rw [show Gm μa j 0 = μa 5 (21 + 1262 * j + 0) from rfl, m5]; exact f3)
      have hst : I3 j 0 3 = Gm μ3 j 1 := by
        rcases (k5 j hj).short gv with ⟨_, z2⟩ | ⟨_, z2, _⟩
        · exact absurd (hlive.symm.trans z2) (by decide)
        · exact z2
      rw [c1, a1']
      simp only [Option.bind_some]
      rw [k1', ← hμ, k3'', of_1, b1']
      simp only [Option.bind_some]
      rw [rx_nI hj (by decide), Option.bind_some, rd_nI (by omega) (by decide), Option.bind_some, hst]
      obtain ⟨μF, hF⟩ : ∃ m, m = upA (upA μ3 7 (cb 0)) 5 (cb 1) := ⟨_, rfl⟩
      have F5 : ∀ k, k < 7593 → μF 5 k = μ 5 k := fun k hk => by rw [hF, upA_at, b3 k hk, k7 7 (by decide), m7, a3 k hk]
      have Fr' : ∀ r, r ≠ 5 → r ≠ 7 → μF r = μ r := fun r r5 r7 => by rw [hF, upA_row r5, upA_row r7, k7 r r5, mr r r5 r7]
      refine ⟨_, _, _, _, _, _, _, rfl, rfl, ?_⟩
      rw [← hF]
      have F0 := Fr' 0 (by decide) (by decide)
      refine ⟨h1.same (by rw [F0]) (Fr' 8 (by decide) (by decide)), h2.ext CpW.refl F5 (fun k _ => by rw [Fr' 1 (by decide) (by decide)]) (fun k _ => by rw [Fr' 3 (by decide) (by decide)]) (by rw [F0]) (by rw [F0]), ?_⟩
      rcases h3 with ⟨a, b⟩ | ⟨a, b, c, d⟩
      · exact Or.inl ⟨a, by rw [F0]; exact b⟩
      · exact Or.inr ⟨a, by rw [F0]; exact b, c.kv (fun k _ => by rw [Fr' 6 (by decide) (by decide)]) (fun k _ => by rw [Fr' 2 (by decide) (by decide)]) (fun k _ => by rw [Fr' 4 (by decide) (by decide)]) (by rw [F0]) (by rw [F0]), d⟩
end PE3
