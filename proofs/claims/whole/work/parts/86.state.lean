/-! both sides at a whole: the tape, the present, the snapshot -/
section PE2
variable {N D T rl : Nat} {x w e μ μ' w1 e1 w2 e2 : Mem} {I H I1 H1 I2 H2 : Fam} {pl pl1 pl2 : Nat → Nat} {vs : Fam}
/-- the reference's snapshot, looked at as a present -/
def kv (μ : Mem) : Mem := fun c => if c = 5 then μ 6 else if c = 1 then μ 2 else if c = 3 then μ 4 else if c = 0 then (fun k => if k = 10 then μ 0 19 else if k = 11 then μ 0 20 else μ 0 k) else μ c
theorem kv5 : kv μ 5 = μ 6 := rfl
theorem kv1 : kv μ 1 = μ 2 := rfl
theorem kv3 : kv μ 3 = μ 4 := rfl
theorem kv10 : kv μ 0 10 = μ 0 19 := rfl
theorem kv11 : kv μ 0 11 = μ 0 20 := rfl
def SR (x w e : Mem) (I H : Fam) (pl : Nat → Nat) (vs : Fam) (w1 e1 : Mem) (I1 H1 : Fam) (pl1 : Nat → Nat) (μ : Mem) : Prop :=
  TapR x μ ∧ WR 99999 200 w e I H pl vs μ ∧ ((x 0 7 = 0 ∧ μ 0 7 = 0) ∨ (x 0 7 ≠ 0 ∧ μ 0 7 ≠ 0 ∧ WR 99999 200 w1 e1 I1 H1 pl1 vs (kv μ) ∧ ∀ wf, wf < 4 → ∃ v v1 : Nat, v ≤ 4 ∧ v1 ≤ v ∧ w 5 wf = nI v ∧ w1 5 wf = nI v1))
theorem WR.kv (h : WR T rl w e I H pl vs (kv μ)) (h6 : ∀ k, k < 7593 → μ' 6 k = μ 6 k) (h2 : ∀ k, k < 9216 → μ' 2 k = μ 2 k) (h4 : ∀ k, k < 64 → μ' 4 k = μ 4 k) (h19 : μ' 0 19 = μ 0 19) (h20 : μ' 0 20 = μ 0 20) : WR T rl w e I H pl vs (kv μ') :=
  h.ext CpW.refl (fun k hk => by rw [kv5, kv5]; exact h6 k hk) (fun k hk => by rw [kv1, kv1]; exact h2 k hk) (fun k hk => by rw [kv3, kv3]; exact h4 k hk) (by rw [kv10, kv10]; exact h19) (by rw [kv11, kv11]; exact h20)
theorem TapR.same (h : TapR x μ) (h9 : μ' 0 9 = μ 0 9) (h8 : μ' 8 = μ 8) : TapR x μ' := by
  obtain ⟨len, l1, l2, l3, l4⟩ := h
  exact ⟨len, l1, l2, by rw [h9]; exact l3, fun k hk => by rw [h8]; exact l4 k hk⟩
/-- a call that changes the present alone -/
theorem SR.row5 {e' : Mem} {I' H' : Fam} {pl' : Nat → Nat} (h : SR x w e I H pl vs w1 e1 I1 H1 pl1 μ) (hW : WR 99999 200 w e' I' H' pl' vs μ') (hr : ∀ c, c ≠ 5 → μ' c = μ c) : SR x w e' I' H' pl' vs w1 e1 I1 H1 pl1 μ' := by
  obtain ⟨h1, h2, h3⟩ := h
  have h0 := hr 0 (by decide)
  refine ⟨h1.same (by rw [h0]) (hr 8 (by decide)), hW, ?_⟩
  rcases h3 with ⟨a, b⟩ | ⟨a, b, c, d⟩
  · exact Or.inl ⟨a, by rw [h0]; exact b⟩
  · exact Or.inr ⟨a, by rw [h0]; exact b, c.kv (fun k _ => by rw [hr 6 (by decide)]) (fun k _ => by rw [hr 2 (by decide)]) (fun k _ => by rw [hr 4 (by decide)]) (by rw [h0]) (by rw [h0]), d⟩
theorem feed_call (y : Int32) (h : SR x w e I H pl vs w1 e1 I1 H1 pl1 μ) : ∃ a x' μ', xe_feed y x = some (a, x') ∧ md_feed y μ = some (a, μ') ∧ SR x' w e I H pl vs w1 e1 I1 H1 pl1 μ' := by
  obtain ⟨h1, h2, h3⟩ := h
  obtain ⟨a, x', μ', b1, b2, b3, b4, b5⟩ := feed_sim y h1
  have hr : ∀ c, c ≠ 8 → c ≠ 0 → ∀ k, μ' c k = μ c k := fun c c8 c0 k => b5 c k c8 (fun z => c0 z.1)
  refine ⟨a, x', μ', b1, b2, b3, h2.ext CpW.refl (fun k _ => hr 5 (by decide) (by decide) k) (fun k _ => hr 1 (by decide) (by decide) k) (fun k _ => hr 3 (by decide) (by decide) k) (b5 0 10 (by decide) (by decide)) (b5 0 11 (by decide) (by decide)), ?_⟩
  have e7 : x' 0 7 = x 0 7 := b4 0 7 (by decide) (by decide)
  have m7 : μ' 0 7 = μ 0 7 := b5 0 7 (by decide) (by decide)
  rw [e7, m7]
  rcases h3 with z | ⟨a, b, c, d⟩
  · exact Or.inl z
  · exact Or.inr ⟨a, b, c.kv (fun k _ => hr 6 (by decide) (by decide) k) (fun k _ => hr 2 (by decide) (by decide) k) (fun k _ => hr 4 (by decide) (by decide) k) (b5 0 19 (by decide) (by decide)) (b5 0 20 (by decide) (by decide)), d⟩
/-- a version that a world doesn't count is read anew -/
theorem WR.redef {w' p' : Mem} {n0 : Nat} (h : WR T rl w e I H pl vs μ) (hvs : ∀ wf k v : Nat, wf < 4 → k < v → v ≤ 4 → w 5 wf = nI v → 4 * wf + k ≠ n0) (hp0 : p' 6 0 = vs n0 6 0) (hp1 : p' 6 1 = vs n0 6 1) (hwro : WroR w' μ')
    (hw5 : ∀ wf, wf < 4 → (w' 5 wf = w 5 wf ∧ μ' 5 (17 + wf) = μ 5 (17 + wf)) ∨ ∃ (v : Nat) (nd : Nat → Nat) (sv : Nat → Nat → Int32) (its : Nat), v < 4 ∧ w 5 wf = nI v ∧ w' 5 wf = nI (v + 1) ∧ μ' 5 (17 + wf) = nI (v + 1) ∧ n0 = 4 * wf + v ∧ VerR p' μ' n0 nd sv its)
    (h5 : ∀ k, k < 7593 → ¬ (17 ≤ k ∧ k < 21) → μ' 5 k = μ 5 k) (h1 : ∀ y, y < 9216 → ¬ (576 * n0 ≤ y ∧ y < 576 * n0 + 576) → μ' 1 y = μ 1 y) (h3 : ∀ y, y < 64 → ¬ (4 * n0 ≤ y ∧ y < 4 * n0 + 4) → μ' 3 y = μ 3 y) : WR T rl w' e I H pl (upF vs n0 p') μ' := by
  obtain ⟨b1, b2, b3, b4, b5, b6⟩ := h
  have hE : EnvR e μ' := b1.fr (fun k hk => h5 k (by omega) (by omega))
  refine ⟨hE, b2, hwro, fun wf hwf => ?_, fun k hk => ?_, fun j hj => ?_⟩
  · obtain ⟨v, v1, v2, v3, v4⟩ := b4 wf hwf
    have old : ∀ k, k < v → ∃ nd sv its, VerR (upF vs n0 p' (4 * wf + k)) μ' (4 * wf + k) nd sv its := fun k hk => by
      obtain ⟨nd, sv, its, hV⟩ := v4 k hk
      have hne := hvs wf k v hwf hk v1 v2
      rw [upF_ne hne]
      exact ⟨nd, sv, its, hV.ext (fun y y1 y2 => h1 y (by omega) (by omega)) (fun y y1 y2 => h3 y (by omega) (by omega))⟩
    rcases hw5 wf hwf with ⟨z1, z2⟩ | ⟨v', nd, sv, its, z1, z2, z3, z4, z5, z6⟩
    · exact ⟨v, v1, by rw [z1]; exact v2, by rw [z2]; exact v3, old⟩
    · have hvv : v' = v := nI_inj (by omega) (by omega) (z2.symm.trans v2)
      subst hvv
      refine ⟨v' + 1, by omega, z3, z4, fun k hk => ?_⟩
      by_cases q : k = v'
      · subst q
        rw [← z5, upF_at]
        exact ⟨nd, sv, its, z6⟩
      · exact old k (by omega)
  · obtain ⟨a, b, c1, c2, c3, c4, c5⟩ := b5 k hk
    by_cases q : k = n0
    · subst q
      rw [upF_at, hp0, hp1]
      exact ⟨a, b, c1, c2, c3, c4, c5⟩
    · rw [upF_ne q]
      exact ⟨a, b, c1, c2, c3, c4, c5⟩
  · refine (b6 j hj).ext hj (fun z => z) SmO.refl SmH.refl hE (fun _ => rfl) (fun t0 ht0 e0 => ⟨t0, Nat.le_refl _, ht0, e0⟩) (fun k k1 k2 => h5 k (by omega) (by omega)) (fun wf ve v q1 q2 q3 q4 q5 => ?_)
    have hne := hvs wf ve v q2 q3 q4 q5
    refine ⟨upF_ne (by omega), ?_, fun y y1 y2 => h1 y (by omega) (by omega), fun y y1 y2 => h3 y (by omega) (by omega)⟩
    rcases hw5 wf q2 with ⟨z1, z2⟩ | ⟨v', nd, sv, its, z1, z2, z3, z4, z5, z6⟩
    · exact ⟨v, q4, q3, by rw [z1]; exact q5⟩
    · have hvv : v' = v := nI_inj (by omega) (by omega) (z2.symm.trans q5)
      subst hvv
      exact ⟨v' + 1, by omega, by omega, z3⟩
theorem define_call {tx tg : Nat} {r : Mem} (hN : 700 ≤ N) (hD : 5 ≤ D) (y : Int32) (h : SR x w e I H pl vs w1 e1 I1 H1 pl1 μ) : ∃ a x' tx' tg' r' w' vs' μ', xe_define N D y x tx tg r w vs = some (a, x', tx', tg', r', w', vs') ∧ md_define N D y μ = some (a, μ') ∧ SR x' w' e I H pl vs' w1 e1 I1 H1 pl1 μ' := by
  obtain ⟨⟨len, l1, l2, l3, l4⟩, h2, h3⟩ := h
  rcases arg_cases (n := 4) (by decide) (by decide) y with ⟨wf, hwf, rfl⟩ | ⟨q1, q2⟩
  · obtain ⟨v, v1, v2, v3, v4⟩ := h2.2.2.2.1 wf hwf
    by_cases qv : v = 4
    · subst qv
      obtain ⟨d1, d2⟩ := define_full (N := N) (D := D) (x := x) (tx := tx) (tg := tg) (r := r) (vs := vs) hwf v2 v3
      exact ⟨_, _, _, _, _, _, _, _, d1, d2, ⟨len, l1, l2, l3, l4⟩, h2, h3⟩
    · have hnc : ∀ wf' k v' : Nat, wf' < 4 → k < v' → v' ≤ 4 → w 5 wf' = nI v' → 4 * wf' + k ≠ 4 * wf + v := fun wf' k v' c1 c2 c3 c4 c5 => by
        have hw : wf' = wf := by omega
        subst hw
        have := nI_inj (by omega) (by omega) (v2.symm.trans c4)
        omega
      -- the snapshot
      have hkept : ∀ (x' w' p' μ' : Mem), x' 0 7 = x 0 7 → μ' 0 7 = μ 0 7 → (∀ k, k < 11 → p' 6 k = vs (4 * wf + v) 6 k) → (∀ wf', wf' < 4 → w' 5 wf' = w 5 wf' ∨ ∃ v' : Nat, v' < 4 ∧ w 5 wf' = nI v' ∧ w' 5 wf' = nI (v' + 1)) → DFr (4 * wf + v) μ μ' → ((x' 0 7 = 0 ∧ μ' 0 7 = 0) ∨ (x' 0 7 ≠ 0 ∧ μ' 0 7 ≠ 0 ∧ WR 99999 200 w1 e1 I1 H1 pl1 (upF vs (4 * wf + v) p') (kv μ') ∧ ∀ wf, wf < 4 → ∃ v v1 : Nat, v ≤ 4 ∧ v1 ≤ v ∧ w' 5 wf = nI v ∧ w1 5 wf = nI v1)) := fun x' w' p' μ' a1 a2 a3 a4 a5 => by
        rw [a1, a2]
        obtain ⟨f1, f2, f3, f4⟩ := a5
        rcases h3 with z | ⟨z1, z2, z3, z4⟩
        · exact Or.inl z
        · refine Or.inr ⟨z1, z2, z3.redef (fun wf' k v' c1 c2 c3 c4 c5 => ?_) (a3 0 (by omega)) (a3 1 (by omega)) ?_ (fun wf' hwf' => Or.inl ⟨rfl, ?_⟩) (fun k _ _ => ?_) (fun k _ _ => ?_) (fun k _ _ => ?_), fun wf' hwf' => ?_⟩
          · have hw : wf' = wf := by omega
            subst hw
            obtain ⟨u, u1, k1, k2, k3, k4⟩ := z4 wf' c1
            have e1 := nI_inj (by omega) (by omega) (v2.symm.trans k3)
            have e2 := nI_inj (by omega) (by omega) (c4.symm.trans k4)
            omega
          · have := z3.2.2.1
            unfold WroR at this ⊢
            rw [kv10, kv11, f2 19 (by omega), f2 20 (by omega)]
            rw [kv10, kv11] at this
            exact this
          · rw [kv5, kv5, f1 6 (by decide) (by decide) (by decide) (by decide)]
          · rw [kv5, kv5, f1 6 (by decide) (by decide) (by decide) (by decide)]
          · rw [kv1, kv1, f1 2 (by decide) (by decide) (by decide) (by decide)]
          · rw [kv3, kv3, f1 4 (by decide) (by decide) (by decide) (by decide)]
          · obtain ⟨u, u1, k1, k2, k3, k4⟩ := z4 wf' hwf'
            rcases a4 wf' hwf' with q | ⟨v', q1, q2, q3⟩
            · exact ⟨u, u1, k1, k2, by rw [q]; exact k3, k4⟩
            · have := nI_inj (by omega) (by omega) (q2.symm.trans k3)
              exact ⟨v' + 1, u1, by omega, by omega, q3, k4⟩
      rcases define_sim (N := N) (D := D) (tx := tx) (tg := tg) (r := r) (w := w) (vs := vs) hN hD hwf v2 v3 (show v < 4 by omega) l2 l1 l3 l4 with ⟨r', p', μ', nd, sv, its, a, d1, d2, d3, d4, d5, d6, d7, d8, d9⟩ | ⟨c, r', p', μ', a, d1, d2, d3, d4, d5, d6, d7, d8, d9, d10⟩
      · have hf := d9
        obtain ⟨f1, f2, f3, f4⟩ := d9
        refine ⟨_, _, _, _, _, _, _, _, d1, d2, ⟨0, by omega, up_at, d7, fun k hk => ?_⟩, ?_, ?_⟩
        · rw [up_cell (show (1 : Nat) ≠ 0 by decide), f1 8 (by decide) (by decide) (by decide) (by decide)]
          exact l4 k hk
        · refine h2.redef hnc (d4 0 (by omega)) (d4 1 (by omega)) (Or.inl ⟨?_, d8⟩) (fun wf' hwf' => ?_) (fun k k1 k2 => d6 k (by omega)) (fun y y1 y2 => f3 y y1 y2) (fun y y1 y2 => f4 y y2)
          · rw [up_cell (show (0 : Nat) ≠ 5 by decide), up_in (by omega), up_at]
          · by_cases q : wf' = wf
            · subst q
              exact Or.inr ⟨v, nd, sv, its, by omega, v2, up_at, d5, rfl, d3⟩
            · refine Or.inl ⟨?_, d6 _ (by omega)⟩
              rw [up_in q, up_other (by omega), up_other (by omega)]
        · refine hkept _ _ p' μ' ?_ ?_ d4 (fun wf' hwf' => ?_) hf
          · rw [up_in (by omega)]
          · rw [f2 7 (by omega)]
          · by_cases q : wf' = wf
            · subst q
              exact Or.inr ⟨v, by omega, v2, up_at⟩
            · refine Or.inl ?_
              rw [up_in q, up_other (by omega), up_other (by omega)]
      · have hf := d10
        obtain ⟨f1, f2, f3, f4⟩ := d10
        have hc0 : c ≠ 0 := by rcases d3 with z | z <;> rw [z] <;> decide
        refine ⟨_, _, _, _, _, _, _, _, d1, d2, ⟨0, by omega, up_at, d7, fun k hk => ?_⟩, ?_, ?_⟩
        · rw [up_cell (show (1 : Nat) ≠ 0 by decide), f1 8 (by decide) (by decide) (by decide) (by decide)]
          exact l4 k hk
        · refine h2.redef hnc (d5 0 (by omega)) (d5 1 (by omega)) (Or.inr ⟨?_, ?_, ?_, ?_⟩) (fun wf' hwf' => Or.inl ⟨?_, by rw [d6]⟩) (fun k k1 k2 => by rw [d6]) (fun y y1 y2 => f3 y y1 y2) (fun y y1 y2 => f4 y y2)
          · rw [up_in (by omega), up_at]; exact hc0
          · rw [up_in (by omega), up_at, d9]
          · rw [up_at, d8]
          · rw [d8]; exact nI_pos (by omega)
          · rw [up_other (by omega), up_other (by omega)]
        · refine hkept _ _ p' μ' ?_ ?_ d5 (fun wf' hwf' => Or.inl ?_) hf
          · rw [up_in (by omega)]
          · rw [f2 7 (by omega)]
          · rw [up_other (by omega), up_other (by omega)]
  · obtain ⟨d1, d2⟩ := define_none (N := N) (D := D) (x := x) (tx := tx) (tg := tg) (r := r) (w := w) (vs := vs) (μ := μ) (y := y) q1 q2
    exact ⟨_, _, _, _, _, _, _, _, d1, d2, ⟨len, l1, l2, l3, l4⟩, h2, h3⟩
/-- durations and failures -/
theorem env_world {e' : Mem} (h : WR T rl w e I H pl vs μ) (hE : EnvR e' μ') (he : e' 1 2 = e 1 2) (hr : ∀ c, c ≠ 5 → μ' c = μ c) (hk : ∀ k, 17 ≤ k → μ' 5 k = μ 5 k) : WR T rl w e' I H pl vs μ' := by
  obtain ⟨b1, ⟨t, b2, b2b⟩, b3, b4, b5, b6⟩ := h
  refine ⟨hE, ⟨t, b2, by rw [he]; exact b2b⟩, ?_, fun wf hwf => ?_, b5, fun j hj => ?_⟩
  · unfold WroR
    rw [hr 0 (by decide)]
    exact b3
  · obtain ⟨v, v1, v2, v3, v4⟩ := b4 wf hwf
    refine ⟨v, v1, v2, by rw [hk _ (by omega)]; exact v3, fun k hkv => ?_⟩
    obtain ⟨nd, sv, its, hV⟩ := v4 k hkv
    exact ⟨nd, sv, its, hV.ext (fun _ _ _ => by rw [hr 1 (by decide)]) (fun _ _ _ => by rw [hr 3 (by decide)])⟩
  · exact (b6 j hj).ext hj (fun z => z) SmO.refl SmH.refl hE (fun _ => he) (fun t0 ht0 e0 => ⟨t0, Nat.le_refl _, ht0, by rw [he]; exact e0⟩) (fun k k1 k2 => hk k (by omega)) (fun wf ve v _ _ _ _ hw => ⟨rfl, ⟨v, by omega, by omega, hw⟩, fun _ _ _ => by rw [hr 1 (by decide)], fun _ _ _ => by rw [hr 3 (by decide)]⟩)
theorem duration_call (y1 y2 : Int32) (h : SR x w e I H pl vs w1 e1 I1 H1 pl1 μ) : ∃ a e' μ', xe_duration y1 y2 e = some (a, e') ∧ md_duration y1 y2 μ = some (a, μ') ∧ SR x w e' I H pl vs w1 e1 I1 H1 pl1 μ' := by
  obtain ⟨a, e', μ', b1, b2, b3, b4, b5, b6⟩ := duration_sim y1 y2 h.2.1.1
  exact ⟨a, e', μ', b1, b2, h.row5 (env_world h.2.1 b3 (by rw [b4 1 (by decide)]) b5 (fun k hk => b6 k (by omega))) b5⟩
theorem failures_call (y1 y2 : Int32) (h : SR x w e I H pl vs w1 e1 I1 H1 pl1 μ) : ∃ a e' μ', xe_failures y1 y2 e = some (a, e') ∧ md_failures y1 y2 μ = some (a, μ') ∧ SR x w e' I H pl vs w1 e1 I1 H1 pl1 μ' := by
  obtain ⟨a, e', μ', b1, b2, b3, b4, b5, b6⟩ := failures_sim y1 y2 h.2.1.1
  exact ⟨a, e', μ', b1, b2, h.row5 (env_world h.2.1 b3 (by rw [b4 1 (by decide)]) b5 (fun k hk => b6 k (by omega))) b5⟩
end PE2
