/-! statistics and counts as calls -/
section PD9
variable {N D T rl : Nat} {x w e μ : Mem} {I H : Fam} {pl : Nat → Nat} {vs : Fam} {st : Prop}
theorem sm_bound {c : Nat} {f : Nat → Nat} (h : ∀ k, f k ≤ c) : ∀ n, sm n f ≤ c * n
  | 0 => Nat.zero_le _
  | n + 1 => by
    have := sm_bound h n
    have := h n
    show sm n f + f n ≤ c * (n + 1)
    rw [Nat.mul_succ]
    omega
theorem cM_le (x1 x2 : Int32) : cM μ x1 x2 6 ≤ 6 := by
  have := sm_bound (c := 1) (f := fun j => if Gm μ j 0 = 1 ∧ Gm μ j 2 = x1 ∧ (x2 < 0 ∨ Gm μ j 1 = x2) then 1 else 0) (fun k => by
    by_cases q : Gm μ k 0 = 1 ∧ Gm μ k 2 = x1 ∧ (x2 < 0 ∨ Gm μ k 1 = x2)
    · show (if _ then 1 else 0) ≤ 1
      rw [if_pos q]; exact Nat.le_refl _
    · show (if _ then 1 else 0) ≤ 1
      rw [if_neg q]; exact Nat.zero_le _) 6
  exact this
theorem ended_le (hI : ∀ j, j < 6 → IW st rl j (pl j) vs (I j) (H j) e μ w) (hv : VsR vs) (x1 : Int32) : cM μ x1 1 6 + cM μ x1 3 6 + cM μ x1 4 6 ≤ 6 := by
  have h := count_all hI hv x1
  have h1 := count_same hI hv x1 1 (by decide)
  have h3 := count_same hI hv x1 3 (by decide)
  have h4 := count_same hI hv x1 4 (by decide)
  have := cM_le (μ := μ) x1 (-1)
  omega
theorem statistic_call (hN : 100 ≤ N) (y1 y2 : Int32) (h : WR 99999 rl w e I H pl vs μ) : ∃ a, xe_statistic N pl vs I y1 y2 = some a ∧ md_statistic N μ y1 y2 = some a := by
  obtain ⟨hE, ⟨t, t1, t2⟩, _, _, hv, hI⟩ := h
  have hp := plan17 hI
  unfold xe_statistic md_statistic md_isWorkflow
  rcases arg_cases (n := 4) (by decide) (by decide) y1 with ⟨wf, hwf, rfl⟩ | ⟨h1, h2⟩
  · have same : ∀ x2 : Int32, ¬ x2 < 0 → wo_instancesOf N pl vs I (nI wf) x2 = some (nI (cM μ (nI wf) x2 6)) := fun x2 h2 => by rw [ofX_ev (by omega) hp, count_same hI hv (nI wf) x2 h2]
    have sM : ∀ x2 : Int32, md_instancesOf N μ (nI wf) x2 = some (nI (cM μ (nI wf) x2 6)) := fun x2 => ofM_ev (by omega) _ _
    rw [ins4 hwf, Option.bind_some, if_pos rfl, show md_isIn (nI wf) 0 3 = some true from isIn_nI (b := 0) (c := 3) (Nat.zero_le _) (by omega) (by decide), Option.bind_some, Option.bind_some, if_pos rfl]
    rcases arg_cases (n := 8) (by decide) (by decide) y2 with ⟨q, hq, rfl⟩ | ⟨w1, w2⟩
    · have n0 : ¬ nI q < 0 := nI_pos (by omega)
      rw [show md_isIn (nI q) 0 7 = some true from isIn_nI (b := 0) (c := 7) (Nat.zero_le _) (by omega) (by decide), Option.bind_some, if_pos rfl, if_neg n0, if_neg (show ¬ 7 < nI q from nI_nlt (a := 7) (by omega) (by decide))]
      by_cases q4 : q ≤ 4
      · rw [if_neg (show ¬ 4 < nI q from nI_nlt (a := 4) q4 (by decide)), if_pos (show nI q < 6 from nI_lt (b := 6) (by omega) (by decide)), if_pos (show nI q < 5 from nI_lt (b := 5) (by omega) (by decide)), same _ n0, sM]
        exact ⟨_, rfl, rfl⟩
      · rw [if_pos (show 4 < nI q from nI_lt (a := 4) (by omega) (by omega))]
        have eEnd : wo_endedOf N pl vs I (nI wf) = some (nI (cM μ (nI wf) 1 6 + cM μ (nI wf) 3 6 + cM μ (nI wf) 4 6)) := by
          unfold wo_endedOf
          rw [same 3 (by decide), same 4 (by decide), same 1 (by decide)]
          simp only [Option.bind_some]
          rw [nI_add, nI_add]
          congr 2; omega
        by_cases q5 : q = 5
        · subst q5
          have hall := count_all hI hv (nI wf)
          have eSt : wo_startedOf N pl vs I (nI wf) = some (nI (cM μ (nI wf) (-1) 6)) := by
            unfold wo_startedOf
            rw [eEnd, same 0 (by decide), same 2 (by decide)]
            simp only [Option.bind_some]
            rw [nI_add, nI_add, ← hall, count_same hI hv (nI wf) 0 (by decide), count_same hI hv (nI wf) 1 (by decide), count_same hI hv (nI wf) 2 (by decide), count_same hI hv (nI wf) 3 (by decide), count_same hI hv (nI wf) 4 (by decide)]
            congr 2; omega
          rw [if_pos (show nI 5 = 5 from rfl), eSt, if_pos (show nI 5 < 6 by decide), if_neg (show ¬ nI 5 < 5 by decide), sM]
          exact ⟨_, rfl, rfl⟩
        · have hne : ¬ nI q = 5 := fun z => q5 (nI_inj (a := q) (b := 5) (by omega) (by decide) z)
          have hle := ended_le hI hv (nI wf)
          rw [if_neg hne, eEnd, if_neg (show ¬ nI q < 6 from nI_nlt (b := 6) (by omega) (by omega)), sM 1, sM 3, sM 4]
          simp only [Option.bind_some]
          rw [nI_add, nI_add]
          by_cases z : cM μ (nI wf) 1 6 + cM μ (nI wf) 3 6 + cM μ (nI wf) 4 6 = 0
          · rw [z, if_pos (show nI 0 = 0 from rfl), if_pos (show nI 0 = 0 from rfl)]
            exact ⟨_, rfl, rfl⟩
          · rw [if_neg (nI_ne0 (by omega) (by omega)), if_neg (nI_ne0 (by omega) (by omega))]
            obtain ⟨tot, m1, m2, m3⟩ := min_loop (N := N) (t := t) hwf hI hv t2 t1 (nI q) (nI (cM μ (nI wf) 1 6 + cM μ (nI wf) 3 6 + cM μ (nI wf) 4 6)) 6 0 N N 0 (by omega) (by omega) (by omega) (by omega)
            have m2' : wo_minutesOf N pl vs I (nI wf) = some (nI tot) := m2
            have m3' : md_statistic_75 N μ N (nI wf) (nI q) (nI (cM μ (nI wf) 1 6 + cM μ (nI wf) 3 6 + cM μ (nI wf) 4 6)) 0 0 = _ := m3
            rw [m2', m3', same 1 (by decide), sM 1]
            simp only [Option.bind_some]
            by_cases z6 : q = 6
            · obtain ⟨v, f1, f2⟩ := float_sim (N := N) (μ := μ) (a := tot) (b := cM μ (nI wf) 1 6 + cM μ (nI wf) 3 6 + cM μ (nI wf) 4 6) hN (by omega) (by omega) hle
              rw [if_pos (show nI q = 6 by rw [z6]; rfl), if_pos (show nI q = 6 by rw [z6]; rfl), f1, f2]
              exact ⟨_, rfl, rfl⟩
            · have hne6 : ¬ nI q = 6 := fun z => z6 (nI_inj (a := q) (b := 6) (by omega) (by decide) z)
              obtain ⟨v, f1, f2⟩ := float_sim (N := N) (μ := μ) (a := cM μ (nI wf) 1 6) (b := cM μ (nI wf) 1 6 + cM μ (nI wf) 3 6 + cM μ (nI wf) 4 6) hN (by omega) (by omega) hle
              rw [if_neg hne6, if_neg hne6, f1, f2]
              exact ⟨_, rfl, rfl⟩
    · have w2' : md_isIn y2 0 7 = some false := w2
      rw [w2', Option.bind_some, if_neg (show ¬ (false = true) by decide)]
      by_cases z : y2 < 0
      · rw [if_pos z]; exact ⟨_, rfl, rfl⟩
      · by_cases z2 : 7 < y2
        · rw [if_neg z, if_pos z2]; exact ⟨_, rfl, rfl⟩
        · exfalso
          obtain ⟨b, hb, rfl⟩ := nI_of z
          have hb8 : b < 8 := Nat.not_le.mp fun q => z2 (nI_lt (a := 7) (by omega) hb)
          rw [ins_nI hb8 (by decide)] at w1
          exact absurd w1 (by decide)
  · have h1' : xs_isInside y1 4 = some false := h1
    have h2' : md_isIn y1 0 3 = some false := h2
    rw [h1', h2', Option.bind_some, Option.bind_some, Option.bind_some, if_neg (show ¬ (false = true) by decide), if_neg (show ¬ (false = true) by decide)]
    exact ⟨_, rfl, rfl⟩
theorem defd_loop (h : ∀ wf, wf < 4 → w 5 wf = μ 5 (17 + wf)) : ∀ (s k n m : Nat) (acc : Int32), k + s = 4 → s < n → s < m → ∃ c, wo_allDefined_4 N w n acc (nI k) = some c ∧ md_versions_4 N μ m acc (nI k) = some c
  | 0, k, n, m, acc, hk, hn, hm => by
    obtain ⟨n, rfl⟩ : ∃ x, n = x + 1 := ⟨n - 1, by omega⟩
    obtain ⟨m, rfl⟩ : ∃ x, m = x + 1 := ⟨m - 1, by omega⟩
    unfold wo_allDefined_4 md_versions_4
    rw [show k = 4 by omega]
    exact ⟨_, rfl, rfl⟩
  | s + 1, k, n, m, acc, hk, hn, hm => by
    obtain ⟨n, rfl⟩ : ∃ x, n = x + 1 := ⟨n - 1, by omega⟩
    obtain ⟨m, rfl⟩ : ∃ x, m = x + 1 := ⟨m - 1, by omega⟩
    obtain ⟨c, c1, c2⟩ := defd_loop h s (k + 1) n m (acc + w 5 k) (by omega) (by omega) (by omega)
    have hlt : nI k < 4 := nI_lt (b := 4) (by omega) (by decide)
    refine ⟨c, ?_, ?_⟩
    · conv => lhs; unfold wo_allDefined_4
      rw [if_pos hlt, rd_nI (by omega) (by decide), Option.bind_some, nI_1]
      exact c1
    · conv => lhs; unfold md_versions_4
      rw [if_pos hlt, add17_nI, rd_nI (by omega) (by decide), Option.bind_some, nI_1, ← h k (by omega)]
      exact c2
theorem count_call (hN : 100 ≤ N) (y1 : Int32) (hx : TapR x μ) (h : WR T rl w e I H pl vs μ) : ∃ a, xe_count N pl vs I w x e y1 = some a ∧ md_count N μ y1 = some a := by
  obtain ⟨hE, _, _, hvw, hv, hI⟩ := h
  have hp := plan17 hI
  have e10 : (10 : Int32) = nI 10 := rfl
  have e20 : (20 : Int32) = nI 20 := rfl
  unfold xe_count md_count
  rcases sub_arg (b := 10) (n := 8) (by decide) (by decide) y1 with ⟨a, ha, rfl⟩ | ⟨q1, q2⟩
  · rw [e10, pk_sub (a := 10 + a) (b := 10) (by omega), show 10 + a - 10 = a by omega, ins8 ha, Option.bind_some, if_pos rfl, rd_nI ha (by decide), Option.bind_some, show md_isIn (nI (10 + a)) (nI 10) 17 = some true from isIn_nI (b := 10) (c := 17) (by omega) (by omega) (by decide), Option.bind_some, if_pos rfl, add1_nI, pk_sub (by omega), show 1 + (10 + a) - 10 = 1 + a by omega, rd_nI (by omega) (by decide), Option.bind_some]
    exact ⟨_, rfl, by rw [(hE.2.2 a ha).1]⟩
  · have q1' : xs_isInside (y1 - 10) 8 = some false := q1
    have q2' : md_isIn y1 10 17 = some false := q2
    rw [q1', q2', Option.bind_some, Option.bind_some, if_neg (show ¬ (false = true) by decide), if_neg (show ¬ (false = true) by decide)]
    rcases sub_arg (b := 20) (n := 8) (by decide) (by decide) y1 with ⟨a, ha, rfl⟩ | ⟨q3, q4⟩
    · rw [e20, pk_sub (a := 20 + a) (b := 20) (by omega), show 20 + a - 20 = a by omega, ins8 ha, Option.bind_some, if_pos rfl, rd_nI ha (by decide), Option.bind_some, show md_isIn (nI (20 + a)) (nI 20) 27 = some true from isIn_nI (b := 20) (c := 27) (by omega) (by omega) (by decide), Option.bind_some, if_pos rfl, add9_nI, pk_sub (by omega), show 9 + (20 + a) - 20 = 9 + a by omega, rd_nI (by omega) (by decide), Option.bind_some]
      exact ⟨_, rfl, by rw [(hE.2.2 a ha).2.1]⟩
    · have q3' : xs_isInside (y1 - 20) 8 = some false := q3
      have q4' : md_isIn y1 20 27 = some false := q4
      rw [q3', q4', Option.bind_some, Option.bind_some, if_neg (show ¬ (false = true) by decide), if_neg (show ¬ (false = true) by decide)]
      obtain ⟨len, l1, l2, l3, _⟩ := hx
      obtain ⟨c, c1, c2⟩ := defd_loop (N := N) (w := w) (μ := μ) (fun wf hwf => by
        obtain ⟨v, v1, v2, v3, _⟩ := hvw wf hwf
        rw [v2, v3]) 4 0 N N 0 (by omega) (by omega) (by omega)
      have c1' : wo_allDefined N w = some c := c1
      have c2' : md_versions N μ = some c := c2
      rw [started_ev (by omega) hI hv, inst_ev (by omega) hI, withX_ev (by omega) hp, withX_ev (by omega) hp, withM_ev (by omega) hI hv 0 (by decide), withM_ev (by omega) hI hv 2 (by decide), c1', c2', rd70, hE.1, l2, l3]
      simp only [Option.bind_some]
      by_cases z0 : y1 = 0
      · rw [if_pos z0]; exact ⟨_, rfl, rfl⟩
      · rw [if_neg z0]
        by_cases z1 : y1 = 1
        · rw [if_pos z1]; exact ⟨_, rfl, rfl⟩
        · rw [if_neg z1]
          by_cases z2 : y1 = 2
          · rw [if_pos z2]; exact ⟨_, rfl, rfl⟩
          · rw [if_neg z2]
            by_cases z3 : y1 = 3
            · rw [if_pos z3]; exact ⟨_, rfl, rfl⟩
            · rw [if_neg z3]
              by_cases z4 : y1 = 4
              · rw [if_pos z4]; exact ⟨_, rfl, rfl⟩
              · rw [if_neg z4]
                by_cases z5 : y1 = 5
                · rw [if_pos z5]; exact ⟨_, rfl, rfl⟩
                · rw [if_neg z5]; exact ⟨_, rfl, rfl⟩
end PD9
