/-! signals; an instance is given up, begins, is asked -/
section PD3
variable {N D T rl : Nat} {x w e μ e' μ' o' h' : Mem} {I H : Fam} {pl : Nat → Nat} {vs : Fam} {st : Prop}
theorem signal_call (y1 y2 : Int32) (h : WR T rl w e I H pl vs μ) : ∃ a I' μ', xe_signal y1 y2 I = some (a, I') ∧ md_signal y1 y2 μ = some (a, μ') ∧ WR T rl w e I' H pl vs μ' ∧ (∀ c, c ≠ 5 → μ' c = μ c) := by
  have hI := h.2.2.2.2.2
  unfold xe_signal md_signal
  rcases find_sim hI y1 with ⟨f1, f2⟩ | ⟨j, hj, rfl, f1, f2, f3, f4⟩
  · rw [f1, f2, Option.bind_some, Option.bind_some, if_neg (by decide)]
    exact ⟨_, _, _, rfl, rfl, h, fun _ _ => rfl⟩
  · rw [f1, f2, Option.bind_some, Option.bind_some, if_pos rfl]
    dsimp only
    obtain ⟨p17, hl⟩ := hI j hj
    rcases hl with ⟨z, _⟩ | ⟨g0, tm, hvv, nd, sv, its, hV, hL, hs⟩
    · exact absurd z f4
    rw [gd_pos hj]
    unfold md_isCode
    rcases arg_cases (n := 8) (by decide) (by decide) y2 with ⟨c, hc, rfl⟩ | ⟨q1, q2⟩
    · rw [ins8 hc, Option.bind_some, if_pos rfl, show md_isIn (nI c) 0 7 = some true from isIn_nI (b := 0) (c := 7) (Nat.zero_le _) (by omega) (by decide), Option.bind_some, Option.bind_some, if_pos rfl, of_1, Option.bind_some, rd_nI (N := 7593) (by omega) (by decide), Option.bind_some, show μ 5 (21 + 1262 * j + 1) = I j 0 3 from hL.2.1]
      by_cases z0 : I j 0 3 = 0
      · obtain ⟨g1, g2⟩ := hL.1.2.2.1.2.2.2.2 c hc
        rw [if_pos z0, if_pos z0, of_14, rd_nI hc (by decide)]
        simp only [Option.bind_some]
        rw [rd_nI (N := 7593) (by omega) (by decide), g1]
        simp only [Option.bind_some]
        by_cases z9 : I j 17 c < 9
        · have z9' : ¬ I j 17 c = 9 := fun q => by rw [q] at z9; revert z9; decide
          rw [if_pos z9, if_neg z9', ck_nI hc (by decide), ck_nI (by omega) (by decide), nI_clamp (by omega), nI_clamp (by omega), upF_at, rd_nI hc (by decide), rd_nI (by omega) (by decide), Option.bind_some, Option.bind_some, up_at, up_at]
          refine ⟨_, _, _, rfl, rfl, ?_, fun c hc => up_row hc⟩
          have h9 : ¬ 9 < I j 17 c + 1 := fun q => by
            rw [Int32.lt_iff_toInt_lt] at z9 q
            have w9 : (9 : Int32).toInt = 9 := by decide
            have w1 : (1 : Int32).toInt = 1 := by decide
            have wl := Int32.le_toInt (I j 17 c)
            rw [Int32.toInt_add, w1, Int.bmod_eq_of_le (by omega) (by omega)] at q
            omega
          have hE' : EnvR e (up μ 5 (21 + 1262 * j + (14 + c)) (I j 17 c + 1)) := h.1.fr (fun k hk => up_in (by omega))
          have hLn : LkR (vs (pl j)) nd sv j (pl j) its rl its (up (I j) 17 c (I j 17 c + 1)) (H j) e (up μ 5 (21 + 1262 * j + (14 + c)) (I j 17 c + 1)) := by
            have hIn := hL.1.2.2.1
            refine hL.ext hj hV.1.1 (hV.2.1 its (Nat.le_refl _)) (fun w w1 w2 => up_other (by omega)) (fun k hk => ⟨up_other (by omega), up_other (by omega), up_other (by omega), up_other (by omega)⟩) (fun k hk => ⟨up_other (by omega), up_other (by omega), up_other (by omega)⟩) SmH.refl hE' ⟨?_, ?_, ?_, fun v hv => ?_, fun v hv => ?_⟩ (fun k k1 k2 k3 => up_in (by omega)) (fun _ _ _ => up_other (by omega)) (up_other (by omega))
            · rw [up_in (by omega), up_other (by omega)]; exact hIn.1
            · rw [up_in (by omega), up_other (by omega)]; exact hIn.2.1
            · rw [up_in (by omega), up_other (by omega)]; exact hIn.2.2.1
            · rw [up_in (by omega), up_other (by omega)]; exact hIn.2.2.2.1 v hv
            · by_cases q : v = c
              · subst q; rw [up_at, up_at]; exact ⟨rfl, h9⟩
              · rw [up_in (by omega), up_in q]; exact hIn.2.2.2.2 v hv
          have := h.one (pv := pl j) (h' := H j) (o' := up (I j) 17 c (I j 17 c + 1)) (μ' := up μ 5 (21 + 1262 * j + (14 + c)) (I j 17 c + 1)) hj hE' rfl (fun c hc => up_row hc) (fun k _ k2 => up_in (by omega)) ⟨p17, Or.inr ⟨(up_in (by omega)).trans g0, ?_, hvv, nd, sv, its, hV.ext (fun _ _ _ => up_other (by omega)) (fun _ _ _ => up_other (by omega)), hLn, fun z => (hs z).ext hV.1.1.2.1 rfl (up_other (by omega)) (fun k _ => up_other (by omega)) (fun k _ => ⟨up_other (by omega), up_other (by omega), up_other (by omega)⟩)⟩⟩
          · rw [upF_self, upN_self] at this
            exact this
          · obtain ⟨t, s, t1, t2, t3, t4, t5⟩ := tm
            exact ⟨t, s, t1, t2, by rw [up_other (by omega)]; exact t3, t4, by rw [up_other (by omega)]; exact t5⟩
        · have z9' : I j 17 c = 9 := by
            apply Int32.toInt_inj.mp
            rw [Int32.lt_iff_toInt_lt] at z9 g2
            omega
          rw [if_neg z9, if_pos z9']
          exact ⟨_, _, _, rfl, rfl, h, fun _ _ => rfl⟩
      · rw [if_neg z0, if_neg z0]
        exact ⟨_, _, _, rfl, rfl, h, fun _ _ => rfl⟩
    · have q1' : xs_isInside y2 8 = some false := q1
      have q2' : md_isIn y2 0 7 = some false := q2
      rw [q1', q2', Option.bind_some, Option.bind_some, Option.bind_some, if_neg (show ¬ (false = true) by decide), if_neg (show ¬ (false = true) by decide)]
      exact ⟨_, _, _, rfl, rfl, h, fun _ _ => rfl⟩
theorem Tm.look {o o' : Mem} {i : Nat} (h : Tm e o) (hf : LkF i o e μ o' e' μ') : Tm e' o' := by
  obtain ⟨t, s, t1, t2, t3, t4, t5⟩ := h
  obtain ⟨⟨f1, f2⟩, f3, _⟩ := hf
  have he : e' 1 2 = e 1 2 := by rw [f3 1 (by decide)]
  refine ⟨t, s, by rw [he]; exact t1, t2, by rw [f1]; exact t3, t4, ?_⟩
  rcases f2 with z | z
  · rw [z]; exact t5
  · rw [z, t1]; exact Or.inr ⟨t, rfl, t4, Nat.le_refl _⟩
theorem abort_call (hN : 100 ≤ N) (hD : 16 ≤ D) (y : Int32) (h : WR T rl w e I H pl vs μ) : ∃ a e' I' H' μ', xe_abort N D rl pl vs y e I H = some (a, e', I', H') ∧ md_abort N D y μ = some (a, μ') ∧ WR T rl w e' I' H' pl vs μ' ∧ (∀ c, c ≠ 5 → μ' c = μ c) := by
  have hI := h.2.2.2.2.2
  unfold xe_abort md_abort
  rcases find_sim hI y with ⟨f1, f2⟩ | ⟨j, hj, rfl, f1, f2, f3, f4⟩
  · rw [f1, f2, Option.bind_some, Option.bind_some, if_neg (by decide)]
    exact ⟨_, _, _, _, _, rfl, rfl, h, fun _ _ => rfl⟩
  · rw [f1, f2, Option.bind_some, Option.bind_some, if_pos rfl]
    dsimp only
    obtain ⟨p17, hl⟩ := hI j hj
    rcases hl with ⟨z, _⟩ | ⟨g0, tm, hvv, nd, sv, its, hV, hL, hs⟩
    · exact absurd z f4
    rw [gd_pos hj, of_1, Option.bind_some, rd_nI (by omega) (by decide), Option.bind_some, show μ 5 (21 + 1262 * j + 1) = I j 0 3 from hL.2.1]
    by_cases z0 : I j 0 3 = 0
    · obtain ⟨o', h', e', μ1, μ2, μ', x1, x2, x3, x4, x5, x6, x7⟩ := give_sim hj hV.1 hN hD (hV.2.1 its (Nat.le_refl _)) hL z0
      rw [if_pos z0, if_pos z0, gd_pos p17, x1, Option.bind_some, x2, Option.bind_some, x3, Option.bind_some, x4, Option.bind_some, Option.bind_some, rd_nI (by omega) (by decide), Option.bind_some, show μ' 5 (21 + 1262 * j + 1) = o' 0 3 from x5.2.1]
      dsimp only
      rw [upF_at]
      refine ⟨_, _, _, _, _, rfl, rfl, ?_, x7.2.2.1⟩
      have hr := x7.2.2.1
      have hk := x7.2.2.2
      have := h.one (pv := pl j) (h' := h') (o' := o') (μ' := μ') (e' := e') hj x5.1.2.1 (by rw [x7.2.1 1 (by decide)]) hr (fun k k1 k2 => hk k k1 (by omega) (by omega) (by omega)) ⟨p17, Or.inr ⟨(hk (21 + 1262 * j + 0) (by omega) (by omega) (by omega) (by omega)).trans g0, tm.look x7, hvv, nd, sv, its, hV.ext (fun _ _ _ => by rw [hr 1 (by decide)]) (fun _ _ _ => by rw [hr 3 (by decide)]), x5, fun _ => x6⟩⟩
      rw [upN_self] at this
      exact this
    · rw [if_neg z0, if_neg z0]
      exact ⟨_, _, _, _, _, rfl, rfl, h, fun _ _ => rfl⟩
/-! which places are free -/
theorem free_loop (h : ∀ j, j < 6 → IW st rl j (pl j) vs (I j) (H j) e μ w) : ∀ (s k n m : Nat) (y : Int32), k + s = 6 → s < n → s < m → (wo_lowestFree_2 N I n (nI k) = some (-1) ∧ ∀ j, k ≤ j → j < 6 → Gm μ j 0 = 1) ∨ ∃ f : Nat, k ≤ f ∧ f < 6 ∧ wo_lowestFree_2 N I n (nI k) = some (nI f) ∧ md_start_38 N D m y (nI k) μ = md_start_60 N D N y (nI f) 0 μ ∧ Gm μ f 0 = 0
  | 0, k, n, m, y, hk, hn, hm => by
    obtain ⟨n, rfl⟩ : ∃ x, n = x + 1 := ⟨n - 1, by omega⟩
    refine Or.inl ⟨?_, fun j j1 j2 => by omega⟩
    unfold wo_lowestFree_2
    rw [show k = 6 by omega]
    rfl
  | s + 1, k, n, m, y, hk, hn, hm => by
    obtain ⟨n, rfl⟩ : ∃ x, n = x + 1 := ⟨n - 1, by omega⟩
    obtain ⟨m, rfl⟩ : ∃ x, m = x + 1 := ⟨m - 1, by omega⟩
    have ih := free_loop h s (k + 1) n m y (by omega) (by omega) (by omega)
    have e1 : wo_lowestFree_2 N I (n + 1) (nI k) = if I k 0 3 = -1 then some (nI k) else wo_lowestFree_2 N I n (nI (k + 1)) := by
      conv => lhs; unfold wo_lowestFree_2
      rw [if_pos (show nI k < 6 from nI_lt (b := 6) (by omega) (by decide)), rx_nI (by omega) (by decide), Option.bind_some, nI_1]
    have e2 : md_start_38 N D (m + 1) y (nI k) μ = if Gm μ k 0 = 1 then md_start_38 N D m y (nI (k + 1)) μ else md_start_60 N D N y (nI k) 0 μ := by
      conv => lhs; unfold md_start_38
      rw [of_0, Option.bind_some, rd_nI (by omega) (by decide), Option.bind_some, nI_1]
    rw [e1, e2]
    rcases (h k (by omega)).live with ⟨z1, z2⟩ | ⟨z1, z2⟩
    · rw [if_pos z1, if_neg (by rw [z2]; decide)]
      exact Or.inr ⟨k, Nat.le_refl _, by omega, rfl, rfl, z2⟩
    · rw [if_neg z1, if_pos z2]
      rcases ih with ⟨i1, i2⟩ | ⟨f, i1, i2, i3, i4, i5⟩
      · refine Or.inl ⟨i1, fun j j1 j2 => ?_⟩
        by_cases q : j = k
        · subst q; exact z2
        · exact i2 j (by omega) j2
      · exact Or.inr ⟨f, by omega, i2, i3, i4, i5⟩
/-- how many there are -/
def cnt (μ : Mem) : Nat → Nat := fun k => sm k (fun j => if Gm μ j 0 = 1 then 1 else 0)
theorem inst_loop (h : ∀ j, j < 6 → IW st rl j (pl j) vs (I j) (H j) e μ w) : ∀ (s k n : Nat), k + s = 6 → s < n → md_instances_4 N μ n (nI (cnt μ k)) (nI k) = some (nI (cnt μ 6))
  | 0, k, n, hk, hn => by
    obtain ⟨n, rfl⟩ : ∃ x, n = x + 1 := ⟨n - 1, by omega⟩
    unfold md_instances_4
    rw [show k = 6 by omega]
    rfl
  | s + 1, k, n, hk, hn => by
    obtain ⟨n, rfl⟩ : ∃ x, n = x + 1 := ⟨n - 1, by omega⟩
    have ih := inst_loop h s (k + 1) n (by omega) (by omega)
    conv => lhs; unfold md_instances_4
    rw [if_pos (show nI k < 6 from nI_lt (b := 6) (by omega) (by decide)), of_0, Option.bind_some, rd_nI (by omega) (by decide), Option.bind_some, nI_1, ← ih]
    congr 1
    show nI (cnt μ k) + Gm μ k 0 = nI (cnt μ k + if Gm μ k 0 = 1 then 1 else 0)
    rcases (h k (by omega)).live with ⟨z1, z2⟩ | ⟨z1, z2⟩
    · rw [z2, if_neg (by decide)]; exact nI_add _ 0
    · rw [z2, if_pos rfl]; exact nI_add _ 1
theorem inst_ev (hN : 10 ≤ N) (h : ∀ j, j < 6 → IW st rl j (pl j) vs (I j) (H j) e μ w) : md_instances N μ = some (nI (cnt μ 6)) := inst_loop h 6 0 N (by omega) (by omega)
theorem cnt_le : ∀ k, cnt μ k ≤ k
  | 0 => Nat.le_refl _
  | k + 1 => by
    have := cnt_le k
    show cnt μ k + (if Gm μ k 0 = 1 then 1 else 0) ≤ k + 1
    by_cases q : Gm μ k 0 = 1
    · rw [if_pos q]; omega
    · rw [if_neg q]; omega
theorem cnt_full : ∀ k, (∀ j, j < k → Gm μ j 0 = 1) → cnt μ k = k
  | 0, _ => rfl
  | k + 1, h => by
    show cnt μ k + (if Gm μ k 0 = 1 then 1 else 0) = k + 1
    rw [if_pos (h k (by omega)), cnt_full k (fun j hj => h j (by omega))]
theorem cnt_less : ∀ k j, j < k → Gm μ j 0 = 0 → cnt μ k < k
  | 0, _, h, _ => by omega
  | k + 1, j, h, h0 => by
    show cnt μ k + (if Gm μ k 0 = 1 then 1 else 0) < k + 1
    by_cases q : j = k
    · subst q
      rw [if_neg (by rw [h0]; decide)]
      have := cnt_le (μ := μ) j
      omega
    · have := cnt_less k j (by omega) h0
      by_cases q2 : Gm μ k 0 = 1
      · rw [if_pos q2]; omega
      · rw [if_neg q2]; omega
theorem start_call (hN : 1400 ≤ N) (hD : 16 ≤ D) (hrl : rl = 0 ∨ rl = 200) (y : Int32) (h : WR T rl w e I H pl vs μ) : ∃ a e' I' H' pl' μ', xe_start N D rl vs w y e I H pl = some (a, e', I', H', pl') ∧ md_start N D y μ = some (a, μ') ∧ WR T rl w e' I' H' pl' vs μ' ∧ (∀ c, c ≠ 5 → μ' c = μ c) := by
  have hI := h.2.2.2.2.2
  unfold xe_start md_start md_isWorkflow
  rcases arg_cases (n := 4) (by decide) (by decide) y with ⟨wf, hwf, rfl⟩ | ⟨q1, q2⟩
  · obtain ⟨v, hv, v1, v2, v3⟩ := h.2.2.2.1 wf hwf
    rw [ins4 hwf, Option.bind_some, if_pos rfl, show md_isIn (nI wf) 0 3 = some true from isIn_nI (b := 0) (c := 3) (Nat.zero_le _) (by omega) (by decide), Option.bind_some, Option.bind_some, if_pos rfl, rd_nI (by omega) (by decide), Option.bind_some, v1, add17_nI, rd_nI (by omega) (by decide), Option.bind_some, v2]
    by_cases z0 : v = 0
    · subst z0
      rw [show xs_isInside (nI 0 - 1) 4 = some false by decide, Option.bind_some, if_neg (show ¬ (false = true) by decide), if_pos (show nI 0 = 0 by decide)]
      exact ⟨_, _, _, _, _, _, rfl, rfl, h, fun _ _ => rfl⟩
    · obtain ⟨ve, rfl⟩ : ∃ ve, v = ve + 1 := ⟨v - 1, by omega⟩
      have em : nI (ve + 1) - 1 = nI ve := nI_pred ve
      rw [em, ins4 (by omega), Option.bind_some, if_pos rfl, if_neg (nI_ne0 (by omega) (by omega)), inst_ev (by omega) hI, Option.bind_some]
      rcases free_loop (N := N) (D := D) hI 6 0 N N (nI wf) (by omega) (by omega) (by omega) with ⟨i1, i2⟩ | ⟨f, i1, i2, i3, i4, i5⟩
      · have i1' : wo_lowestFree N I = some (-1) := i1
        rw [i1', Option.bind_some, show xs_isInside (-1) 6 = some false by decide, Option.bind_some, if_neg (show ¬ (false = true) by decide), cnt_full 6 (fun j hj => i2 j (Nat.zero_le _) hj), if_pos (show nI 6 = 6 from rfl)]
        exact ⟨_, _, _, _, _, _, rfl, rfl, h, fun _ _ => rfl⟩
      · have i3' : wo_lowestFree N I = some (nI f) := i3
        have i4' : md_start_38 N D N (nI wf) 0 μ = md_start_60 N D N (nI wf) (nI f) 0 μ := i4
        obtain ⟨nd, sv, its, hV⟩ := v3 ve (by omega)
        obtain ⟨o', h', e', μ', x1, x2, x3, x4, ⟨x5, x5b⟩, x6, x7, x8, x9, x10, x11⟩ := start_sim (rl := rl) (o := I f) (h := H f) (e := e) (μ := μ) (N := N) (D := D) (F := its) i2 hV.1 hN hD (hV.2.1 its (Nat.le_refl _)) hrl hwf (show ve < 4 by omega) rfl hV.2.2.1 hV.2.2.2.1 h.1 v2
        have hl := cnt_less (μ := μ) 6 f i2 i5
        rw [i3', Option.bind_some, ins6 i2, Option.bind_some, if_pos rfl, rx_nI i2 (by decide), Option.bind_some, show nI wf * 4 + nI ve = nI (4 * wf + ve) by rw [show (4 : Int32) = nI 4 from rfl, pk_mul, nI_add, show wf * 4 + ve = 4 * wf + ve by omega], rx_nI (by omega) (by decide), Option.bind_some, x1, Option.bind_some, if_neg (show ¬ nI (cnt μ 6) = 6 from fun q => by have := nI_inj (a := cnt μ 6) (b := 6) (by omega) (by decide) q; omega), i4', x2]
        refine ⟨_, _, _, _, _, _, rfl, rfl, ?_, x7⟩
        refine h.one (pv := 4 * wf + ve) (h' := h') (o' := o') (μ' := μ') (e' := e') i2 x3.1.2.1 (by rw [x6 1 (by decide)]) x7 (fun k k1 k2 => x8 k k1 k2) ⟨by omega, Or.inr ⟨x9, ?_, ⟨wf, ve, ve + 1, rfl, hwf, by omega, hv, v1⟩, nd, sv, its, hV.ext (fun _ _ _ => by rw [x7 1 (by decide)]) (fun _ _ _ => by rw [x7 3 (by decide)]), x3, fun _ => x4⟩⟩
        obtain ⟨t, t1, t2⟩ := h.1.2.1
        refine ⟨t, t, by rw [x6 1 (by decide)]; exact t1, t2, by rw [x5]; exact t1, Nat.le_refl _, ?_⟩
        rcases x5b with z | z
        · exact Or.inl z
        · exact Or.inr ⟨t, by rw [z]; exact t1, Nat.le_refl _, Nat.le_refl _⟩
  · have q1' : xs_isInside y 4 = some false := q1
    have q2' : md_isIn y 0 3 = some false := q2
    rw [q1', q2', Option.bind_some, Option.bind_some, Option.bind_some, if_neg (show ¬ (false = true) by decide), if_neg (show ¬ (false = true) by decide)]
    exact ⟨_, _, _, _, _, _, rfl, rfl, h, fun _ _ => rfl⟩
end PD3
