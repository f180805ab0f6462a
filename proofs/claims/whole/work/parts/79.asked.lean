/-! an instance is asked; its history -/
section PD5
variable {N D T rl : Nat} {x w e μ e' μ' o h : Mem} {I H : Fam} {pl : Nat → Nat} {vs : Fam} {st : Prop}
theorem sub_arg {b n : Nat} (hn : 0 < n) (hb : b + n < 2 ^ 31) (y : Int32) : (∃ a : Nat, a < n ∧ y = nI (b + a)) ∨ (xs_isInside (y - nI b) (nI n) = some false ∧ md_isIn y (nI b) (nI (b + n - 1)) = some false) := by
  rcases arg_cases hn (by omega) (y - nI b) with ⟨a, ha, e⟩ | ⟨q1, _⟩
  · refine Or.inl ⟨a, ha, ?_⟩
    have e2 : y - nI b + nI b = y := Int32.sub_add_cancel y (nI b)
    rw [← e2, e, nI_add, Nat.add_comm]
  · refine Or.inr ⟨q1, ?_⟩
    by_cases z : y < nI b
    · exact isIn_lo z
    · by_cases z2 : nI (b + n - 1) < y
      · exact isIn_hi z2
      · exfalso
        obtain ⟨j, hj, rfl⟩ := nI_of (x := y) (fun q => z (by
          rw [Int32.lt_iff_toInt_lt] at q ⊢
          have z0 : (0 : Int32).toInt = 0 := by decide
          rw [nI_toInt (by omega)]
          omega))
        have h1 : b ≤ j := Nat.not_lt.mp fun q => z (nI_lt q (by omega))
        have h2 : j ≤ b + n - 1 := Nat.not_lt.mp fun q => z2 (nI_lt q hj)
        rw [pk_sub h1, ins_nI (a := j - b) (n := n) (by omega) (by omega)] at q1
        exact absurd q1 (by decide)
theorem IW.plan {j pv : Nat} (hW : IW st rl j pv vs o h e μ w) (hv : VsR vs) (hg : Gm μ j 0 = 1) : vs pv 6 0 = Gm μ j 2 ∧ vs pv 6 1 = Gm μ j 3 ∧ ∃ a : Nat, a < 4 ∧ Gm μ j 2 = nI a := by
  obtain ⟨p17, hl⟩ := hW
  rcases hl with ⟨_, z, _⟩ | ⟨g0, tm, ⟨wf, ve, v, b1, b2, b3, b4, b5⟩, nd, sv, its, hV, hL, hs⟩
  · exact absurd (hg.symm.trans z) (by decide)
  · obtain ⟨⟨wf', ve', q1, q2, q3, q4, q5⟩, _⟩ := hL.1.1
    obtain ⟨a, b, c1, c2, c3, c4, c5⟩ := hv pv p17
    have := c5 (by omega)
    have ea : a = wf' := by omega
    have eb : b = ve' := by omega
    subst ea eb
    exact ⟨c3.trans q4.symm, c4.trans q5.symm, a, c1, q4⟩
theorem instance_call (y1 y2 : Int32) (h : WR T rl w e I H pl vs μ) : ∃ a, xe_instance pl vs I H y1 y2 = some a ∧ md_instance μ y1 y2 = some a := by
  have hI := h.2.2.2.2.2
  unfold xe_instance md_instance
  rcases find_sim hI y1 with ⟨f1, f2⟩ | ⟨j, hj, rfl, f1, f2, f3, f4⟩
  · rw [f1, f2, Option.bind_some, Option.bind_some, if_neg (by decide)]
    exact ⟨_, rfl, rfl⟩
  · rw [f1, f2, Option.bind_some, Option.bind_some, if_pos rfl]
    dsimp only
    obtain ⟨pw, pn, _⟩ := (hI j hj).plan h.2.2.2.2.1 f3
    obtain ⟨p17, hl⟩ := hI j hj
    rcases hl with ⟨z, _⟩ | ⟨g0, tm, hvv, nd, sv, its, hV, hL, hs⟩
    · exact absurd z f4
    obtain ⟨⟨H1, H2, ⟨i1, i2, i3, i4, i5⟩, ⟨E, H4, H4b⟩, _⟩, G1, G2, G3, _⟩ := hL
    have e10 : (10 : Int32) = nI 10 := rfl
    have e20 : (20 : Int32) = nI 20 := rfl
    rw [gd_pos hj]
    rcases sub_arg (b := 10) (n := 4) (by decide) (by decide) y2 with ⟨a, ha, rfl⟩ | ⟨q1, q2⟩
    · rw [e10, pk_sub (a := 10 + a) (b := 10) (by omega), show 10 + a - 10 = a by omega, ins4 ha, Option.bind_some, if_pos rfl, rd_nI ha (by decide), Option.bind_some, show md_isIn (nI (10 + a)) (nI 10) 13 = some true from isIn_nI (b := 10) (c := 13) (by omega) (by omega) (by decide), Option.bind_some, if_pos rfl, nI_add, pk_sub (by omega), show 10 + (10 + a) - 10 = 10 + a by omega, of_nI, Option.bind_some, rd_nI (by omega) (by decide), Option.bind_some]
      exact ⟨_, rfl, by rw [i4 a ha]⟩
    · have q1' : xs_isInside (y2 - 10) 4 = some false := q1
      have q2' : md_isIn y2 10 13 = some false := q2
      rw [q1', q2', Option.bind_some, Option.bind_some, if_neg (show ¬ (false = true) by decide), if_neg (show ¬ (false = true) by decide)]
      rcases sub_arg (b := 20) (n := 8) (by decide) (by decide) y2 with ⟨a, ha, rfl⟩ | ⟨q3, q4⟩
      · rw [e20, pk_sub (a := 20 + a) (b := 20) (by omega), show 20 + a - 20 = a by omega, ins8 ha, Option.bind_some, if_pos rfl, rd_nI ha (by decide), Option.bind_some, show md_isIn (nI (20 + a)) (nI 20) 27 = some true from isIn_nI (b := 20) (c := 27) (by omega) (by omega) (by decide), Option.bind_some, if_pos rfl, show (14 : Int32) = nI 14 from rfl, nI_add, pk_sub (by omega), show 14 + (20 + a) - 20 = 14 + a by omega, of_nI, Option.bind_some, rd_nI (by omega) (by decide), Option.bind_some]
        exact ⟨_, rfl, by rw [(i5 a ha).1]⟩
      · have q3' : xs_isInside (y2 - 20) 8 = some false := q3
        have q4' : md_isIn y2 20 27 = some false := q4
        rw [q3', q4', Option.bind_some, Option.bind_some, if_neg (show ¬ (false = true) by decide), if_neg (show ¬ (false = true) by decide)]
        rcases arg_cases (n := 9) (by decide) (by decide) y2 with ⟨a, ha, rfl⟩ | ⟨q5, q6⟩
        · rw [show md_isIn (nI a) 0 8 = some true from isIn_nI (b := 0) (c := 8) (Nat.zero_le _) (by omega) (by decide), Option.bind_some, if_pos rfl, add1_nI, of_nI, Option.bind_some, rd_nI (by omega) (by decide), Option.bind_some, gd_pos p17, gd_pos p17, pw, pn]
          have ha9 : a = 0 ∨ a = 1 ∨ a = 2 ∨ a = 3 ∨ a = 4 ∨ a = 5 ∨ a = 6 ∨ a = 7 ∨ a = 8 := by omega
          rcases ha9 with z | z | z | z | z | z | z | z | z <;> subst z
          · exact ⟨_, rfl, congrArg some G1⟩
          · exact ⟨_, rfl, rfl⟩
          · exact ⟨_, rfl, rfl⟩
          · exact ⟨_, rfl, congrArg some G2⟩
          · exact ⟨_, rfl, congrArg some G3⟩
          · exact ⟨_, rfl, congrArg some i1⟩
          · exact ⟨_, rfl, congrArg some i2⟩
          · exact ⟨_, rfl, congrArg some i3⟩
          · exact ⟨_, rfl, congrArg some (H4.2.2.1.trans H4.2.1.symm)⟩
        · have q6' : md_isIn y2 0 8 = some false := q6
          have hne : ∀ a : Nat, a < 9 → y2 ≠ nI a := fun a ha q => by
            subst q
            rw [ins_nI ha (by decide)] at q5
            exact absurd q5 (by decide)
          rw [q6', Option.bind_some, if_neg (show ¬ (false = true) by decide), if_neg (show ¬ y2 = 0 from hne 0 (by decide)), if_neg (show ¬ y2 = 1 from hne 1 (by decide)), if_neg (show ¬ y2 = 2 from hne 2 (by decide)), if_neg (show ¬ y2 = 3 from hne 3 (by decide)), if_neg (show ¬ y2 = 4 from hne 4 (by decide)), if_neg (show ¬ y2 = 5 from hne 5 (by decide)), if_neg (show ¬ y2 = 6 from hne 6 (by decide)), if_neg (show ¬ y2 = 7 from hne 7 (by decide)), if_neg (show ¬ y2 = 8 from hne 8 (by decide))]
          exact ⟨_, rfl, rfl⟩
theorem below_arg {v : Nat} (hv : v < 2 ^ 31) (z : Int32) : (∃ k : Nat, k < v ∧ z = nI k) ∨ (xs_isInside z (nI v) = some false ∧ md_isIn z 0 (nI v - 1) = some false) := by
  by_cases q : 0 < v
  · rcases arg_cases q hv z with h | ⟨h1, h2⟩
    · exact Or.inl h
    · refine Or.inr ⟨h1, ?_⟩
      rw [show (nI v - 1 : Int32) = nI (v - 1) from by rw [show (1 : Int32) = nI 1 from rfl, pk_sub (by omega)]]
      exact h2
  · have hv0 : v = 0 := by omega
    subst hv0
    refine Or.inr ?_
    by_cases q2 : z < 0
    · exact ⟨ins_neg q2, isIn_lo q2⟩
    · obtain ⟨a, ha, rfl⟩ := nI_of q2
      refine ⟨ins_out (Nat.zero_le _) ha, isIn_hi ?_⟩
      rw [Int32.lt_iff_toInt_lt, nI_toInt ha]
      have : (nI 0 - 1 : Int32).toInt = -1 := by decide
      omega
/-- how many entries are kept -/
theorem kept_ev {i E : Nat} (hi : i < 6) (hH : HisR 200 i E h μ) (hE : E < 4000) : ∃ K : Nat, K ≤ 200 ∧ K ≤ E ∧ hi_kept 200 h = some (nI K) ∧ md_keptEntries μ (nI i) = some (nI K) := by
  unfold hi_kept md_keptEntries
  rw [of_9, Option.bind_some, rd_nI (by omega) (by decide), Option.bind_some, hH.2.1, hH.2.2.1]
  by_cases q : E < 200
  · refine ⟨E, by omega, Nat.le_refl _, ?_, ?_⟩
    · rw [if_neg (show ¬ Int32.ofNat 200 < nI E from nI_nlt (a := 200) (by omega) (by decide))]
    · rw [if_pos (show nI E < 200 from nI_lt (b := 200) q (by decide))]
  · refine ⟨200, Nat.le_refl _, by omega, ?_, ?_⟩
    · by_cases q2 : E = 200
      · subst q2; rfl
      · rw [if_pos (show Int32.ofNat 200 < nI E from nI_lt (a := 200) (by omega) (by omega))]; rfl
    · rw [if_neg (show ¬ nI E < 200 from nI_nlt (b := 200) (by omega) (by omega))]; rfl
/-- an entry that is kept -/
theorem ent_ev {i E K k : Nat} (hi : i < 6) (hH : HisR 200 i E h μ) (hk : k < K) (hK : K ≤ 200) (hKE : K ≤ E) : ∃ t kd v : Nat, t < 131072 ∧ kd < 16 ∧ v < 8 ∧ hi_minuteOf 200 h (nI k) = some (nI t) ∧ hi_kindOf 200 h (nI k) = some (nI kd) ∧ hi_valueOf 200 h (nI k) = some (nI v) ∧ μ 5 (21 + 1262 * i + (22 + 3 * k)) = nI t ∧ μ 5 (21 + 1262 * i + (23 + 3 * k)) = nI kd ∧ μ 5 (21 + 1262 * i + (24 + 3 * k)) = nI v := by
  obtain ⟨t, kd, v, q1, q2, q3, q4, q5, q6, q7⟩ := hH.2.2.2 rfl k (by omega) (by omega)
  have hin : xs_isInside (nI k) (Int32.ofNat 200) = some true := ins_nI (n := 200) (by omega) (by decide)
  refine ⟨t, kd, v, q1, q2, q3, ?_, ?_, ?_, q5, q6, q7⟩
  · unfold hi_minuteOf
    rw [hin, Option.bind_some, if_pos rfl, rd_nI (by omega) (by decide), Option.bind_some, q4, dec_t q1 q2 q3]
  · unfold hi_kindOf
    rw [hin, Option.bind_some, if_pos rfl, rd_nI (by omega) (by decide), Option.bind_some, q4, dec_k q1 q2 q3]
  · unfold hi_valueOf
    rw [hin, Option.bind_some, if_pos rfl, rd_nI (by omega) (by decide), Option.bind_some, q4, dec_v q1 q2 q3]
theorem IW.his {j pv : Nat} (hW : IW st rl j pv vs o h e μ w) (hg : Gm μ j 0 = 1) : ∃ E : Nat, HisR rl j E h μ ∧ E < 4000 := by
  obtain ⟨p17, hl⟩ := hW
  rcases hl with ⟨_, z, _⟩ | ⟨g0, tm, hvv, nd, sv, its, hV, hL, hs⟩
  · exact absurd (hg.symm.trans z) (by decide)
  · obtain ⟨E, E1, E2⟩ := hL.1.2.2.2.1
    exact ⟨E, E1, by unfold Pot at E2; omega⟩
theorem entry_call (y1 y2 y3 : Int32) (h : WR T 200 w e I H pl vs μ) : ∃ a, xe_entry 200 I H y1 y2 y3 = some a ∧ md_entry μ y1 y2 y3 = some a := by
  have hI := h.2.2.2.2.2
  unfold xe_entry md_entry
  rcases find_sim hI y1 with ⟨f1, f2⟩ | ⟨j, hj, rfl, f1, f2, f3, f4⟩
  · rw [f1, f2, Option.bind_some, Option.bind_some, if_neg (by decide)]
    exact ⟨_, rfl, rfl⟩
  · rw [f1, f2, Option.bind_some, Option.bind_some, if_pos rfl]
    dsimp only
    obtain ⟨E, hH, hE⟩ := (hI j hj).his f3
    obtain ⟨K, k1, k2, k3, k4⟩ := kept_ev hj hH hE
    rw [gd_pos hj, k3, Option.bind_some, k4, Option.bind_some]
    rcases below_arg (v := K) (by omega) y2 with ⟨k, hk, rfl⟩ | ⟨q1, q2⟩
    · obtain ⟨t, kd, v, q1, q2, q3, q4, q5, q6, q7, q8, q9⟩ := ent_ev hj hH hk k1 k2
      have hin : md_isIn (nI k) 0 (nI K - 1) = some true := by
        rw [show (nI K - 1 : Int32) = nI (K - 1) from by rw [show (1 : Int32) = nI 1 from rfl, pk_sub (by omega)]]
        exact isIn_nI (b := 0) (Nat.zero_le _) (by omega) (by omega)
      rw [ins_nI hk (by omega), Option.bind_some, if_pos rfl, hin, Option.bind_some, if_pos rfl, q4, Option.bind_some, q5, Option.bind_some, q6, Option.bind_some]
      rcases arg_cases (n := 3) (by decide) (by decide) y3 with ⟨b, hb, rfl⟩ | ⟨w1, w2⟩
      · rw [show md_isIn (nI b) 0 2 = some true from isIn_nI (b := 0) (c := 2) (Nat.zero_le _) (by omega) (by decide), Option.bind_some, if_pos rfl, show (22 : Int32) = nI 22 from rfl, show (3 : Int32) = nI 3 from rfl, pk_mul, nI_add, nI_add, of_nI, Option.bind_some, rd_nI (by omega) (by decide), Option.bind_some]
        have hb3 : b = 0 ∨ b = 1 ∨ b = 2 := by omega
        rcases hb3 with z | z | z <;> subst z
        · refine ⟨_, rfl, ?_⟩
          rw [show 22 + 3 * k + 0 = 22 + 3 * k by omega, q7]
        · refine ⟨_, rfl, ?_⟩
          rw [show 22 + 3 * k + 1 = 23 + 3 * k by omega, q8]
        · refine ⟨_, rfl, ?_⟩
          rw [show 22 + 3 * k + 2 = 24 + 3 * k by omega, q9]
      · have w2' : md_isIn y3 0 2 = some false := w2
        have hne : ∀ a : Nat, a < 3 → y3 ≠ nI a := fun a ha q => by
          subst q
          rw [ins_nI ha (by decide)] at w1
          exact absurd w1 (by decide)
        rw [w2', Option.bind_some, if_neg (show ¬ (false = true) by decide), if_neg (show ¬ y3 = 0 from hne 0 (by decide)), if_neg (show ¬ y3 = 1 from hne 1 (by decide)), if_neg (show ¬ y3 = 2 from hne 2 (by decide))]
        exact ⟨_, rfl, rfl⟩
    · rw [q1, q2, Option.bind_some, Option.bind_some, if_neg (show ¬ (false = true) by decide), if_neg (show ¬ (false = true) by decide)]
      exact ⟨_, rfl, rfl⟩
theorem ents_loop {i E K : Nat} (hi : i < 6) (hH : HisR 200 i E h μ) (hK : K ≤ 200) (hKE : K ≤ E) (k3 : hi_kept 200 h = some (nI K)) (k4 : md_keptEntries μ (nI i) = some (nI K)) (kd : Int32) : ∀ (s k n m : Nat) (acc : Int32), k + s = K → s < n → s < m → ∃ c, hi_entriesOf_4 N 200 h n kd acc (nI k) = some c ∧ md_entriesOf_5 N μ m (nI i) kd acc (nI k) = some c
  | 0, k, n, m, acc, hk, hn, hm => by
    obtain ⟨n, rfl⟩ : ∃ x, n = x + 1 := ⟨n - 1, by omega⟩
    obtain ⟨m, rfl⟩ : ∃ x, m = x + 1 := ⟨m - 1, by omega⟩
    have hlt : ¬ nI k < nI K := nI_nlt (by omega) (by omega)
    unfold hi_entriesOf_4 md_entriesOf_5
    rw [k3, k4, Option.bind_some, Option.bind_some, if_neg hlt, if_neg hlt]
    exact ⟨_, rfl, rfl⟩
  | s + 1, k, n, m, acc, hk, hn, hm => by
    obtain ⟨n, rfl⟩ : ∃ x, n = x + 1 := ⟨n - 1, by omega⟩
    obtain ⟨m, rfl⟩ : ∃ x, m = x + 1 := ⟨m - 1, by omega⟩
    have hlt : nI k < nI K := nI_lt (by omega) (by omega)
    obtain ⟨t, kd', v, q1, q2, q3, q4, q5, q6, q7, q8, q9⟩ := ent_ev hi hH (show k < K by omega) hK hKE
    have eX : hi_entriesOf_4 N 200 h (n + 1) kd acc (nI k) = if nI kd' = kd then hi_entriesOf_4 N 200 h n kd (acc + 1) (nI (k + 1)) else hi_entriesOf_4 N 200 h n kd acc (nI (k + 1)) := by
      conv => lhs; unfold hi_entriesOf_4
      rw [k3, Option.bind_some, if_pos hlt, q5, Option.bind_some, nI_1]
    have eM : md_entriesOf_5 N μ (m + 1) (nI i) kd acc (nI k) = if nI kd' = kd then md_entriesOf_5 N μ m (nI i) kd (acc + 1) (nI (k + 1)) else md_entriesOf_5 N μ m (nI i) kd acc (nI (k + 1)) := by
      conv => lhs; unfold md_entriesOf_5
      rw [k4, Option.bind_some, if_pos hlt, of_23, Option.bind_some, rd_nI (by omega) (by decide), Option.bind_some, q8, nI_1, Int32.add_zero]
    rw [eX, eM]
    by_cases q : nI kd' = kd
    · rw [if_pos q, if_pos q]
      exact ents_loop hi hH hK hKE k3 k4 kd s (k + 1) n m _ (by omega) (by omega) (by omega)
    · rw [if_neg q, if_neg q]
      exact ents_loop hi hH hK hKE k3 k4 kd s (k + 1) n m _ (by omega) (by omega) (by omega)
/-- what the reference answers when it has gone through the entries -/
def repT (N : Nat) (μ : Mem) (y1 y2 y3 : Int32) : Option Int32 :=
  if y2 = 0 then some y3 else if y2 = 1 then ((md_entriesOf N μ y1 2).bind fun k125 => some k125) else if y2 = 2 then ((md_entriesOf N μ y1 6).bind fun k133 => some k133) else if y2 = 3 then ((md_entriesOf N μ y1 7).bind fun k141 => some k141) else if y2 = 4 then ((md_entriesOf N μ y1 0).bind fun k148 => (md_entriesOf N μ y1 5).bind fun k154 => some (k148 + k154)) else ((md_entriesOf N μ y1 1).bind fun k162 => some k162)
theorem last_loop {i E K : Nat} (hi : i < 6) (hH : HisR 200 i E h μ) (hK : K ≤ 200) (hKE : K ≤ E) (k3 : hi_kept 200 h = some (nI K)) (k4 : md_keptEntries μ (nI i) = some (nI K)) (y2 : Int32) : ∀ (s k n m : Nat) (acc : Int32), k + s = K → s < n → s < m → ∃ c, hi_lastStatus_4 N 200 h n acc (nI k) = some c ∧ md_replayed_24 N μ m (nI i) y2 acc (nI k) = repT N μ (nI i) y2 c
  | 0, k, n, m, acc, hk, hn, hm => by
    obtain ⟨n, rfl⟩ : ∃ x, n = x + 1 := ⟨n - 1, by omega⟩
    obtain ⟨m, rfl⟩ : ∃ x, m = x + 1 := ⟨m - 1, by omega⟩
    have hlt : ¬ nI k < nI K := nI_nlt (by omega) (by omega)
    unfold hi_lastStatus_4 md_replayed_24
    rw [k3, k4, Option.bind_some, Option.bind_some, if_neg hlt, if_neg hlt]
    exact ⟨_, rfl, rfl⟩
  | s + 1, k, n, m, acc, hk, hn, hm => by
    obtain ⟨n, rfl⟩ : ∃ x, n = x + 1 := ⟨n - 1, by omega⟩
    obtain ⟨m, rfl⟩ : ∃ x, m = x + 1 := ⟨m - 1, by omega⟩
    have hlt : nI k < nI K := nI_lt (by omega) (by omega)
    obtain ⟨t, kd', v, q1, q2, q3, q4, q5, q6, q7, q8, q9⟩ := ent_ev hi hH (show k < K by omega) hK hKE
    have eX : hi_lastStatus_4 N 200 h (n + 1) acc (nI k) = if nI kd' = 11 then hi_lastStatus_4 N 200 h n (nI v) (nI (k + 1)) else hi_lastStatus_4 N 200 h n acc (nI (k + 1)) := by
      conv => lhs; unfold hi_lastStatus_4
      rw [k3, Option.bind_some, if_pos hlt, q5, Option.bind_some, q6, Option.bind_some, nI_1]
    have eM : md_replayed_24 N μ (m + 1) (nI i) y2 acc (nI k) = if nI kd' = 11 then md_replayed_24 N μ m (nI i) y2 (nI v) (nI (k + 1)) else md_replayed_24 N μ m (nI i) y2 acc (nI (k + 1)) := by
      conv => lhs; unfold md_replayed_24
      rw [k4, Option.bind_some, if_pos hlt, of_23, Option.bind_some, rd_nI (by omega) (by decide), Option.bind_some, q8, of_24, Option.bind_some, rd_nI (by omega) (by decide), Option.bind_some, q9, nI_1]
    rw [eX, eM]
    by_cases q : nI kd' = 11
    · rw [if_pos q, if_pos q]
      exact last_loop hi hH hK hKE k3 k4 y2 s (k + 1) n m _ (by omega) (by omega) (by omega)
    · rw [if_neg q, if_neg q]
      exact last_loop hi hH hK hKE k3 k4 y2 s (k + 1) n m _ (by omega) (by omega) (by omega)
theorem replayed_call (hN : 300 ≤ N) (y1 y2 : Int32) (h : WR T 200 w e I H pl vs μ) : ∃ a, xe_replayed N 200 I H y1 y2 = some a ∧ md_replayed N μ y1 y2 = some a := by
  have hI := h.2.2.2.2.2
  unfold xe_replayed md_replayed
  rcases find_sim hI y1 with ⟨f1, f2⟩ | ⟨j, hj, rfl, f1, f2, f3, f4⟩
  · rw [f1, f2, Option.bind_some, Option.bind_some, if_neg (by decide)]
    exact ⟨_, rfl, rfl⟩
  · rw [f1, f2, Option.bind_some, Option.bind_some, if_pos rfl]
    dsimp only
    obtain ⟨E, hH, hE⟩ := (hI j hj).his f3
    obtain ⟨K, k1, k2, k3, k4⟩ := kept_ev hj hH hE
    rw [gd_pos hj]
    have hent : ∀ kd, ∃ c, hi_entriesOf N 200 (H j) kd = some c ∧ md_entriesOf N μ (nI j) kd = some c := fun kd => ents_loop hj hH k1 k2 k3 k4 kd K 0 N N 0 (by omega) (by omega) (by omega)
    obtain ⟨c0, c1, c2⟩ := last_loop (N := N) hj hH k1 k2 k3 k4 y2 K 0 N N 0 (by omega) (by omega) (by omega)
    have c1' : hi_lastStatus N 200 (H j) = some c0 := c1
    have c2' : md_replayed_24 N μ N (nI j) y2 0 0 = repT N μ (nI j) y2 c0 := c2
    rw [c1', c2', Option.bind_some]
    obtain ⟨a2, x2, m2⟩ := hent 2
    obtain ⟨a6, x6, m6⟩ := hent 6
    obtain ⟨a7, x7, m7⟩ := hent 7
    obtain ⟨a0, x0, m0⟩ := hent 0
    obtain ⟨a5, x5, m5⟩ := hent 5
    obtain ⟨a1, x1, m1⟩ := hent 1
    unfold repT hi_attempts
    rw [x2, m2, x6, m6, x7, m7, x0, m0, x5, m5, x1, m1]
    simp only [Option.bind_some]
    rcases arg_cases (n := 6) (by decide) (by decide) y2 with ⟨b, hb, rfl⟩ | ⟨w1, w2⟩
    · rw [show md_isIn (nI b) 0 5 = some true from isIn_nI (b := 0) (c := 5) (Nat.zero_le _) (by omega) (by decide), Option.bind_some, if_pos (show true = true from rfl)]
      have hb6 : b = 0 ∨ b = 1 ∨ b = 2 ∨ b = 3 ∨ b = 4 ∨ b = 5 := by omega
      rcases hb6 with z | z | z | z | z | z <;> subst z <;> exact ⟨_, rfl, rfl⟩
    · have w2' : md_isIn y2 0 5 = some false := w2
      have hne : ∀ a : Nat, a < 6 → y2 ≠ nI a := fun a ha q => by
        subst q
        rw [ins_nI ha (by decide)] at w1
        exact absurd w1 (by decide)
      rw [w2', Option.bind_some, if_neg (show ¬ (false = true) by decide), if_neg (show ¬ y2 = 0 from hne 0 (by decide)), if_neg (show ¬ y2 = 1 from hne 1 (by decide)), if_neg (show ¬ y2 = 2 from hne 2 (by decide)), if_neg (show ¬ y2 = 3 from hne 3 (by decide)), if_neg (show ¬ y2 = 4 from hne 4 (by decide)), if_neg (show ¬ y2 = 5 from hne 5 (by decide))]
      exact ⟨_, rfl, rfl⟩
end PD5
