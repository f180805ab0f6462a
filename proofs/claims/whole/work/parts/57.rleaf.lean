/-! waits, signals and sets read -/
section PA3
variable {t r μ r' μ' p p' : Mem} {a len N j n : Nat}
theorem at_fn : MFn n μ (up μ 0 12 (μ 0 12 + 1)) := ⟨fun c c0 _ => up_row c0, fun k k1 _ => up_in k1, fun x _ => by rw [up_cell (by decide)]⟩
theorem wait_out (hN : 5 ≤ N) (h : Sc t r (up μ 0 12 (μ 0 12 + 1)) a len) (hj : j < 24) (hn : n < 64) (hf : Fresh p μ j n 1 2) : IOut t r μ p len j n ((re_readNumber N t r).bind fun (k179, r179) => some (r179, up p 10 j k179)) (md_readsWait N (nI n) μ) := by
  obtain ⟨f1, f2, f3, f4, f5, f6, f7, f8, f9, f10, f11, f12⟩ := hf
  unfold md_readsWait
  rcases number_sim (N := N) h hN with ⟨am, a5, r5, μ5, n1, n2, n3, n4, n5, n6, n7⟩ | ⟨r5, n2, n3, n4, n5⟩
  · rw [n2, n3, Option.bind_some, Option.bind_some]
    dsimp only
    rw [n7, show (1 : Int32) = nI 1 from rfl, put_ev hn (by omega), Option.bind_some]
    have e5 : ∀ w, SvR μ5 n w = SvR μ n w := fun w => by show μ5 1 _ = _; rw [n6.1 1 (by decide)]; exact up_cell (by decide)
    refine Or.inl ⟨r5, _, _, a5, rfl, rfl, n4.put, n5, PFj.up (by omega), at_fn.trans (n6.fn.trans (MFn.put (by omega))), ?_, ?_, Or.inl (by rw [up_other (by omega)]; exact f2), Or.inr (Or.inl ⟨by rw [up_other (by omega)]; exact f1, ?_, am, n1, up_at, up_at⟩)⟩
    · show up _ _ _ _ _ _ = _
      rw [up_in (by omega), up_other (by omega)]; exact (e5 7).trans f12
    · show up _ _ _ _ _ _ = _
      rw [up_in (by omega), up_other (by omega), f2]; exact (e5 4).trans f9
    · show up _ _ _ _ _ _ = _
      rw [up_in (by omega)]; exact (e5 0).trans f5
  · rw [n2, n3, Option.bind_some, Option.bind_some]
    dsimp only
    rw [show (1 : Int32) = nI 1 from rfl, put_ev hn (by omega), Option.bind_some]
    exact Or.inr ⟨r5, _, _, rfl, rfl, n4.put, n5, PFj.up (by omega), at_fn.trans (MFn.put (by omega))⟩
theorem signal_out (hN : 5 ≤ N) (h : Sc t r (up μ 0 12 (μ 0 12 + 1)) a len) (hj : j < 24) (hn : n < 64) (hf : Fresh p μ j n 2 3) : IOut t r μ p len j n (re_readSignal N t (nI j) r p) (md_readsSignal N (nI n) μ) := by
  obtain ⟨f1, f2, f3, f4, f5, f6, f7, f8, f9, f10, f11, f12⟩ := hf
  unfold re_readSignal md_readsSignal
  rcases code_sim h with ⟨c, r1, μ1, y0, y1, y2, y3, y4, y5, y6⟩ | ⟨r1, y1, y2, y3, y4⟩
  · rw [y1, y2, Option.bind_some, Option.bind_some]
    dsimp only
    rw [if_pos rfl, ck_nI hj (by decide), nI_clamp (by omega), y6, show (1 : Int32) = nI 1 from rfl, put_ev hn (by omega), Option.bind_some]
    have e1 : ∀ w, SvR μ1 n w = SvR μ n w := fun w => by show μ1 1 _ = _; rw [y5.1 1 (by decide)]; exact up_cell (by decide)
    rcases takes_sim (c := 44) (y3.put (x := (1024 + n) * 9 + 1) (v := nI c)) (by decide) with ⟨q, r2, μ2, v1, v2, v3, v4, v5⟩ | ⟨q, v1, v2⟩
    · rw [v1, v2, Option.bind_some, Option.bind_some]
      dsimp only
      rw [if_pos rfl, if_pos rfl]
      have e2 : ∀ w, SvR μ2 n w = SvR (up μ1 1 ((1024 + n) * 9 + 1) (nI c)) n w := fun w => by show μ2 1 _ = _; rw [v5.1 1 (by decide)]
      rcases number_sim (N := N) v3 hN with ⟨am, a5, r5, μ5, n1, n2, n3, n4, n5, n6, n7⟩ | ⟨r5, n2, n3, n4, n5⟩
      · rw [n2, n3, Option.bind_some, Option.bind_some]
        dsimp only
        rw [if_pos rfl, n7, show (2 : Int32) = nI 2 from rfl, put_ev hn (by omega), Option.bind_some, ck_nI hj (by decide)]
        have e5 : ∀ w, w ≠ 1 → SvR μ5 n w = SvR μ n w := fun w hw => by
          show μ5 1 _ = _
          rw [n6.1 1 (by decide)]
          refine (e2 w).trans ?_
          show up _ _ _ _ _ _ = _
          rw [up_in (by omega)]; exact e1 w
        have e51 : SvR μ5 n 1 = nI c := by
          show μ5 1 _ = _
          rw [n6.1 1 (by decide)]
          exact (e2 1).trans up_at
        refine Or.inl ⟨r5, _, _, a5, rfl, rfl, n4.put, y4.trans (v4.trans n5), (PFj.up (by omega)).trans (PFj.up (by omega)), at_fn.trans (y5.fn.trans ((MFn.put (by omega)).trans (v5.fn.trans (n6.fn.trans (MFn.put (by omega)))))), ?_, ?_, Or.inl ?_, Or.inr (Or.inr (Or.inl ⟨?_, ?_, ⟨c, y0, ?_, ?_⟩, Or.inr ⟨am, n1, up_at, up_at⟩⟩))⟩
        · show up _ _ _ _ _ _ = _
          rw [up_in (by omega), up_other (by omega), up_other (by omega)]; exact (e5 7 (by omega)).trans f12
        · show up _ _ _ _ _ _ = _
          rw [up_in (by omega), up_other (by omega), up_other (by omega), f2]; exact (e5 4 (by omega)).trans f9
        · rw [up_other (by omega), up_other (by omega)]; exact f2
        · rw [up_other (by omega), up_other (by omega)]; exact f1
        · show up _ _ _ _ _ _ = _
          rw [up_in (by omega)]; exact (e5 0 (by omega)).trans f5
        · rw [up_other (by omega), up_at]
        · show up _ _ _ _ _ _ = _
          rw [up_in (by omega)]; exact e51
      · rw [n2, n3, Option.bind_some, Option.bind_some]
        dsimp only
        rw [if_neg (by decide), ck_nI hj (by decide)]
        exact Or.inr ⟨r5, _, _, rfl, rfl, n4, y4.trans (v4.trans n5), (PFj.up (by omega)).trans (PFj.up (by omega)), at_fn.trans (y5.fn.trans ((MFn.put (by omega)).trans v5.fn))⟩
    · rw [v1, v2, Option.bind_some, Option.bind_some]
      dsimp only
      rw [if_neg (by decide), if_neg (by decide)]
      refine Or.inl ⟨r1, _, _, a + 1, rfl, rfl, y3.put, y4, PFj.up (by omega), at_fn.trans (y5.fn.trans (MFn.put (by omega))), ?_, ?_, Or.inl ?_, Or.inr (Or.inr (Or.inl ⟨?_, ?_, ⟨c, y0, up_at, up_at⟩, Or.inl ⟨?_, ?_⟩⟩))⟩
      · show up _ _ _ _ _ _ = _
        rw [up_in (by omega), up_other (by omega)]; exact (e1 7).trans f12
      · show up _ _ _ _ _ _ = _
        rw [up_in (by omega), up_other (by omega), f2]; exact (e1 4).trans f9
      · rw [up_other (by omega)]; exact f2
      · rw [up_other (by omega)]; exact f1
      · show up _ _ _ _ _ _ = _
        rw [up_in (by omega)]; exact (e1 0).trans f5
      · rw [up_other (by omega), f4]; rfl
      · show up _ _ _ _ _ _ = _
        rw [up_in (by omega)]; exact (e1 2).trans f7
  · rw [y1, y2, Option.bind_some, Option.bind_some]
    dsimp only
    rw [if_neg (by decide), ck_nI hj (by decide), takes_dead y3.dead, Option.bind_some]
    dsimp only
    rw [if_neg (by decide), nI_clamp (by omega)]
    exact Or.inr ⟨r1, _, _, rfl, rfl, y3, y4, PFj.up (by omega), at_fn⟩
/-- a number with or without a sign -/
theorem signed_sim (h : Sc t r μ a len) (hN : 5 ≤ N) :
    (∃ (v : Int32) (a' : Nat) (r' μ' : Mem), ((re_takes t 45 r).bind fun (k, r1) => if k = true then (re_readNumber N t r1).bind fun (k2, r2) => some (-k2, r2) else (re_readNumber N t r1).bind fun (k2, r2) => some (k2, r2)) = some (v, r') ∧ md_takesSigned N μ = some (true, μ') ∧ Sc t r' μ' a' len ∧ RSf r r' ∧ MSf μ μ' ∧ μ' 0 18 = v) ∨
    (∃ (v : Int32) (r' μ' : Mem), ((re_takes t 45 r).bind fun (k, r1) => if k = true then (re_readNumber N t r1).bind fun (k2, r2) => some (-k2, r2) else (re_readNumber N t r1).bind fun (k2, r2) => some (k2, r2)) = some (v, r') ∧ md_takesSigned N μ = some (false, μ') ∧ Bad r' μ' len ∧ RSf r r' ∧ MSf μ μ') := by
  have hup : ∀ {r2 μ2 : Mem} {a2 : Nat} {x : Int32}, Sc t r2 μ2 a2 len → Sc t r2 (up μ2 0 18 x) a2 len := fun hS => ⟨hS.1, hS.2.1, hS.2.2.1, by rw [up_in (by omega)]; exact hS.2.2.2.1, by rw [up_in (by omega)]; exact hS.2.2.2.2.1, hS.2.2.2.2.2.1, hS.2.2.2.2.2.2.1, by rw [up_in (by omega)]; exact hS.2.2.2.2.2.2.2.1, by rw [up_row (by decide)]; exact hS.2.2.2.2.2.2.2.2⟩
  have h18 : ∀ {μ2 : Mem} {x : Int32}, MSf μ2 (up μ2 0 18 x) := fun {μ2 x} => ⟨fun c hc => up_row hc, fun k _ k2 => up_in k2⟩
  unfold md_takesSigned
  rcases takes_sim (c := 45) h (by decide) with ⟨q, r1, μ1, x1, x2, x3, x4, x5⟩ | ⟨q, x1, x2⟩
  · rw [x1, x2, Option.bind_some, Option.bind_some]
    dsimp only
    rw [if_pos rfl]
    rcases number_sim (N := N) x3 hN with ⟨am, a5, r5, μ5, n1, n2, n3, n4, n5, n6, n7⟩ | ⟨r5, n2, n3, n4, n5⟩
    · refine Or.inl ⟨-nI am, a5, r5, up μ5 0 18 (-nI am), ?_, ?_, hup n4, x4.trans n5, x5.trans (n6.trans h18), up_at⟩
      · rw [n2]; rfl
      · rw [n3, Option.bind_some]
        dsimp only
        rw [if_pos rfl, if_pos rfl, n7]
    · refine Or.inr ⟨-0, r5, μ1, by rw [n2]; rfl, ?_, n4, x4.trans n5, x5⟩
      rw [n3, Option.bind_some]
      dsimp only
      rw [if_neg (by decide)]
  · rw [x1, x2, Option.bind_some, Option.bind_some]
    dsimp only
    rw [if_neg (by decide)]
    rcases number_sim (N := N) h hN with ⟨am, a5, r5, μ5, n1, n2, n3, n4, n5, n6, n7⟩ | ⟨r5, n2, n3, n4, n5⟩
    · refine Or.inl ⟨nI am, a5, r5, up μ5 0 18 (nI am), by rw [n2]; rfl, ?_, hup n4, n5, n6.trans h18, up_at⟩
      rw [n3, Option.bind_some]
      dsimp only
      rw [if_pos rfl, if_neg (by decide), n7]
    · refine Or.inr ⟨0, r5, μ, by rw [n2]; rfl, ?_, n4, n5, MSf.refl⟩
      rw [n3, Option.bind_some]
      dsimp only
      rw [if_neg (by decide)]
theorem signed_dead (h : r 0 4 ≠ 0) (hN : 1 ≤ N) : ((re_takes t 45 r).bind fun (k, r1) => if k = true then (re_readNumber N t r1).bind fun (k2, r2) => some (-k2, r2) else (re_readNumber N t r1).bind fun (k2, r2) => some (k2, r2)) = some (0, r) := by
  rw [takes_dead h, Option.bind_some]
  dsimp only
  rw [if_neg (by decide), number_dead h hN]; rfl
theorem set41_ev (hj : j < 24) : re_readSet_41 N t (nI j) r p = ((re_takes t 45 r).bind fun (k, r1) => if k = true then (re_readNumber N t r1).bind fun (k2, r2) => some (-k2, r2) else (re_readNumber N t r1).bind fun (k2, r2) => some (k2, r2)).bind fun (v, r2) => some (r2, up p 10 j v) := by
  unfold re_readSet_41
  cases re_takes t 45 r with
  | none => rfl
  | some x =>
    obtain ⟨k, r1⟩ := x
    rw [Option.bind_some, Option.bind_some]
    dsimp only
    by_cases q : k = true
    · rw [if_pos q, if_pos q]
      cases re_readNumber N t r1 with
      | none => rfl
      | some y =>
        obtain ⟨k2, r2⟩ := y
        rw [Option.bind_some, Option.bind_some]
        dsimp only
        rw [ck_nI hj (by decide), nI_clamp (by omega)]; rfl
    · rw [if_neg q, if_neg q]
      cases re_readNumber N t r1 with
      | none => rfl
      | some y =>
        obtain ⟨k2, r2⟩ := y
        rw [Option.bind_some, Option.bind_some]
        dsimp only
        rw [ck_nI hj (by decide), nI_clamp (by omega)]; rfl
theorem set_out (hN : 5 ≤ N) (h : Sc t r (up μ 0 12 (μ 0 12 + 1)) a len) (hj : j < 24) (hn : n < 64) (hf : Fresh p μ j n 3 4) : IOut t r μ p len j n (re_readSet N t (nI j) r p) (md_readsSet N (nI n) μ) := by
  obtain ⟨f1, f2, f3, f4, f5, f6, f7, f8, f9, f10, f11, f12⟩ := hf
  unfold re_readSet md_readsSet re_readVariable
  rcases digit_sim (lo := 0) (hi := 3) h (by omega) (by omega) with ⟨c, r1, μ1, c1, y0, y1, y2, y3, y4, y5, y6⟩ | ⟨r1, y1, y2, y3, y4⟩
  · have y1' : re_readBetween t 48 51 r = some (nI (c - 0), r1) := y1
    have y2' : md_takesDigit 0 3 (up μ 0 12 (μ 0 12 + 1)) = some (true, μ1) := y2
    rw [y1', y2', Option.bind_some, Option.bind_some, Option.bind_some]
    dsimp only
    rw [if_pos rfl, ck_nI hj (by decide), nI_clamp (by omega), y6, show (1 : Int32) = nI 1 from rfl, put_ev hn (by omega), Option.bind_some]
    have hA : Sc t r1 (up μ1 1 ((1024 + n) * 9 + 1) (nI c)) (a + 1) len := y3.put
    have e1 : ∀ w, SvR μ1 n w = SvR μ n w := fun w => by show μ1 1 _ = _; rw [y5.1 1 (by decide)]; exact up_cell (by decide)
    have hM1 : MFn n μ (up μ1 1 ((1024 + n) * 9 + 1) (nI c)) := at_fn.trans (y5.fn.trans (MFn.put (by omega)))
    generalize hg : up μ1 1 ((1024 + n) * 9 + 1) (nI c) = μA at hA hM1 ⊢
    have sA : ∀ w, w ≠ 1 → SvR μA n w = SvR μ n w := fun w hw => by rw [← hg]; show up _ _ _ _ _ _ = _; rw [up_in (by omega)]; exact e1 w
    have sA1 : SvR μA n 1 = nI c := by rw [← hg]; exact up_at
    obtain ⟨s1, s2⟩ := sgx_ev hA
    -- behind the sign of the set
    have fin : ∀ (r2 μ2 : Mem) (a2 z : Nat) (pz : Mem), z ≤ 1 → Sc t r2 (up (up μ2 1 ((1024 + n) * 9 + 2) (nI z)) 0 12 (nI a2)) a2 len → RSf r r2 → μ2 = μA → PFj j p pz → pz 9 j = nI c → pz 11 j = nI z → pz 12 j = -1 →
        IOut t r μ p len j n (re_readSet_41 N t (nI j) r2 pz) ((md_takesSigned N (up (up μ2 1 ((1024 + n) * 9 + 2) (nI z)) 0 12 (nI a2))).bind fun (k82, μ82) => (md_put (nI n) 3 (μ82 0 18) μ82).bind fun μ93 => some (k82, μ93)) := by
      intro r2 μ2 a2 z pz hz k1 k2 k3 k4 k5 k6 k7
      subst k3
      have hM2 : MFn n μ (up (up μ2 1 ((1024 + n) * 9 + 2) (nI z)) 0 12 (nI a2)) := hM1.trans ((MFn.put (by omega)).trans ⟨fun c c0 _ => up_row c0, fun k kk _ => up_in kk, fun x _ => by rw [up_cell (by decide)]⟩)
      have sB : ∀ w, w ≠ 1 → w ≠ 2 → SvR (up (up μ2 1 ((1024 + n) * 9 + 2) (nI z)) 0 12 (nI a2)) n w = SvR μ n w := fun w w1 w2 => by
        show up _ _ _ _ _ _ = _
        rw [up_cell (by decide), up_in (by omega)]; exact sA w w1
      have sB1 : SvR (up (up μ2 1 ((1024 + n) * 9 + 2) (nI z)) 0 12 (nI a2)) n 1 = nI c := by
        show up _ _ _ _ _ _ = _
        rw [up_cell (by decide), up_in (by omega)]; exact sA1
      have sB2 : SvR (up (up μ2 1 ((1024 + n) * 9 + 2) (nI z)) 0 12 (nI a2)) n 2 = nI z := by
        show up _ _ _ _ _ _ = _
        rw [up_cell (by decide), up_at]
      rw [set41_ev hj]
      rcases signed_sim (N := N) k1 hN with ⟨v, a5, r5, μ5, n2, n3, n4, n5, n6, n7⟩ | ⟨v, r5, μ5, n2, n3, n4, n5, n6⟩
      · rw [n2, n3, Option.bind_some, Option.bind_some]
        dsimp only
        rw [n7, show (3 : Int32) = nI 3 from rfl, put_ev hn (by omega), Option.bind_some]
        have e5 : ∀ w, SvR μ5 n w = SvR (up (up μ2 1 ((1024 + n) * 9 + 2) (nI z)) 0 12 (nI a2)) n w := fun w => by show μ5 1 _ = _; rw [n6.1 1 (by decide)]
        refine Or.inl ⟨r5, _, _, a5, rfl, rfl, n4.put, k2.trans n5, k4.trans (PFj.up (by omega)), hM2.trans (n6.fn.trans (MFn.put (by omega))), ?_, ?_, Or.inl ?_, Or.inr (Or.inr (Or.inr (Or.inl ⟨?_, ?_, ⟨c, by omega, ?_, ?_⟩, ?_, ?_⟩)))⟩
        · show up _ _ _ _ _ _ = _
          rw [up_in (by omega), (k4.trans (PFj.up (v := v) (by omega : (10 : Nat) = 9 ∨ (10 : Nat) = 10 ∨ (10 : Nat) = 11 ∨ (10 : Nat) = 12))) 8 j (by omega)]
          exact ((e5 7).trans (sB 7 (by omega) (by omega))).trans f12
        · show up _ _ _ _ _ _ = _
          rw [up_in (by omega), up_other (by omega)]
          rw [k7]
          exact ((e5 4).trans (sB 4 (by omega) (by omega))).trans f9
        · rw [up_other (by omega)]; exact k7
        · rw [up_other (by omega), k4 7 j (by omega)]; exact f1
        · show up _ _ _ _ _ _ = _
          rw [up_in (by omega)]
          exact ((e5 0).trans (sB 0 (by omega) (by omega))).trans f5
        · rw [up_other (by omega)]; exact k5
        · show up _ _ _ _ _ _ = _
          rw [up_in (by omega)]
          exact (e5 1).trans sB1
        · have e2 : SvR (up μ5 1 ((1024 + n) * 9 + 3) v) n 2 = nI z := by
            show up _ _ _ _ _ _ = _
            rw [up_in (by omega)]; exact (e5 2).trans sB2
          rw [e2, up_other (by omega), k6]
          have hz2 : z = 0 ∨ z = 1 := by omega
          rcases hz2 with w | w <;> subst w
          · exact Or.inr ⟨rfl, rfl⟩
          · exact Or.inl ⟨rfl, rfl⟩
        · show up _ _ _ _ _ _ = _
          rw [up_at, up_at]
      · rw [n2, n3, Option.bind_some, Option.bind_some]
        dsimp only
        rw [show (3 : Int32) = nI 3 from rfl, put_ev hn (by omega), Option.bind_some]
        exact Or.inr ⟨r5, _, _, rfl, rfl, n4.put, k2.trans n5, k4.trans (PFj.up (by omega)), hM2.trans (n6.fn.trans (MFn.put (by omega)))⟩
    have hat : μA 0 12 = nI (a + 1) := hA.2.2.2.1
    rcases takes_sim (c := 43) hA (by decide) with ⟨q, r2, μ2, v1, v2, v3, v4, v5⟩ | ⟨q, v1, v2⟩
    · -- a plus
      rw [v1, Option.bind_some]
      dsimp only
      rw [if_pos rfl, ck_nI hj (by decide), s2, Option.bind_some, q, if_neg (by decide), Option.bind_some, if_pos rfl]
      unfold md_readsSet_51 md_readsSet_68
      rw [s2, Option.bind_some, q, if_pos rfl, show (2 : Int32) = nI 2 from rfl, put_ev hn (by omega), Option.bind_some, up_cell (by decide), hat, nI_1]
      have ha := sgx_in q (by decide)
      refine fin r2 μA (a + 1 + 1) 1 _ (by omega) ?_ (y4.trans v4) rfl ((PFj.up (by omega)).trans (PFj.up (by omega))) (by rw [up_other (by omega), up_at]; rfl) up_at (by rw [up_other (by omega), up_other (by omega)]; exact f2)
      exact ⟨v3.1, v3.2.1, v3.2.2.1, by rw [up_at], by rw [up_in (by omega), up_cell (by decide)]; exact hA.2.2.2.2.1, v3.2.2.2.2.2.1, v3.2.2.2.2.2.2.1, by rw [up_in (by omega), up_cell (by decide)]; exact hA.2.2.2.2.2.2.2.1, by rw [up_row (by decide), up_row (by decide)]; exact hA.2.2.2.2.2.2.2.2⟩
    · rw [v1, Option.bind_some]
      dsimp only
      rw [if_neg (by decide), s2, Option.bind_some]
      rcases expect_sim (c := 61) hA (by decide) with ⟨r2, μ2, u1, u2, u3, u4, u5⟩ | ⟨r2, u1, u2, u3, u4⟩
      · -- an equals sign
        have q61 : sgx t len (a + 1) = 61 := by
          rcases takes_sim (c := 61) hA (by decide) with ⟨w, _⟩ | ⟨_, _, w⟩
          · exact w
          · rw [w] at u2; exact Bool.noConfusion (show false = true from congrArg Prod.fst (Option.some.inj u2))
        rw [u1, Option.bind_some, q61, if_pos rfl]
        unfold md_readsSet_51 md_readsSet_68
        rw [s2, Option.bind_some, q61, if_neg (by decide), show (2 : Int32) = nI 2 from rfl, put_ev hn (by omega), Option.bind_some, up_cell (by decide), hat, nI_1]
        refine fin r2 μA (a + 1 + 1) 0 _ (by omega) ?_ (y4.trans u4) rfl (PFj.up (by omega)) (by rw [up_at]; rfl) (by rw [up_other (by omega)]; exact f3) (by rw [up_other (by omega)]; exact f2)
        exact ⟨u3.1, u3.2.1, u3.2.2.1, by rw [up_at], by rw [up_in (by omega), up_cell (by decide)]; exact hA.2.2.2.2.1, u3.2.2.2.2.2.1, u3.2.2.2.2.2.2.1, by rw [up_in (by omega), up_cell (by decide)]; exact hA.2.2.2.2.2.2.2.1, by rw [up_row (by decide), up_row (by decide)]; exact hA.2.2.2.2.2.2.2.2⟩
      · -- neither
        have q61 : sgx t len (a + 1) ≠ 61 := by
          rcases takes_sim (c := 61) hA (by decide) with ⟨_, _, _, _, w, _⟩ | ⟨w, _⟩
          · rw [w] at u2; exact Bool.noConfusion (show true = false from congrArg Prod.fst (Option.some.inj u2))
          · exact w
        rw [u1, Option.bind_some, if_neg q61, Option.bind_some, if_neg q, set41_ev hj, signed_dead u3.dead (by omega), Option.bind_some]
        exact Or.inr ⟨r2, _, μA, rfl, rfl, u3, y4.trans u4, (PFj.up (by omega)).trans (PFj.up (by omega)), hM1⟩
  · have y1' : re_readBetween t 48 51 r = some (0, r1) := y1
    have y2' : md_takesDigit 0 3 (up μ 0 12 (μ 0 12 + 1)) = some (false, up μ 0 12 (μ 0 12 + 1)) := y2
    rw [y1', y2', Option.bind_some, Option.bind_some, Option.bind_some]
    dsimp only
    rw [if_neg (by decide), ck_nI hj (by decide), takes_dead y3.dead, Option.bind_some]
    dsimp only
    rw [if_neg (by decide), expect_dead y3.dead, Option.bind_some, set41_ev hj, signed_dead y3.dead (by omega), Option.bind_some, nI_clamp (by omega)]
    exact Or.inr ⟨r1, _, _, rfl, rfl, y3, y4, (PFj.up (by omega)).trans (PFj.up (by omega)), at_fn⟩
end PA3
