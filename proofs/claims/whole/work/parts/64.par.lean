/-! parallels are read -/
section PA9
variable {t r μ r1 μ1 p p1 r' p' μ' r0 p0 μ0 p2 μ2 : Mem} {a len N its nn d bn k be nc : Nat} {nd nd0 b w : Nat → Nat} {B : Int32 → Mem → Mem → Option (Int32 × Mem × Mem)} {Bm : Int32 → Int32 → Mem → Option (Bool × Mem)}
theorem d71 (hi : its < 24) {y3 y4 : Int32} (h : r 0 4 ≠ 0) : Dd r p (re_readParallel_71 N t B (nI its) y3 y4 r p) := by
  unfold re_readParallel_71
  rw [expect_dead h, Option.bind_some, takes_dead h, Option.bind_some]
  dsimp only
  rw [if_neg (by decide), ck_nI hi (by decide), ck_nI hi (by decide)]
  exact ⟨_, _, rfl, up_row (by decide), up_row (by decide)⟩
theorem d43 (hi : its < 24) {y3 y4 : Int32} (h : r 0 4 ≠ 0) : Dd r p (re_readParallel_43 N t B (nI its) y3 y4 r p) := by
  unfold re_readParallel_43
  rw [takes_dead h, Option.bind_some]
  dsimp only
  rw [if_neg (by decide)]
  exact d71 hi h
theorem d11 (hi : its < 24) {n : Nat} {y2 y3 y4 : Int32} (h : r 0 4 ≠ 0) : Dd r p (re_readParallel_11 N t B (n + 1) (nI its) y2 y3 y4 r p) := by
  unfold re_readParallel_11
  by_cases q : y4 < 4
  · rw [if_pos q, takes_dead h, Option.bind_some]
    dsimp only
    rw [if_neg (by decide)]
    exact d43 hi h
  · rw [if_neg q]
    exact d43 hi h
/-- behind the bar that closes parallels' bodies, or what stands in its place -/
theorem par_tail (h : BSt t r0 p0 μ0 p2 μ2 nd0 its nn d len k r p μ a be nc nd b w) (hd : d < 4) (hi : its < 24) (hn64 : nn < 64) (k1 : 1 ≤ k) (k4 : k ≤ 4)
    (q7 : p2 7 its = 5) (q12 : p2 12 its = -1) (q13 : p2 13 its = -1) (q8 : SvR μ2 nn 7 = p2 8 its) (v0 : SvR μ2 nn 0 = 6) (v4 : SvR μ2 nn 4 = -1) (v6 : SvR μ2 nn 6 = -1) (v8 : SvR μ2 nn 8 = nI bn) :
    ItO d bn its nn len nd0 t r0 p0 μ0 ((re_readParallel_71 N t B (nI its) (nI (sm k w)) (nI k) r p).bind fun z => re_readItem_225 N t B (nI its) z.1 z.2)
      (((md_takes 41 μ).bind fun (k79, μ79) => if k79 = true then
            ((md_put (nI nn) 1 (nI k) (up μ79 0 16 ((μ79 0 16) - 1))).bind fun μ101 =>
            (md_takes 113 μ101).bind fun (k107, μ107) =>
            if k107 = true then
              ((md_takesDigit 1 (nI k) μ107).bind fun (k116, μ116) =>
              if k116 = true then
                ((md_put (nI nn) 1 (μ116 0 18) μ116).bind fun μ131 =>
                md_readsParallel_134 N Bm (nI nn) (nI k) μ131)
              else
                (some (false, μ116)))
            else
              (md_readsParallel_134 N Bm (nI nn) (nI k) μ107))
          else
            (some (false, μ79))).bind fun z => some (z.1, z.2)) := by
  have hS := h.1.1
  have h6 : ∀ x, (x < 11 ∨ 14 ≤ x) → p 6 x = p0 6 x := h.2.2.1.2.2
  have hM := h.2.2.2.1
  have ep : ∀ c, 7 ≤ c → c ≤ 13 → p c its = p2 c its := h.2.2.2.2.2.2.2.1
  have ev : ∀ v, v < 9 → v ≠ 5 → SvR μ nn v = SvR μ2 nn v := h.2.2.2.2.2.2.2.2
  -- how it ends, with the number that must come to its end
  have fin : ∀ (r9 μ9 : Mem) (a9 x : Nat), 1 ≤ x → x ≤ k → Sc t r9 μ9 a9 len → RSf r r9 → MFo nn μ μ9 → μ9 0 16 = nI d → SvR μ9 nn 1 = nI x → SvR μ9 nn 4 = SvR μ nn 4 →
      ItO d bn its nn len nd0 t r0 p0 μ0 (re_readItem_225 N t B (nI its) (up r9 1 its (nI (sm k w))) (up p 11 its (nI x))) (some (true, up μ9 1 ((1024 + nn) * 9 + 2) (nI k))) := by
    intro r9 μ9 a9 x x1 x2 c1 c2 c3 c4 c5 c6
    have es : ∀ v, v < 9 → v ≠ 1 → v ≠ 2 → v ≠ 3 → v ≠ 4 → v ≠ 5 → SvR (up μ9 1 ((1024 + nn) * 9 + 2) (nI k)) nn v = SvR μ2 nn v := fun v v1 v2 v3 v4 v5 v6 => by
      show up _ _ _ _ _ _ = _
      rw [up_in (by omega), c3.2.2 _ (by omega)]
      exact ev v v1 v6
    refine bod_end h hd hi (Or.inr ⟨q7, k1, k4⟩) ((c1.put).wid) (wd := sm k w) up_at (fun y hy => by rw [up_in hy, c2 1 (by decide)]) (PFj.up (by omega)) ⟨fun c c0 c1' => by rw [up_row c1']; exact c3.1 c c0 c1', fun y y1 y2 y3 => by rw [up_cell (by decide)]; exact c3.2.1 y y1 y2 y3, fun y hy => by rw [up_in (by omega)]; exact c3.2.2 y hy⟩ (by rw [up_cell (by decide)]; exact c4) (by rw [if_neg (by rw [q7]; decide)]) ?_ v6 v8 q13
    refine ⟨?_, ?_, Or.inl ?_, Or.inr (Or.inr (Or.inr (Or.inr (Or.inr ⟨?_, ?_, x, x1, by omega, up_at, ?_⟩))))⟩
    · show SvR _ nn 7 = _
      rw [es 7 (by omega) (by omega) (by omega) (by omega) (by omega) (by omega), up_cell (by decide), ep 8 (by omega) (by omega)]; exact q8
    · show up _ _ _ _ _ _ = _
      rw [up_in (by omega), up_cell (by decide), ep 12 (by omega) (by omega), q12]
      exact c6.trans ((ev 4 (by omega) (by omega)).trans v4)
    · rw [up_cell (by decide), ep 12 (by omega) (by omega)]; exact q12
    · rw [up_cell (by decide), ep 7 (by omega) (by omega)]; exact q7
    · show SvR _ nn 0 = _
      rw [es 0 (by omega) (by omega) (by omega) (by omega) (by omega) (by omega)]; exact v0
    · show up _ _ _ _ _ _ = _
      rw [up_in (by omega)]; exact c5
  unfold re_readParallel_71
  rcases expect_sim (c := 41) hS (by decide) with ⟨r2, μ3, x1, x2, x3, x4, x5⟩ | ⟨r2, x1, x2, x3, x4⟩
  rotate_left
  · rw [x1, x2, Option.bind_some, Option.bind_some]
    dsimp only
    rw [if_neg (by decide), Option.bind_some, takes_dead x3.dead, Option.bind_some]
    dsimp only
    rw [if_neg (by decide), ck_nI hi (by decide), ck_nI hi (by decide)]
    exact dd_end (N := N) (B := B) hi (show Dd r2 p _ from ⟨_, _, rfl, up_row (by decide), up_row (by decide)⟩) x3 h6 hM
  rw [x1, x2, Option.bind_some, Option.bind_some]
  dsimp only
  have h16 : μ3 0 16 - 1 = nI d := by
    rw [x5.2 16 (by omega) (by omega), h.1.2.2.2.2.2.1, show (1 : Int32) = nI 1 from rfl, pk_sub (by omega)]
    rfl
  rw [if_pos rfl, h16, put1_ev hn64, Option.bind_some]
  have hSA : Sc t r2 (up (up μ3 0 16 (nI d)) 1 ((1024 + nn) * 9 + 1) (nI k)) (a + 1) len := (x3.hi (Or.inl rfl)).put
  have hMA : MFo nn μ (up (up μ3 0 16 (nI d)) 1 ((1024 + nn) * 9 + 1) (nI k)) := ⟨fun c c0 c1 => by rw [up_row c1, up_row c0]; exact x5.1 c c0, fun y y1 y2 y3 => by rw [up_cell (by decide), up_in y2]; exact x5.2 y y1 y3, fun y hy => by rw [up_in (by omega), up_cell (by decide), x5.1 1 (by decide)]⟩
  have hA16 : (up (up μ3 0 16 (nI d)) 1 ((1024 + nn) * 9 + 1) (nI k)) 0 16 = nI d := by rw [up_cell (by decide), up_at]
  have hA1 : SvR (up (up μ3 0 16 (nI d)) 1 ((1024 + nn) * 9 + 1) (nI k)) nn 1 = nI k := up_at
  have hA4 : SvR (up (up μ3 0 16 (nI d)) 1 ((1024 + nn) * 9 + 1) (nI k)) nn 4 = SvR μ nn 4 := by
    show up _ _ _ _ _ _ = _
    rw [up_in (by omega), up_cell (by decide), x5.1 1 (by decide)]
  generalize up (up μ3 0 16 (nI d)) 1 ((1024 + nn) * 9 + 1) (nI k) = μA at hSA hMA hA16 hA1 hA4 ⊢
  rcases takes_sim (c := 113) hSA (by decide) with ⟨q, r4, μ4, y1, y2, y3, y4, y5⟩ | ⟨q, y1, y2⟩
  · rw [y1, y2, Option.bind_some, Option.bind_some]
    dsimp only
    have e48 : (48 : Int32) + nI k = nI (48 + k) := by rw [show (48 : Int32) = nI 48 from rfl, nI_add]
    rw [if_pos rfl, if_pos rfl, e48]
    rcases digit_sim (lo := 1) (hi := k) y3 (by omega) (by omega) with ⟨x, r5, μ5, z0, z1, z2, z3, z4, z5, z6, z7⟩ | ⟨r5, z2, z3, z4, z5⟩
    · rw [show re_readBetween t 49 (nI (48 + k)) r4 = some (nI (x - 1), r5) from z2, show md_takesDigit 1 (nI k) μ4 = some (true, μ5) from z3, Option.bind_some, Option.bind_some]
      dsimp only
      rw [ck_nI hi (by decide), ck_nI hi (by decide), if_pos rfl, z7, put1_ev hn64, Option.bind_some, add1_nI, show 1 + (x - 1) = x by omega, nI_clamp (by omega)]
      unfold md_readsParallel_134
      rw [Option.bind_some, put2_ev hn64, Option.bind_some]
      have e5 : μ5 1 = μA 1 := by rw [z6.1 1 (by decide), y5.1 1 (by decide)]
      exact fin r5 (up μ5 1 ((1024 + nn) * 9 + 1) (nI x)) _ x z0 z1 z4.put (x4.trans (y4.trans z5)) (hMA.trans ⟨fun c c0 c1 => by rw [up_row c1]; exact (z6.1 c c0).trans (y5.1 c c0), fun y y1 y2 y3 => by rw [up_cell (by decide)]; exact (z6.2 y y1 y3).trans (y5.2 y y1 y3), fun y hy => by rw [up_in (by omega), e5]⟩) (by rw [up_cell (by decide), z6.2 16 (by omega) (by omega), y5.2 16 (by omega) (by omega)]; exact hA16) up_at (by
        show up _ _ _ _ _ _ = _
        rw [up_in (by omega), e5]; exact hA4)
    · rw [show re_readBetween t 49 (nI (48 + k)) r4 = some (0, r5) from z2, show md_takesDigit 1 (nI k) μ4 = some (false, μ4) from z3, Option.bind_some, Option.bind_some]
      dsimp only
      rw [ck_nI hi (by decide), ck_nI hi (by decide), if_neg (show ¬ (false = true) by decide)]
      exact dd_end (N := N) (B := B) (μ' := μ4) hi (show Dd r5 p _ from ⟨_, _, rfl, up_row (by decide), up_row (by decide)⟩) z4 h6 ⟨fun c c0 c1 => (y5.1 c c0).trans ((hMA.1 c c0 c1).trans (hM.1 c c0 c1)), fun y hy => (y5.2 y (by omega) (by omega)).trans ((hMA.2.1 y (by omega) (by omega) (by omega)).trans (hM.2.1 y hy)), fun y hy => by rw [y5.1 1 (by decide), hMA.2.2 y (by omega)]; exact hM.2.2 y hy⟩
  · rw [y1, y2, Option.bind_some, Option.bind_some]
    dsimp only
    rw [if_neg (by decide), if_neg (by decide), ck_nI hi (by decide), ck_nI hi (by decide), nI_clamp (by omega)]
    unfold md_readsParallel_134
    rw [put2_ev hn64, Option.bind_some]
    exact fin r2 μA _ k k1 (Nat.le_refl _) hSA x4 hMA hA16 hA1 hA4
/-- the bodies one after the other -/
def ParP (t r0 p0 μ0 p2 μ2 : Mem) (nd0 : Nat → Nat) (its nn d bn len N : Nat) (B : Int32 → Mem → Mem → Option (Int32 × Mem × Mem)) (Bm : Int32 → Int32 → Mem → Option (Bool × Mem)) (s : Nat) : Prop :=
  ∀ (k n m : Nat) (r p μ : Mem) (a be nc : Nat) (nd b w : Nat → Nat) (prev : Int32), k + s + 1 = 4 → s + 1 < n → s + 2 < m → BSt t r0 p0 μ0 p2 μ2 nd0 its nn d len k r p μ a be nc nd b w → prev = (if k = 0 then -1 else nI (nd (b (k - 1)) - 1)) →
      ItO d bn its nn len nd0 t r0 p0 μ0 (((re_readBodyOf N t B (nI its) (nI k) (nI (d + 1)) r p).bind fun z => re_readParallel_11 N t B n (nI its) (nI (d + 1)) (nI (sm k w) + z.1) (nI (k + 1)) z.2.1 z.2.2).bind fun z => re_readItem_225 N t B (nI its) z.1 z.2) ((md_readsParallel_18 N Bm m (nI nn) (nI k) prev μ).bind fun z => some (z.1, z.2))
theorem par_step {s : Nat} (hN : 20 ≤ N) (hB : BSim t len (d + 1) B Bm) (hBd : BDead B) (hd : d < 4) (hi : its < 24) (hn64 : nn < 64)
    (q7 : p2 7 its = 5) (q12 : p2 12 its = -1) (q13 : p2 13 its = -1) (q8 : SvR μ2 nn 7 = p2 8 its) (v0 : SvR μ2 nn 0 = 6) (v4 : SvR μ2 nn 4 = -1) (v6 : SvR μ2 nn 6 = -1) (v8 : SvR μ2 nn 8 = nI bn)
    (ih : ∀ s', s = s' + 1 → ParP t r0 p0 μ0 p2 μ2 nd0 its nn d bn len N B Bm s') : ParP t r0 p0 μ0 p2 μ2 nd0 its nn d bn len N B Bm s := by
  intro k n m r p μ a be nc nd b w prev hk hn hm h hprev
  obtain ⟨n, rfl⟩ : ∃ x, n = x + 1 := ⟨n - 1, by omega⟩
  obtain ⟨m, rfl⟩ : ∃ x, m = x + 1 := ⟨m - 1, by omega⟩
  have hk4 : ¬ nI k = 4 := fun e => by have := nI_inj (a := k) (b := 4) (by omega) (by decide) e; omega
  unfold md_readsParallel_18
  rw [if_neg hk4, hprev]
  have hmc : μ 0 14 = nI nc := h.1.2.2.2.2.1
  rcases bod_step (N := N) hB hi (by omega) h with ⟨r8, p8, μ8, W, a8, be8, nc8, nd8, b8, w8, i1, i2, i3, i4, i5, i6⟩ | ⟨k8, r8, p8, μ8, i1, i2, i3⟩
  rotate_left
  · rw [i1, i2, Option.bind_some, Option.bind_some]
    dsimp only
    rw [if_neg (show ¬ (false = true) by decide), Option.bind_some]
    exact dd_bad hi (d11 hi i3.1.dead) i3
  rw [i1, i2, Option.bind_some, Option.bind_some]
  dsimp only
  rw [if_pos rfl, nI_add, nI_1]
  have hsm : sm k w + W = sm (k + 1) w8 := by
    show _ = sm k w8 + w8 k
    rw [i5, sm_same (fun x hx => i6 x hx)]
  rw [hsm]
  have hS8 := i3.1.1
  -- what stands behind the last body
  have tail : ∀ (mm : Option (Bool × Mem)), mm = ((md_takes 41 μ8).bind fun (k79, μ79) => if k79 = true then
            ((md_put (nI nn) 1 (nI (k + 1)) (up μ79 0 16 ((μ79 0 16) - 1))).bind fun μ101 =>
            (md_takes 113 μ101).bind fun (k107, μ107) =>
            if k107 = true then
              ((md_takesDigit 1 (nI (k + 1)) μ107).bind fun (k116, μ116) =>
              if k116 = true then
                ((md_put (nI nn) 1 (μ116 0 18) μ116).bind fun μ131 =>
                md_readsParallel_134 N Bm (nI nn) (nI (k + 1)) μ131)
              else
                (some (false, μ116)))
            else
              (md_readsParallel_134 N Bm (nI nn) (nI (k + 1)) μ107))
          else
            (some (false, μ79))) → ItO d bn its nn len nd0 t r0 p0 μ0 ((re_readParallel_71 N t B (nI its) (nI (sm (k + 1) w8)) (nI (k + 1)) r8 p8).bind fun z => re_readItem_225 N t B (nI its) z.1 z.2) (mm.bind fun z => some (z.1, z.2)) := fun mm hmm => by
    rw [hmm]
    exact par_tail i3 hd hi hn64 (by omega) (by omega) q7 q12 q13 q8 v0 v4 v6 v8
  unfold re_readParallel_11
  by_cases q : k + 1 < 4
  · rw [if_pos (show nI (k + 1) < 4 from nI_lt (b := 4) q (by decide))]
    rcases takes_sim (c := 124) hS8 (by decide) with ⟨g, r9, μ9, y1, y2, y3, y4, y5⟩ | ⟨g, y1, y2⟩
    · rw [y1, y2, Option.bind_some, Option.bind_some]
      dsimp only
      rw [if_pos rfl, if_pos rfl, nI_1, hmc]
      have hb9 := i3.scan y3 y4 y5
      exact ih (s - 1) (by omega) (k + 1) n m r9 p8 μ9 _ _ _ nd8 b8 w8 (nI nc) (by omega) (by omega) (by omega) hb9 (by rw [if_neg (by omega), show k + 1 - 1 = k from rfl, i4])
    · rw [y1, y2, Option.bind_some, Option.bind_some]
      dsimp only
      rw [if_neg (by decide), if_neg (by decide)]
      unfold re_readParallel_43
      rw [y1, Option.bind_some]
      dsimp only
      rw [if_neg (by decide)]
      exact tail _ rfl
  · rw [if_neg (show ¬ nI (k + 1) < 4 from nI_nlt (b := 4) (by omega) (by omega))]
    unfold re_readParallel_43
    rcases takes_sim (c := 124) hS8 (by decide) with ⟨g, r9, μ9, y1, y2, y3, y4, y5⟩ | ⟨g, y1, y2⟩
    · obtain ⟨e1, e2⟩ := sgx_ev y3
      have hM9 : MFr nn μ0 μ9 := ⟨fun c c0 c1 => (y5.1 c c0).trans (i3.2.2.2.1.1 c c0 c1), fun y hy => (y5.2 y (by omega) (by omega)).trans (i3.2.2.2.1.2.1 y hy), fun y hy => by rw [y5.1 1 (by decide)]; exact i3.2.2.2.1.2.2 y hy⟩
      obtain ⟨m, rfl⟩ : ∃ x, m = x + 1 := ⟨m - 1, by omega⟩
      rw [y1, y2, Option.bind_some, Option.bind_some]
      dsimp only
      rw [if_pos rfl, if_pos rfl, e1, Option.bind_some]
      have hu : ∀ y1 y3 μ, md_readsParallel_18 N Bm (m + 1) y1 4 y3 μ = (md_here μ).bind fun k25 => (md_beginsItem k25).bind fun k28 => if k28 = true then some (false, up μ 0 13 2) else some (false, up μ 0 13 1) := fun y1 y3 μ => by
        conv => lhs; unfold md_readsParallel_18
        rw [if_pos rfl]
      have kk : (∃ c : Int32, re_kindOf (sgx t len (a8 + 1)) = some c ∧ ¬ c < 0 ∧ md_beginsItem (sgx t len (a8 + 1)) = some true) ∨ (re_kindOf (sgx t len (a8 + 1)) = some (-1) ∧ md_beginsItem (sgx t len (a8 + 1)) = some false) := by
        rcases kinds (sgx t len (a8 + 1)) with ⟨_, k1, k2⟩ | ⟨_, k1, k2⟩ | ⟨_, k1, k2⟩ | ⟨_, k1, k2⟩ | ⟨_, k1, k2⟩ | ⟨_, k1, k2⟩ | ⟨k1, k2⟩
        · exact Or.inl ⟨_, k1, by decide, k2⟩
        · exact Or.inl ⟨_, k1, by decide, k2⟩
        · exact Or.inl ⟨_, k1, by decide, k2⟩
        · exact Or.inl ⟨_, k1, by decide, k2⟩
        · exact Or.inl ⟨_, k1, by decide, k2⟩
        · exact Or.inl ⟨_, k1, by decide, k2⟩
        · exact Or.inr ⟨k1, k2⟩
      have hM13 : ∀ v, MFr nn μ0 (up μ9 0 13 v) := fun v => ⟨fun c c0 c1 => by rw [up_row c0]; exact hM9.1 c c0 c1, fun y hy => by rw [up_in (by omega)]; exact hM9.2.1 y hy, fun y hy => by rw [up_cell (by decide)]; exact hM9.2.2 y hy⟩
      have h04 : r9 0 4 = 0 := y3.2.2.1
      rw [show (nI (k + 1) : Int32) = 4 by rw [show k + 1 = 4 by omega]; rfl, hu, e2, Option.bind_some]
      rcases kk with ⟨c, k1, k2, k3⟩ | ⟨k1, k2⟩
      · rw [k1, k3, Option.bind_some, Option.bind_some, if_neg k2, if_pos rfl]
        unfold re_fail
        rw [if_pos h04, Option.bind_some]
        exact dd_end (N := N) (B := B) (μ' := up μ9 0 13 2) hi (d71 hi y3.bad2.dead) y3.bad2 i3.2.2.1.2.2 (hM13 2)
      · rw [k1, k2, Option.bind_some, Option.bind_some, if_pos (by decide), if_neg (by decide)]
        unfold re_fail
        rw [if_pos h04, Option.bind_some]
        have hb : Bad (up r9 0 4 1) (up μ9 0 13 1) len := by
          rw [show up μ9 0 13 1 = μ9 from up_self y3.2.2.2.2.2.2.2.1]
          exact y3.bad.1
        exact dd_end (N := N) (B := B) (μ' := up μ9 0 13 1) hi (d71 hi hb.dead) hb i3.2.2.1.2.2 (hM13 1)
    · rw [y1, y2, Option.bind_some, Option.bind_some]
      dsimp only
      rw [if_neg (by decide), if_neg (by decide)]
      exact tail _ rfl
end PA9
