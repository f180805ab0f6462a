/-! items read -/
/-- what stands when an item has been begun -/
def AF (t r p μ r1 p1 μ1 : Mem) (its nn d bn a len : Nat) (k kM : Int32) : Prop :=
  Sc t r1 (up μ1 0 12 (μ1 0 12 + 1)) (a + 1) len ∧ Fresh p1 μ1 its nn k kM ∧ μ1 0 14 = nI (nn + 1) ∧ μ1 0 15 = nI (its + 1) ∧ μ1 0 16 = nI d ∧ μ1 0 17 = μ 0 17 ∧ SvR μ1 nn 8 = nI bn ∧ p1 13 its = -1 ∧ p1 6 11 = nI (its + 1) ∧ p1 6 12 = nI (sm (its + 1) (fun x => if p1 7 x = 0 then 1 else 0)) ∧ p1 6 13 = p 6 13 ∧ (∀ x, x < 4 → p1 15 (4 * its + x) = -1) ∧ PFr its p p1 ∧ MFr nn μ μ1 ∧ r1 1 its = 1 ∧ ∀ x, x ≠ its → r1 1 x = r 1 x
section PA5
variable {t r μ r1 μ1 p p1 : Mem} {a len N its nn d bn : Nat} {nd : Nat → Nat} {B : Int32 → Mem → Mem → Option (Int32 × Mem × Mem)} {Bm : Int32 → Int32 → Mem → Option (Bool × Mem)}
theorem kinds (s : Int32) : (s = 40 ∧ re_kindOf s = some 5 ∧ md_beginsItem s = some true) ∨ (s = 91 ∧ re_kindOf s = some 4 ∧ md_beginsItem s = some true) ∨ (s = 115 ∧ re_kindOf s = some 2 ∧ md_beginsItem s = some true) ∨ (s = 116 ∧ re_kindOf s = some 0 ∧ md_beginsItem s = some true) ∨ (s = 119 ∧ re_kindOf s = some 1 ∧ md_beginsItem s = some true) ∨ (s = 120 ∧ re_kindOf s = some 3 ∧ md_beginsItem s = some true) ∨ (re_kindOf s = some (-1) ∧ md_beginsItem s = some false) := by
  by_cases q1 : s = 40
  · subst q1; exact Or.inl ⟨rfl, by decide, by decide⟩
  by_cases q2 : s = 91
  · subst q2; exact Or.inr (Or.inl ⟨rfl, by decide, by decide⟩)
  by_cases q3 : s = 115
  · subst q3; exact Or.inr (Or.inr (Or.inl ⟨rfl, by decide, by decide⟩))
  by_cases q4 : s = 116
  · subst q4; exact Or.inr (Or.inr (Or.inr (Or.inl ⟨rfl, by decide, by decide⟩)))
  by_cases q5 : s = 119
  · subst q5; exact Or.inr (Or.inr (Or.inr (Or.inr (Or.inl ⟨rfl, by decide, by decide⟩))))
  by_cases q6 : s = 120
  · subst q6; exact Or.inr (Or.inr (Or.inr (Or.inr (Or.inr (Or.inl ⟨rfl, by decide, by decide⟩)))))
  refine Or.inr (Or.inr (Or.inr (Or.inr (Or.inr (Or.inr ⟨?_, ?_⟩)))))
  · unfold re_kindOf
    rw [if_neg q1, if_neg q2, if_neg q3, if_neg q4, if_neg q5, if_neg q6]
  · unfold md_beginsItem
    rw [if_neg q4, if_neg q5, if_neg q3, if_neg q6, if_neg q2, if_neg q1]
theorem Sc.bad2 (h : Sc t r μ a len) : Bad (up r 0 4 2) (up μ 0 13 2) len :=
  ⟨Or.inr up_at, by rw [up_at, up_at], ⟨a, h.2.2.2.2.2.1, by rw [up_in (by omega)]; exact h.2.1, by rw [up_in (by omega)]; exact h.2.2.2.1⟩, by rw [up_in (by omega)]; exact h.1, by rw [up_in (by omega)]; exact h.2.2.2.2.1⟩
theorem af_ev {k kM : Int32} (hN : 20 ≤ N) (h : PS t r p μ its nn d a len) (ha : a < len) (hi : its < 24) (hnn : nn < 64) : ∃ p1 μ1, ve_add N k (r 0 5) p = some (nI its, p1) ∧ md_makes N kM (nI bn) (up μ 0 15 (μ 0 15 + 1)) = some (nI nn, μ1) ∧ AF t r p μ (up (up r 1 its 1) 0 5 (r 0 5 + 1)) p1 μ1 its nn d bn a len k kM := by
  obtain ⟨h1, h2, h3, h4, h5, h6, h7, h8⟩ := h
  obtain ⟨p1, x1, x2, x3, x4, x5, x6, x7, x8, x9, x10, x11, x12, x13, x14⟩ := add_ev (N := N) (k := k) (pl := r 0 5) (by omega) hi h2
  obtain ⟨μ1, y1, y2, y3, y4, y5, y6, y7, y8, y9⟩ := makes_ev (N := N) (y1 := kM) (y2 := nI bn) (μ := up μ 0 15 (μ 0 15 + 1)) hN hnn (by rw [up_in (by omega)]; exact h5)
  have h12 : μ1 0 12 = μ 0 12 := by rw [y3 12 (by omega), up_in (by omega)]
  refine ⟨p1, μ1, x1, y1, ?_, ?_, y4, ?_, ?_, ?_, y8, x8, x10, ?_, x12 13 (by omega) (by omega), x9, ?_, ?_, ?_, ?_⟩
  · obtain ⟨g1, g2, g3, g4, g5, g6, g7, g8, g9⟩ := h1
    exact ⟨by rw [up_in (by omega), up_cell (by decide)]; exact g1, by rw [up_at, g2, nI_1], by rw [up_in (by omega), up_cell (by decide)]; exact g3, by rw [up_at, h12, g4, nI_1], by rw [up_in (by omega), y3 9 (by omega), up_in (by omega)]; exact g5, by omega, g7, by rw [up_in (by omega), y3 13 (by omega), up_in (by omega)]; exact g8, by rw [up_row (by decide), y2 8 (by decide) (by decide), up_row (by decide)]; exact g9⟩
  · exact ⟨x2, x7, x6, x5, y6, y9 1 (by omega) (by omega) (by omega) (by omega), y9 2 (by omega) (by omega) (by omega) (by omega), y9 3 (by omega) (by omega) (by omega) (by omega), y9 4 (by omega) (by omega) (by omega) (by omega), y9 5 (by omega) (by omega) (by omega) (by omega), y9 6 (by omega) (by omega) (by omega) (by omega), by rw [y7, up_in (by omega), x3, h1.2.2.2.1, h1.2.1]⟩
  · rw [y3 15 (by omega), up_at, h4, nI_1]
  · rw [y3 16 (by omega), up_in (by omega)]; exact h6
  · rw [y3 17 (by omega), up_in (by omega)]
  · rw [x11, h8]
    show _ = nI (sm its (fun x => if p1 7 x = 0 then 1 else 0) + (if p1 7 its = 0 then 1 else 0))
    rw [x2, show sm its (fun x => if p1 7 x = 0 then 1 else 0) = sm its (fun x => if p 7 x = 0 then 1 else 0) from sm_same (fun x hx => by
      show (if p1 7 x = 0 then 1 else 0) = if p 7 x = 0 then 1 else 0
      rw [x13 7 x (by omega) (by omega) (by omega)])]
    by_cases q : k = 0
    · rw [if_pos q, if_pos q, nI_1]
    · rw [if_neg q, if_neg q]; rfl
  · exact ⟨fun c x c1 c2 hx => x13 c x (by omega) (by omega) (by omega), fun x hx => x14 x (by omega), fun x hx => x12 x (by omega) (by omega)⟩
  · exact ⟨fun c c0 c1 => by rw [y2 c c0 c1, up_row c0], fun k hk => by rw [y3 k (by omega), up_in (by omega)], fun x hx => by rw [y5 x (by omega), up_cell (by decide)]⟩
  · rw [up_cell (by decide), up_at]
  · intro x hx
    rw [up_cell (by decide), up_in hx]
theorem leaf_end {k kM : Int32} {X : Option (Mem × Mem)} {M : Option (Bool × Mem)} (hPS : PS t r p μ its nn d a len) (hi : its < 24) (hnn : nn ≤ 2 * its + 1) (hk : Lf k) (hA : AF t r p μ r1 p1 μ1 its nn d bn a len k kM) (hI : IOut t r1 μ1 p1 len its nn X M) :
    ItO d bn its nn len nd t r p μ (X.bind fun z => re_readItem_225 N t B (nI its) z.1 z.2) (M.bind fun z => some (z.1, z.2)) := by
  obtain ⟨a1, a2, a3, a4, a5, a6, a7, a8, a9, a10, a11, a12, a13, a14, a15, a16⟩ := hA
  obtain ⟨f1, f2, f3, f4, f5, f6, f7, f8, f9, f10, f11, f12⟩ := a2
  rcases hI with ⟨r', p', μ', a', i1, i2, i3, i4, i5, i6, i7⟩ | ⟨r', p', μ', i1, i2, i3, i4, i5, i6⟩
  · have h6 : p' 6 = p1 6 := by funext x; exact i5 6 x (by omega)
    have h7 : ∀ x, p' 7 x = p1 7 x := fun x => i5 7 x (by omega)
    have h15 : ∀ x, p' 15 x = p1 15 x := fun x => i5 15 x (by omega)
    rw [i1, i2, Option.bind_some, Option.bind_some]
    refine Or.inl ⟨r', up p' 14 its (nI (its + 1)), μ', its + 1, nn + 1, a', 1, fun x => if x = its then nn else nd x, ?_, rfl, ⟨i3, ?_, by omega, ?_, ?_, ?_, ?_, ?_⟩, by omega, by omega, ?_, ?_, fun x hx => if_neg (by omega), if_pos rfl, ⟨by omega, if_pos rfl, by show (if its + 1 - 1 = its then nn else nd (its + 1 - 1)) + 1 = _; rw [if_pos (by omega)], fun x x1 x2 => by omega⟩, fun x x1 x2 => ?_, ?_, ?_, ?_, fun f hf => ⟨⟨up_at, Or.inl ⟨?_, rfl, ?_⟩⟩, ?_⟩, by omega, ?_, fun x hx => ?_⟩
    · unfold re_readItem_225
      dsimp only
      rw [ck_nI hi (by decide), if_pos i3.2.2.1, h6, a9, nI_clamp (by omega)]
    · rw [up_cell (by decide), h6]; exact a9
    · rw [i6.2.1 15 (by omega) (by omega)]; exact a4
    · rw [i6.2.1 14 (by omega) (by omega)]; exact a3
    · rw [i6.2.1 16 (by omega) (by omega)]; exact a5
    · rw [up_cell (by decide), h6, a11, i6.2.1 17 (by omega) (by omega), a6]; exact hPS.2.2.2.2.2.2.1
    · rw [up_cell (by decide), h6, a10]
      congr 1
      exact sm_same (fun x _ => by
        show (if p1 7 x = 0 then 1 else 0) = if up p' 14 its (nI (its + 1)) 7 x = 0 then 1 else 0
        rw [up_cell (by decide), h7])
    · exact ⟨fun c x c1 c2 hx => by rw [up_other (by omega), i5 c x (by omega)]; exact a13.1 c x c1 c2 hx, fun x hx => by rw [up_cell (by decide), h15]; exact a13.2.1 x hx, fun x hx => by rw [up_cell (by decide), h6]; exact a13.2.2 x hx⟩
    · exact ⟨fun c c0 c1 => (i6.1 c c0 c1).trans (a14.1 c c0 c1), fun k hk => (i6.2.1 k (by omega) (by omega)).trans (a14.2.1 k hk), fun x hx => (i6.2.2 x (by omega)).trans (a14.2.2 x hx)⟩
    · have : x = its := by omega
      subst this
      exact i7.ext (if_pos rfl) (fun c c1 c2 => up_other (by omega)) (fun w _ => rfl)
    · show SvR μ' nn 6 = -1
      rw [show SvR μ' nn 6 = SvR μ1 nn 6 from i6.2.2 _ (by omega)]; exact f11
    · rw [show SvR μ' nn 8 = SvR μ1 nn 8 from i6.2.2 _ (by omega)]; exact a7
    · rw [up_other (by omega), i5 13 its (by omega)]; exact a8
    · rw [up_cell (by decide), h7, f1]; exact hk
    · show SvR μ' (if its = its then nn else nd its) 5 = -1
      rw [if_pos rfl, show SvR μ' nn 5 = SvR μ1 nn 5 from i6.2.2 _ (by omega)]; exact f10
    · unfold WI
      rw [up_cell (by decide), h7, f1, if_neg (by rcases hk with w | w | w | w <;> rw [w] <;> decide), if_neg (by rcases hk with w | w | w | w <;> rw [w] <;> decide)]
    · rw [i4 1 (by decide)]; exact a15
    · rw [i4 1 (by decide)]; exact a16 x (by omega)
  · have h6 : p' 6 = p1 6 := by funext x; exact i5 6 x (by omega)
    rw [i1, i2, Option.bind_some, Option.bind_some]
    refine Or.inr ⟨r', up p' 14 its (nI (its + 1)), μ', ?_, rfl, i3, fun x hx => ?_, fun c c0 c1 => (i6.1 c c0 c1).trans (a14.1 c c0 c1), fun k hk => (i6.2.1 k (by omega) (by omega)).trans (a14.2.1 k hk), fun x hx => (i6.2.2 x (by omega)).trans (a14.2.2 x (by omega))⟩
    · unfold re_readItem_225
      dsimp only
      rw [ck_nI hi (by decide), if_neg i3.dead, h6, a9, nI_clamp (by omega)]
    · rw [up_cell (by decide), h6]; exact a13.2.2 x hx
/-- an item is read, when bodies within it are -/
theorem item_sim (hN : 20 ≤ N) (h : PS t r p μ its nn d a len) (hnn : nn ≤ 2 * its + 1) (hd : d ≤ 4)
    (hC : d < 4 → its < 24 → ∀ r1 p1 μ1, AF t r p μ r1 p1 μ1 its nn d bn a len 4 5 → ItO d bn its nn len nd t r p μ ((re_readChoice N t B (nI its) (nI d + 1) r1 (up p1 6 13 (if p1 6 13 < nI d + 1 then nI d + 1 else p1 6 13))).bind fun z => re_readItem_225 N t B (nI its) z.1 z.2) ((md_readsChoice N Bm (nI nn) μ1).bind fun z => some (z.1, z.2)))
    (hP : d < 4 → its < 24 → ∀ r1 p1 μ1, AF t r p μ r1 p1 μ1 its nn d bn a len 5 6 → ItO d bn its nn len nd t r p μ ((re_readParallel N t B (nI its) (nI d + 1) r1 (up p1 6 13 (if p1 6 13 < nI d + 1 then nI d + 1 else p1 6 13))).bind fun z => re_readItem_225 N t B (nI its) z.1 z.2) ((md_readsParallel N Bm (nI nn) μ1).bind fun z => some (z.1, z.2))) :
    ItO d bn its nn len nd t r p μ (re_readItem N t B (nI d) r p) (md_readsItem N Bm (nI bn) μ) := by
  have hPS := h
  obtain ⟨h1, h2, h3, h4, h5, h6, h7, h8⟩ := h
  obtain ⟨e1, e2⟩ := sgx_ev h1
  have much : ItO d bn its nn len nd t r p μ (re_readItem_63 N t B r p) (md_readsItem_43 N Bm μ) := by
    refine Or.inr ⟨up r 0 4 2, p, up μ 0 13 2, ?_, ?_, h1.bad2, fun _ _ => rfl, fun c c0 _ => up_row c0, fun k hk => up_in (by omega), fun x _ => up_cell (by decide)⟩
    · unfold re_readItem_63 re_fail
      rw [if_pos h1.2.2.1]; rfl
    · unfold md_readsItem_43 md_isTooMuch
      rfl
  have hin : ∀ {s : Int32}, sgx t len a = s → s ≠ -1 → a < len := fun q qs => sgx_in q qs
  unfold re_readItem md_readsItem
  rw [e1, e2, Option.bind_some, Option.bind_some]
  -- how a leaf goes on
  have leaf : ∀ (s k kM : Int32) (X : Mem → Mem → Option (Mem × Mem)) (M : Mem → Option (Bool × Mem)), sgx t len a = s → s ≠ -1 → Lf k →
      (∀ r1 p1 μ1, its < 24 → Sc t r1 (up μ1 0 12 (μ1 0 12 + 1)) (a + 1) len → Fresh p1 μ1 its nn k kM → IOut t r1 μ1 p1 len its nn (X r1 p1) (M μ1)) →
      (∀ r1 p1, its < 24 → re_readItem_126 N t B (nI d) k (nI its) r1 p1 = (X r1 p1).bind fun z => re_readItem_225 N t B (nI its) z.1 z.2) →
      (md_readsItem_48 N Bm (nI bn) s μ = (md_makes N kM (nI bn) (up μ 0 15 (μ 0 15 + 1))).bind fun z => (if z.1 = nI nn then M z.2 else none).bind fun z => some (z.1, z.2)) →
      ItO d bn its nn len nd t r p μ (re_readItem_41 N t B (nI d) k 0 r p) (if μ 0 15 = 24 then md_readsItem_43 N Bm μ else md_readsItem_48 N Bm (nI bn) s μ) := by
    intro s k kM X M q1 q2 q3 q4 q5 q6
    unfold re_readItem_41
    rw [h2, h4]
    by_cases qi : its < 24
    · rw [if_pos (show nI its < 24 from nI_lt (b := 24) qi (by decide)), if_pos rfl, if_neg (show ¬ nI its = 24 from fun w => by have := nI_inj (a := its) (b := 24) (by omega) (by decide) w; omega)]
      obtain ⟨p1, μ1, x1, x2, x3⟩ := af_ev (N := N) (bn := bn) (k := k) (kM := kM) hN hPS (hin q1 q2) qi (by omega)
      unfold re_readItem_70
      rw [x1, q6, x2, Option.bind_some, Option.bind_some]
      dsimp only
      rw [ck_nI qi (by decide), if_pos rfl, nI_clamp (by omega), q5 _ _ qi, if_pos rfl]
      exact leaf_end hPS qi hnn q3 x3 (q4 _ _ _ qi x3.1 x3.2.1)
    · rw [if_neg (show ¬ nI its < 24 from nI_nlt (b := 24) (by omega) (by omega)), if_pos (show nI its = 24 by rw [show its = 24 by omega]; rfl)]
      exact much
  -- how an item with bodies goes on
  have bodies : ∀ (s k kM : Int32) (X : Mem → Mem → Option (Mem × Mem)) (M : Mem → Option (Bool × Mem)), sgx t len a = s → s ≠ -1 →
      (d < 4 → its < 24 → ∀ r1 p1 μ1, AF t r p μ r1 p1 μ1 its nn d bn a len k kM → ItO d bn its nn len nd t r p μ ((X r1 (up p1 6 13 (if p1 6 13 < nI d + 1 then nI d + 1 else p1 6 13))).bind fun z => re_readItem_225 N t B (nI its) z.1 z.2) ((M μ1).bind fun z => some (z.1, z.2))) →
      (∀ r1 p1, re_readItem_126 N t B (nI d) k (nI its) r1 p1 = (X r1 p1).bind fun z => re_readItem_225 N t B (nI its) z.1 z.2) →
      (md_readsItem_48 N Bm (nI bn) s μ = (md_makes N kM (nI bn) (up μ 0 15 (μ 0 15 + 1))).bind fun z => (if z.1 = nI nn then M z.2 else none).bind fun z => some (z.1, z.2)) →
      ItO d bn its nn len nd t r p μ (re_readItem_41 N t B (nI d) k 1 r p) (if μ 0 15 = 24 then md_readsItem_43 N Bm μ else md_readsItem_35 N Bm (nI bn) s μ) := by
    intro s k kM X M q1 q2 q4 q5 q6
    unfold re_readItem_41
    rw [h2, h4]
    by_cases qi : its < 24
    · rw [if_pos (show nI its < 24 from nI_lt (b := 24) qi (by decide)), if_neg (show ¬ (1 : Int32) = 0 by decide), if_neg (show ¬ nI its = 24 from fun w => by have := nI_inj (a := its) (b := 24) (by omega) (by decide) w; omega)]
      unfold md_readsItem_35
      rw [h6]
      by_cases qd : d < 4
      · rw [if_pos (show nI d < 4 from nI_lt (b := 4) qd (by decide)), if_neg (show ¬ nI d = 4 from fun w => by have := nI_inj (a := d) (b := 4) (by omega) (by decide) w; omega)]
        obtain ⟨p1, μ1, x1, x2, x3⟩ := af_ev (N := N) (bn := bn) (k := k) (kM := kM) hN hPS (hin q1 q2) qi (by omega)
        unfold re_readItem_70
        rw [x1, q6, x2, Option.bind_some, Option.bind_some]
        dsimp only
        rw [ck_nI qi (by decide), if_neg (show ¬ (1 : Int32) = 0 by decide), nI_clamp (by omega), q5, if_pos rfl]
        exact q4 qd qi _ _ _ x3
      · rw [if_neg (show ¬ nI d < 4 from nI_nlt (b := 4) (by omega) (by omega)), if_pos (show nI d = 4 by rw [show d = 4 by omega]; rfl)]
        exact much
    · rw [if_neg (show ¬ nI its < 24 from nI_nlt (b := 24) (by omega) (by omega)), if_pos (show nI its = 24 by rw [show its = 24 by omega]; rfl)]
      exact much
  have mk : ∀ (kM : Int32) (M : Int32 → Mem → Option (Bool × Mem)), (md_makes N kM (nI bn) (up μ 0 15 (μ 0 15 + 1))).bind (fun z => (M z.1 z.2).bind fun z => some (z.1, z.2)) = (md_makes N kM (nI bn) (up μ 0 15 (μ 0 15 + 1))).bind fun z => (if z.1 = nI nn then M (nI nn) z.2 else none).bind fun z => some (z.1, z.2) := by
    intro kM M
    obtain ⟨μ1, y1, _⟩ := makes_ev (N := N) (y1 := kM) (y2 := nI bn) (μ := up μ 0 15 (μ 0 15 + 1)) (n := nn) hN (by omega) (by rw [up_in (by omega)]; exact h5)
    rw [y1, Option.bind_some, Option.bind_some, if_pos rfl]
  rcases kinds (sgx t len a) with ⟨q, k1, k2⟩ | ⟨q, k1, k2⟩ | ⟨q, k1, k2⟩ | ⟨q, k1, k2⟩ | ⟨q, k1, k2⟩ | ⟨q, k1, k2⟩ | ⟨k1, k2⟩
  · rw [k1, k2, Option.bind_some, Option.bind_some, if_pos h1.2.2.1, if_neg (show ¬ (5 : Int32) < 0 by decide), if_neg (show ¬ (5 : Int32) = 4 by decide), if_pos rfl, if_pos rfl, q, if_neg (show ¬ (40 : Int32) = 91 by decide), if_pos rfl]
    exact bodies 40 5 6 (fun r1 p1 => re_readParallel N t B (nI its) (nI d + 1) r1 p1) (md_readsParallel N Bm (nI nn)) q (by decide) hP (fun r1 p1 => by unfold re_readItem_126; rw [if_neg (show ¬ (5 : Int32) = 0 by decide), if_neg (show ¬ (5 : Int32) = 1 by decide), if_neg (show ¬ (5 : Int32) = 2 by decide), if_neg (show ¬ (5 : Int32) = 3 by decide), if_neg (show ¬ (5 : Int32) = 4 by decide)]) (by unfold md_readsItem_48; rw [if_neg (show ¬ (40 : Int32) = 91 by decide), if_neg (show ¬ (40 : Int32) = 115 by decide), if_neg (show ¬ (40 : Int32) = 116 by decide), if_neg (show ¬ (40 : Int32) = 119 by decide), if_neg (show ¬ (40 : Int32) = 120 by decide)]; exact mk 6 (md_readsParallel N Bm))
  · rw [k1, k2, Option.bind_some, Option.bind_some, if_pos h1.2.2.1, if_neg (show ¬ (4 : Int32) < 0 by decide), if_pos rfl, if_pos rfl, q, if_pos rfl]
    exact bodies 91 4 5 (fun r1 p1 => re_readChoice N t B (nI its) (nI d + 1) r1 p1) (md_readsChoice N Bm (nI nn)) q (by decide) hC (fun r1 p1 => by unfold re_readItem_126; rw [if_neg (show ¬ (4 : Int32) = 0 by decide), if_neg (show ¬ (4 : Int32) = 1 by decide), if_neg (show ¬ (4 : Int32) = 2 by decide), if_neg (show ¬ (4 : Int32) = 3 by decide), if_pos rfl]) (by unfold md_readsItem_48; rw [if_pos rfl]; exact mk 5 (md_readsChoice N Bm))
  · rw [k1, k2, Option.bind_some, Option.bind_some, if_pos h1.2.2.1, if_neg (show ¬ (2 : Int32) < 0 by decide), if_neg (show ¬ (2 : Int32) = 4 by decide), if_neg (show ¬ (2 : Int32) = 5 by decide), if_pos rfl, q, if_neg (show ¬ (115 : Int32) = 91 by decide), if_neg (show ¬ (115 : Int32) = 40 by decide)]
    exact leaf 115 2 3 (fun r1 p1 => re_readSignal N t (nI its) r1 p1) (md_readsSignal N (nI nn)) q (by decide) (by unfold Lf; decide) (fun r1 p1 μ1 qi g1 g2 => signal_out (by omega) g1 qi (by omega) g2) (fun r1 p1 _ => by unfold re_readItem_126; rw [if_neg (show ¬ (2 : Int32) = 0 by decide), if_neg (show ¬ (2 : Int32) = 1 by decide), if_pos rfl]) (by unfold md_readsItem_48; rw [if_neg (show ¬ (115 : Int32) = 91 by decide), if_pos rfl]; exact mk 3 (md_readsSignal N))
  · rw [k1, k2, Option.bind_some, Option.bind_some, if_pos h1.2.2.1, if_neg (show ¬ (0 : Int32) < 0 by decide), if_neg (show ¬ (0 : Int32) = 4 by decide), if_neg (show ¬ (0 : Int32) = 5 by decide), if_pos rfl, q, if_neg (show ¬ (116 : Int32) = 91 by decide), if_neg (show ¬ (116 : Int32) = 40 by decide)]
    exact leaf 116 0 1 (fun r1 p1 => re_readTask N t (nI its) r1 p1) (md_readsTask N (nI nn)) q (by decide) (by unfold Lf; decide) (fun r1 p1 μ1 qi g1 g2 => task_out (a0 := 0) (by omega) g1 qi (by omega) g2) (fun r1 p1 _ => by unfold re_readItem_126; rw [if_pos rfl]) (by unfold md_readsItem_48; rw [if_neg (show ¬ (116 : Int32) = 91 by decide), if_neg (show ¬ (116 : Int32) = 115 by decide), if_pos rfl]; exact mk 1 (md_readsTask N))
  · rw [k1, k2, Option.bind_some, Option.bind_some, if_pos h1.2.2.1, if_neg (show ¬ (1 : Int32) < 0 by decide), if_neg (show ¬ (1 : Int32) = 4 by decide), if_neg (show ¬ (1 : Int32) = 5 by decide), if_pos rfl, q, if_neg (show ¬ (119 : Int32) = 91 by decide), if_neg (show ¬ (119 : Int32) = 40 by decide)]
    exact leaf 119 1 2 (fun r1 p1 => (re_readNumber N t r1).bind fun z => some (z.2, up p1 10 its z.1)) (md_readsWait N (nI nn)) q (by decide) (by unfold Lf; decide) (fun r1 p1 μ1 qi g1 g2 => wait_out (by omega) g1 qi (by omega) g2) (fun r1 p1 qi => by
      unfold re_readItem_126
      rw [if_neg (show ¬ (1 : Int32) = 0 by decide), if_pos rfl]
      cases re_readNumber N t r1 with
      | none => rfl
      | some z =>
        show ck 24 (nI its) _ = _
        rw [ck_nI qi (by decide), nI_clamp (by omega)]; rfl) (by unfold md_readsItem_48; rw [if_neg (show ¬ (119 : Int32) = 91 by decide), if_neg (show ¬ (119 : Int32) = 115 by decide), if_neg (show ¬ (119 : Int32) = 116 by decide), if_pos rfl]; exact mk 2 (md_readsWait N))
  · rw [k1, k2, Option.bind_some, Option.bind_some, if_pos h1.2.2.1, if_neg (show ¬ (3 : Int32) < 0 by decide), if_neg (show ¬ (3 : Int32) = 4 by decide), if_neg (show ¬ (3 : Int32) = 5 by decide), if_pos rfl, q, if_neg (show ¬ (120 : Int32) = 91 by decide), if_neg (show ¬ (120 : Int32) = 40 by decide)]
    exact leaf 120 3 4 (fun r1 p1 => re_readSet N t (nI its) r1 p1) (md_readsSet N (nI nn)) q (by decide) (by unfold Lf; decide) (fun r1 p1 μ1 qi g1 g2 => set_out (by omega) g1 qi (by omega) g2) (fun r1 p1 _ => by unfold re_readItem_126; rw [if_neg (show ¬ (3 : Int32) = 0 by decide), if_neg (show ¬ (3 : Int32) = 1 by decide), if_neg (show ¬ (3 : Int32) = 2 by decide), if_pos rfl]) (by unfold md_readsItem_48; rw [if_neg (show ¬ (120 : Int32) = 91 by decide), if_neg (show ¬ (120 : Int32) = 115 by decide), if_neg (show ¬ (120 : Int32) = 116 by decide), if_neg (show ¬ (120 : Int32) = 119 by decide), if_pos rfl]; exact mk 4 (md_readsSet N))
  · rw [k1, k2, Option.bind_some, Option.bind_some, if_pos h1.2.2.1, if_pos (show (-1 : Int32) < 0 by decide), if_neg (by decide)]
    refine Or.inr ⟨up r 0 4 1, p, μ, ?_, rfl, h1.bad.1, fun _ _ => rfl, fun _ _ _ => rfl, fun _ _ => rfl, fun _ _ => rfl⟩
    unfold re_readItem_19 re_fail
    rw [if_pos h1.2.2.1]; rfl
end PA5
