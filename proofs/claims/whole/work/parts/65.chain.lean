/-! a body is read, one item after the other -/
def ChO (d bn j nn len W0 : Nat) (nd : Nat → Nat) (t r p μ pl μl : Mem) (X : Option (Int32 × Mem × Mem)) (M : Option (Bool × Mem)) : Prop :=
  (∃ (r' p' μ' : Mem) (be nn' a' W : Nat) (nd' : Nat → Nat), X = some (nI (max W0 W), r', p') ∧ M = some (true, μ') ∧ PS t r' p' μ' be nn' d a' len ∧ j < be ∧ nn' ≤ 2 * be ∧ PFr j pl p' ∧ MFr nn μl μ' ∧ (∀ x, x < j → nd' x = nd x) ∧ nd' j = nn ∧ NR nd' (SvR μ') j be nn nn' ∧ (∀ x, j ≤ x → x < be → SI p' nd' (SvR μ') x) ∧ (∀ f, be ≤ j + f → Ch p' nd' (SvR μ') f d bn j be ∧ WC p' f j be = W) ∧ W ≤ be - j ∧ ∀ x, x < j → r' 1 x = r 1 x) ∨
  (∃ k r' p' μ', X = some (k, r', p') ∧ M = some (false, μ') ∧ BadO j len r p μ r' p' μ')
section PB1
variable {t r μ r1 μ1 p p1 r' p' μ' : Mem} {a len N its nn d bn j W0 : Nat} {nd nd' : Nat → Nat} {B : Int32 → Mem → Mem → Option (Int32 × Mem × Mem)} {Bm : Int32 → Int32 → Mem → Option (Bool × Mem)}
theorem WC.rows (h7 : p' 7 = p 7) (h14 : p' 14 = p 14) (h15 : p' 15 = p 15) : ∀ f j be, WC p' f j be = WC p f j be
  | 0, _, _ => rfl
  | f + 1, j, be => by
    have hB : Bs p' = Bs p := by funext x y; unfold Bs; rw [h14, h15]
    have hE : En p' = En p := by funext x; unfold En; rw [h14]
    have ih : WC p' f = WC p f := by funext x y; exact WC.rows h7 h14 h15 f x y
    show max (WI p' f j) _ = max (WI p f j) _
    unfold WI
    rw [h7, h15, hB, hE, ih]
theorem WI.rows (h7 : p' 7 = p 7) (h14 : p' 14 = p 14) (h15 : p' 15 = p 15) (f j : Nat) : WI p' f j = WI p f j := by
  have hB : Bs p' = Bs p := by funext x y; unfold Bs; rw [h14, h15]
  have ih : WC p' f = WC p f := by funext x y; exact WC.rows h7 h14 h15 f x y
  unfold WI
  rw [h7, h15, hB, ih]
theorem par_all {r0 p0 μ0 p2 μ2 : Mem} {nd0 : Nat → Nat} (hN : 20 ≤ N) (hB : BSim t len (d + 1) B Bm) (hBd : BDead B) (hd : d < 4) (hi : its < 24) (hn64 : nn < 64)
    (q7 : p2 7 its = 5) (q12 : p2 12 its = -1) (q13 : p2 13 its = -1) (q8 : SvR μ2 nn 7 = p2 8 its) (v0 : SvR μ2 nn 0 = 6) (v4 : SvR μ2 nn 4 = -1) (v6 : SvR μ2 nn 6 = -1) (v8 : SvR μ2 nn 8 = nI bn) : ∀ s, ParP t r0 p0 μ0 p2 μ2 nd0 its nn d bn len N B Bm s
  | 0 => par_step hN hB hBd hd hi hn64 q7 q12 q13 q8 v0 v4 v6 v8 (fun s' hs => absurd hs (by omega))
  | s + 1 => par_step hN hB hBd hd hi hn64 q7 q12 q13 q8 v0 v4 v6 v8 (fun s' hs => by rw [show s' = s by omega]; exact par_all hN hB hBd hd hi hn64 q7 q12 q13 q8 v0 v4 v6 v8 s)
theorem par_sim (hN : 20 ≤ N) (hB : BSim t len (d + 1) B Bm) (hBd : BDead B) (hPS : PS t r p μ its nn d a len) (hnn : nn ≤ 2 * its + 1) (hd : d < 4) (hi : its < 24) (hA : AF t r p μ r1 p1 μ1 its nn d bn a len 5 6) :
    ItO d bn its nn len nd t r p μ ((re_readParallel N t B (nI its) (nI d + 1) r1 (up p1 6 13 (if p1 6 13 < nI d + 1 then nI d + 1 else p1 6 13))).bind fun z => re_readItem_225 N t B (nI its) z.1 z.2) ((md_readsParallel N Bm (nI nn) μ1).bind fun z => some (z.1, z.2)) := by
  have hA0 := hA
  obtain ⟨a1, a2, a3, a4, a5, a6, a7, a8, a9, a10, a11, a12, a13, a14, a15, a16⟩ := hA
  obtain ⟨f1, f2, f3, f4, f5, f6, f7, f8, f9, f10, f11, f12⟩ := a2
  have hS0 : Sc t r1 (opnd d μ1) (a + 1) len := (a1.hi (Or.inl rfl)).hi (Or.inr rfl)
  obtain ⟨p2, hp2⟩ : ∃ p2, p2 = up p1 6 13 (if p1 6 13 < nI d + 1 then nI d + 1 else p1 6 13) := ⟨_, rfl⟩
  have hb0 := bodst0 (nd := nd) (a3 := a + 1) hPS hd hi hnn hA0 hS0 RSf.refl (p3 := p2) (by rw [← hp2]; exact PFj.refl) MFn.refl
  rw [← hp2]
  have hq : ∀ c x, c ≠ 6 → p2 c x = p1 c x := fun c x hc => by rw [hp2, up_cell hc]
  have hsv : ∀ v, SvR (opnd d μ1) nn v = SvR μ1 nn v := fun v => by
    show (opnd d μ1) 1 _ = _
    unfold opnd
    rw [up_cell (by decide), up_cell (by decide), up_cell (by decide)]
  have hall := par_all (r0 := r) (p0 := p) (μ0 := μ) (p2 := p2) (μ2 := opnd d μ1) (nd0 := nd) (bn := bn) hN hB hBd hd hi (show nn < 64 by omega) (by rw [hq 7 its (by omega)]; exact f1) (by rw [hq 12 its (by omega)]; exact f2) (by rw [hq 13 its (by omega)]; exact a8) (by rw [hsv, hq 8 its (by omega)]; exact f12) ((hsv 0).trans f5) ((hsv 4).trans f9) ((hsv 6).trans f11) ((hsv 8).trans a7) 3 0 N N r1 p2 (opnd d μ1) (a + 1) (its + 1) (nn + 1) _ _ _ (-1) (by omega) (by omega) (by omega) hb0 (by rw [if_pos rfl])
  rw [nI_1]
  unfold re_readParallel md_readsParallel
  rw [opens_ev a5, Option.bind_some]
  have hX : ((re_readBodyOf N t B (nI its) (nI 0) (nI (d + 1)) r1 p2).bind fun z => re_readParallel_11 N t B N (nI its) (nI (d + 1)) (nI (sm 0 (fun _ => 0)) + z.1) (nI (0 + 1)) z.2.1 z.2.2) = ((re_readBodyOf N t B (nI its) 0 (nI (d + 1)) r1 p2).bind fun (k4, r4, p4) => re_readParallel_11 N t B N (nI its) (nI (d + 1)) k4 1 r4 p4) := by
    show ((re_readBodyOf N t B (nI its) 0 (nI (d + 1)) r1 p2).bind fun z => re_readParallel_11 N t B N (nI its) (nI (d + 1)) (0 + z.1) 1 z.2.1 z.2.2) = _
    cases re_readBodyOf N t B (nI its) 0 (nI (d + 1)) r1 p2 with
    | none => rfl
    | some z =>
      obtain ⟨k, r4, p4⟩ := z
      rw [Option.bind_some, Option.bind_some, Int32.zero_add]
  rw [hX] at hall
  exact hall
/-- an item is read, whatever it is -/
theorem item_all (hN : 20 ≤ N) (hB : d < 4 → BSim t len (d + 1) B Bm ∧ BDead B) (h : PS t r p μ its nn d a len) (hnn : nn ≤ 2 * its + 1) (hd : d ≤ 4) : ItO d bn its nn len nd t r p μ (re_readItem N t B (nI d) r p) (md_readsItem N Bm (nI bn) μ) :=
  item_sim hN h hnn hd (fun hd4 hi r1 p1 μ1 hA => choice_sim hN (hB hd4).1 (hB hd4).2 h hnn hd4 hi hA) (fun hd4 hi r1 p1 μ1 hA => par_sim hN (hB hd4).1 (hB hd4).2 h hnn hd4 hi hA)
/-- what the last item of a body and the body itself get, when one more is read -/
def plk (p : Mem) (la : Int32) (j : Nat) : Mem := if la < 0 then p else up p 13 la.toNatClampNeg (nI j)
def mlk (μ : Mem) (bn : Nat) (pv : Int32) (nn : Nat) : Mem := if pv < 0 then up μ 1 ((1024 + bn) * 9 + 5) (nI nn) else up μ 1 ((1024 + pv.toNatClampNeg) * 9 + 6) (nI nn)
theorem chain_sim (hN : 20 ≤ N) (hB : d < 4 → BSim t len (d + 1) B Bm ∧ BDead B) (hd : d ≤ 4) : ∀ (s j n m c nn a bn W0 : Nat) (nd : Nat → Nat) (r p μ : Mem) (la pv : Int32), j + s = 24 → s + 1 < n → s < m → c ≤ j → PS t r p μ j nn d a len → nn ≤ 2 * j + 1 → W0 ≤ 24 → bn < nn →
    ((la = -1 ∧ pv = -1) ∨ ∃ x y : Nat, x < j ∧ y < nn ∧ la = nI x ∧ pv = nI y) →
    ChO d bn j nn len W0 nd t r p μ (plk p la j) (mlk μ bn pv nn) (re_readBody_10 N t B n (nI d) (nI W0) la true (nI c) r p) (md_readsBody_36 N Bm m (nI bn) pv μ) := by
  intro s
  induction s using Nat.strongRecOn with
  | _ s ih =>
  intro j n m c nn a bn W0 nd r p μ la pv hjs hn hm hc hPS hnn hW hbn hlp
  obtain ⟨n, rfl⟩ : ∃ x, n = x + 1 := ⟨n - 1, by omega⟩
  obtain ⟨m, rfl⟩ : ∃ x, m = x + 1 := ⟨m - 1, by omega⟩
  have h14 : μ 0 14 = nI nn := hPS.2.2.2.2.1
  unfold re_readBody_10 md_readsBody_36
  rw [if_neg (show ¬ 24 < nI c from nI_nlt (a := 24) (by omega) (by omega)), if_pos rfl]
  rcases item_all (bn := bn) (nd := nd) hN hB hPS hnn hd with ⟨r1, p1, μ1, m0, nn1, a1, w, nd1, x1, x2, x3, x4, x5, x6, x7, x8, x9, x10, x11, x12, x13, x14, x15, x16, x17, x18⟩ | ⟨r1, p1, μ1, x1, x2, x3⟩
  rotate_left
  · rw [x1, x2, Option.bind_some, Option.bind_some]
    dsimp only
    rw [ins24m, Option.bind_some, if_neg (by decide), if_neg (by decide)]
    exact Or.inr ⟨_, _, _, _, rfl, rfl, x3⟩
  have hm0 : m0 ≤ 24 := x3.2.2.1
  rw [x1, x2, Option.bind_some, Option.bind_some]
  dsimp only
  rw [ins24 (by omega), Option.bind_some, if_pos rfl, if_pos rfl, h14]
  have key : ∀ p2 μ2 : Mem, (∀ c x, ¬ (c = 13 ∧ x < j) → p2 c x = p1 c x) → PFr j (plk p la j) p2 → (∀ c, c ≠ 1 → μ2 c = μ1 c) → (∀ n v, nn ≤ n → v < 9 → SvR μ2 n v = SvR μ1 n v) → MFr nn (mlk μ bn pv nn) μ2 →
      ChO d bn j nn len W0 nd t r p μ (plk p la j) (mlk μ bn pv nn) (re_readBody_56 N t B (re_readBody_10 N t B n) (nI d) (nI W0) (nI c) (nI j) r1 p2) (md_readsBody_78 N Bm (md_readsBody_36 N Bm m) (nI bn) (nI nn) μ2) := by
    intro p2 μ2 u1 u2 u3 u4 u5
    obtain ⟨g1, g2, g3, g4, g5, g6, g7, g8⟩ := x3
    have hS2 : Sc t r1 μ2 a1 len := ⟨g1.1, g1.2.1, g1.2.2.1, by rw [u3 0 (by decide)]; exact g1.2.2.2.1, by rw [u3 0 (by decide)]; exact g1.2.2.2.2.1, g1.2.2.2.2.2.1, g1.2.2.2.2.2.2.1, by rw [u3 0 (by decide)]; exact g1.2.2.2.2.2.2.2.1, by rw [u3 8 (by decide)]; exact g1.2.2.2.2.2.2.2.2⟩
    have hPS2 : ∀ r3 μ3 a3, Sc t r3 μ3 a3 len → (∀ k, k ≠ 12 → k ≠ 18 → μ3 0 k = μ1 0 k) → PS t r3 p2 μ3 m0 nn1 d a3 len := fun r3 μ3 a3 e1 e2 => by
      refine ⟨e1, by rw [u1 6 11 (by omega)]; exact g2, g3, by rw [e2 15 (by omega) (by omega)]; exact g4, by rw [e2 14 (by omega) (by omega)]; exact g5, by rw [e2 16 (by omega) (by omega)]; exact g6, by rw [u1 6 13 (by omega), e2 17 (by omega) (by omega)]; exact g7, ?_⟩
      rw [u1 6 12 (by omega), g8]
      congr 1
      exact sm_same (fun x _ => by
        show (if p1 7 x = 0 then 1 else 0) = if p2 7 x = 0 then 1 else 0
        rw [u1 7 x (by omega)])
    have hmax : (if nI W0 < nI w then nI w else nI W0) = nI (max W0 w) := by
      by_cases q : W0 < w
      · rw [if_pos (nI_lt q (by omega)), Nat.max_eq_right (by omega)]
      · rw [if_neg (nI_nlt (by omega) (by omega)), Nat.max_eq_left (by omega)]
    have hbd := x10.bd
    have nd1j : nd1 j = nn := x9
    unfold re_readBody_56 md_readsBody_78
    rw [rd_nI (by omega) (by decide), Option.bind_some, x17]
    rcases takes_sim (c := 59) hS2 (by decide) with ⟨q, r3, μ3, y1, y2, y3, y4, y5⟩ | ⟨q, y1, y2⟩
    · -- one more
      rw [y1, y2, Option.bind_some, Option.bind_some]
      dsimp only
      rw [if_pos rfl, hmax, nI_1]
      have e3 : μ3 1 = μ2 1 := y5.1 1 (by decide)
      have hc3 := ih (24 - m0) (by omega) m0 n m (c + 1) nn1 (a1 + 1) bn (max W0 w) nd1 r3 p2 μ3 (nI j) (nI nn) (by omega) (by omega) (by omega) (by omega) (hPS2 r3 μ3 _ y3 (fun k k1 k2 => by rw [y5.2 k k1 k2, u3 0 (by decide)])) (by omega) (by omega) (by have := hbd j (Nat.le_refl _) x4; omega) (Or.inr ⟨j, nn, x4, by have := hbd j (Nat.le_refl _) x4; omega, rfl, rfl⟩)
      rcases hc3 with ⟨r', p', μ', be, nn', a', W, nd', z1, z2, z3, z4, z5, z6, z7, z8, z9, z10, z11, z12, z13, z14⟩ | ⟨k, r', p', μ', z1, z2, z3⟩
      · have hpl : plk p2 (nI j) m0 = up p2 13 j (nI m0) := by unfold plk; rw [if_neg (nI_pos (by omega)), nI_clamp (by omega)]
        have hml : mlk μ3 bn (nI nn) nn1 = up μ3 1 ((1024 + nn) * 9 + 6) (nI nn1) := by unfold mlk; rw [if_neg (nI_pos (by omega)), nI_clamp (by omega)]
        rw [hpl] at z6
        rw [hml] at z7
        have hnn1 : nn < nn1 := by have := hbd j (Nat.le_refl _) x4; omega
        have sv : ∀ n v, nn ≤ n → n < nn1 → v < 9 → (n ≠ nn ∨ v ≠ 6) → SvR μ' n v = SvR μ1 n v := fun n v n1 n2 hv hne => by
          rw [← u4 n v n1 hv]
          show μ' 1 _ = μ2 1 _
          rw [z7.2.2 _ (by omega), up_in (by omega), e3]
        have pr : ∀ c x, 7 ≤ c → c ≤ 14 → j ≤ x → x < m0 → ¬ (c = 13 ∧ x = j) → p' c x = p1 c x := fun c x c1 c2 hx1 hx2 hne => by
          rw [z6.1 c x c1 c2 hx2, up_other (by omega), u1 c x (by omega)]
        have pr15 : ∀ x, x < 4 * m0 → p' 15 x = p1 15 x := fun x hx => by
          rw [z6.2.1 x hx, up_cell (by decide), u1 15 x (by omega)]
        have hend : SvR μ' nn 6 = nI nn1 := by
          show μ' 1 _ = _
          rw [z7.2.2 _ (by omega), up_at]
        have p13 : p' 13 j = nI m0 := by rw [z6.1 13 j (by omega) (by omega) x4, up_at]
        refine Or.inl ⟨r', p', μ', be, nn', a', max w W, nd', by rw [z1]; rw [show max (max W0 w) W = max W0 (max w W) by omega], z2, z3, by omega, z5, ?_, ?_, fun x hx => (z8 x (by omega)).trans (x8 x hx), by rw [z8 j x4]; exact nd1j, ?_, fun x hx1 hx2 => ?_, fun f hf => ?_, by omega, fun x hx => ?_⟩
        · exact ⟨fun c x c1 c2 hx => by rw [z6.1 c x c1 c2 (by omega), up_other (by omega)]; exact u2.1 c x c1 c2 hx, fun x hx => by rw [z6.2.1 x (by omega), up_cell (by decide)]; exact u2.2.1 x hx, fun x hx => by rw [z6.2.2 x hx, up_cell (by decide)]; exact u2.2.2 x hx⟩
        · exact ⟨fun c c0 c1 => by rw [z7.1 c c0 c1, up_row c1, y5.1 c c0]; exact u5.1 c c0 c1, fun k hk => by rw [z7.2.1 k hk, up_cell (by decide), y5.2 k (by omega) (by omega)]; exact u5.2.1 k hk, fun x hx => by rw [z7.2.2 x (by omega), up_in (by omega), e3]; exact u5.2.2 x hx⟩
        · exact (x10.ext (fun x _ hx => z8 x hx) (fun n n1 n2 => sv n 0 n1 n2 (by decide) (Or.inr (by decide)))).app z10 (Or.inl rfl)
        · by_cases q2 : x < m0
          · have hb := hbd x hx1 q2
            exact (x11 x hx1 q2).ext (z8 x q2) (fun c c1 c2 => pr c x c1 (by omega) hx1 q2 (by omega)) (fun v hv => sv _ _ hb.1 hb.2 (by omega) (Or.inr (by omega)))
          · exact z11 x (by omega) hx2
        · obtain ⟨f, rfl⟩ : ∃ g, f = g + 1 := ⟨f - 1, by omega⟩
          obtain ⟨ci, cw⟩ := x15 f (by omega)
          obtain ⟨cr, cwr⟩ := z12 f (by omega)
          have hPE : PE p1 p' (j + 1) m0 := fun x hx1 hx2 => ⟨pr 7 x (by omega) (by omega) (by omega) hx2 (by omega), pr 13 x (by omega) (by omega) (by omega) hx2 (by omega), pr 14 x (by omega) (by omega) (by omega) hx2 (by omega), fun v hv => pr15 _ (by omega)⟩
          have ci' : ChI p' nd' (SvR μ') f d j m0 := ci.ext x10 hm0 (pr 7 j (by omega) (by omega) (Nat.le_refl _) x4 (by omega)) (pr 14 j (by omega) (by omega) (Nat.le_refl _) x4 (by omega)) (fun v hv => pr15 _ (by omega)) hPE (fun x hx1 hx2 => z8 x hx2) (sv nn 5 (Nat.le_refl _) hnn1 (by decide) (Or.inr (by decide))) (fun n v n1 n2 hv => sv n v (by omega) n2 hv (Or.inl (by omega)))
          have hnj : nd' j = nn := by rw [z8 j x4]; exact nd1j
          have hch : Ch p' nd' (SvR μ') (f + 1) d bn j be := ci'.ch x4 (by omega) (by rw [hnj, sv nn 8 (Nat.le_refl _) hnn1 (by decide) (Or.inr (by decide))]; exact x13) (Or.inr ⟨z4, p13, by rw [hnj, z9]; exact hend, cr⟩)
          refine ⟨hch, ?_⟩
          have hE : En p' j = m0 := En_eq ci'.1 (by omega)
          rw [WC_eq, hE, if_pos z4, cwr]
          -- the width of the item itself
          have c1 : Ch p1 nd1 (SvR μ1) (f + 1) d bn j m0 := ci.ch x4 (Nat.le_refl _) (by rw [nd1j]; exact x13) (Or.inl ⟨rfl, x14, by rw [nd1j]; exact x12⟩)
          have hwi := (WC.ext (p' := up p' 13 j (-1)) _ _ _ _ _ c1 hm0 (fun x hx1 hx2 => by
            by_cases q2 : x = j
            · subst q2
              exact ⟨by rw [up_cell (by decide)]; exact pr 7 x (by omega) (by omega) (by omega) hx2 (by omega), by rw [up_at]; exact x14.symm, by rw [up_cell (by decide)]; exact pr 14 x (by omega) (by omega) (by omega) hx2 (by omega), fun v hv => by rw [up_cell (by decide)]; exact pr15 _ (by omega)⟩
            · obtain ⟨v1, v2, v3, v4⟩ := hPE x (by omega) hx2
              exact ⟨by rw [up_cell (by decide)]; exact v1, by rw [up_in q2]; exact v2, by rw [up_cell (by decide)]; exact v3, fun v hv => by rw [up_cell (by decide)]; exact v4 v hv⟩)).2 f rfl
          rw [WI.rows (p := p') (up_row (by decide)) (up_row (by decide)) (up_row (by decide)), cw] at hwi
          rw [hwi]
        · rw [z14 x (by omega), y4 1 (by decide)]; exact x18 x hx
      · refine Or.inr ⟨k, r', p', μ', z1, z2, z3.1, fun x hx => ?_, fun c c0 c1 => ?_, fun x hx => ?_, fun x hx => ?_⟩
        · rw [z3.2.1 x hx, u1 6 x (by omega)]; exact x6.2.2 x hx
        · rw [z3.2.2.1 c c0 c1, y5.1 c c0, u3 c c1]; exact x7.1 c c0 c1
        · rw [z3.2.2.2.1 x hx, y5.2 x (by omega) (by omega), u3 0 (by decide)]; exact x7.2.1 x hx
        · rw [z3.2.2.2.2 x hx, e3, u5.2.2 x (by omega)]
          unfold mlk
          by_cases q2 : pv < 0
          · rw [if_pos q2, up_in (by omega)]
          · rw [if_neg q2, up_in (by omega)]
    · -- the last one
      rw [y1, y2, Option.bind_some, Option.bind_some]
      dsimp only
      rw [hmax, if_neg (show ¬ (false = true) by decide), nI_1]
      obtain ⟨n, rfl⟩ : ∃ x, n = x + 1 := ⟨n - 1, by omega⟩
      have hX : ∀ y1 y2 y3 r p, re_readBody_10 N t B (n + 1) y1 y2 y3 false (nI (c + 1)) r p = some (y2, r, p) := fun y1 y2 y3 r p => by
        unfold re_readBody_10
        rw [if_neg (show ¬ 24 < nI (c + 1) from nI_nlt (a := 24) (by omega) (by omega)), if_neg (by decide)]
      rw [hX]
      have sv : ∀ n v, nn ≤ n → v < 9 → SvR μ2 n v = SvR μ1 n v := u4
      have pr : ∀ c x, j ≤ x → p2 c x = p1 c x := fun c x hx => u1 c x (by omega)
      have pr15 : ∀ x, p2 15 x = p1 15 x := fun x => u1 15 x (by omega)
      refine Or.inl ⟨r1, p2, μ2, m0, nn1, a1, w, nd1, rfl, rfl, hPS2 r1 μ2 a1 hS2 (fun k _ _ => by rw [u3 0 (by decide)]), x4, x5, u2, u5, x8, nd1j, x10.ext (fun _ _ _ => rfl) (fun n n1 n2 => sv n 0 n1 (by decide)), fun x hx1 hx2 => (x11 x hx1 hx2).ext rfl (fun c c1 c2 => pr c x hx1) (fun v hv => sv _ _ (hbd x hx1 hx2).1 (by omega)), fun f hf => ?_, x16, x18⟩
      obtain ⟨f, rfl⟩ : ∃ g, f = g + 1 := ⟨f - 1, by omega⟩
      obtain ⟨ci, cw⟩ := x15 f (by omega)
      have c1 : Ch p1 nd1 (SvR μ1) (f + 1) d bn j m0 := ci.ch x4 (Nat.le_refl _) (by rw [nd1j]; exact x13) (Or.inl ⟨rfl, x14, by rw [nd1j]; exact x12⟩)
      have hPE : PE p1 p2 j m0 := fun x hx1 hx2 => ⟨pr 7 x hx1, pr 13 x hx1, pr 14 x hx1, fun v hv => pr15 _⟩
      have c2 : Ch p2 nd1 (SvR μ2) (f + 1) d bn j m0 := Ch.ext _ _ _ _ _ c1 hm0 hPE (fun x hx1 hx2 => by
        have hb := hbd x hx1 hx2
        refine ⟨rfl, fun v hv => sv _ _ hb.1 hv, fun hx3 v hv => sv _ _ ?_ hv⟩
        have := x10.lt (Nat.le_refl _) hx3 hx2
        omega)
      refine ⟨c2, ?_⟩
      have hw := WC.ext _ _ _ _ _ c1 hm0 hPE
      have hE : En p1 j = m0 := En_eq ci.1 (by omega)
      rw [hw.1, WC_eq, hE, if_neg (by omega), cw, Nat.max_eq_left (by omega)]
  rcases hlp with ⟨l1, l2⟩ | ⟨x, y, l0, l0', l1, l2⟩
  · subst l1; subst l2
    rw [if_pos (by decide), if_pos (by decide), show (5 : Int32) = nI 5 from rfl, put_ev (by omega) (by decide), Option.bind_some]
    have hpl : plk p (-1) j = p := if_pos (by decide)
    have hml : mlk μ bn (-1) nn = up μ 1 ((1024 + bn) * 9 + 5) (nI nn) := if_pos (by decide)
    have := key p1 (up μ1 1 ((1024 + bn) * 9 + 5) (nI nn)) (fun _ _ _ => rfl) (by rw [hpl]; exact x6) (fun c hc => up_row hc) (fun n v n1 hv => by show up _ _ _ _ _ _ = _; rw [up_in (by omega)]) (by
      rw [hml]
      refine ⟨fun c c0 c1 => by rw [up_row c1, up_row c1]; exact x7.1 c c0 c1, fun k hk => by rw [up_cell (by decide), up_cell (by decide)]; exact x7.2.1 k hk, fun x hx => ?_⟩
      by_cases q : x = (1024 + bn) * 9 + 5
      · rw [q, up_at, up_at]
      · rw [up_in q, up_in q]; exact x7.2.2 x hx)
    exact this
  · subst l1; subst l2
    rw [if_neg (nI_pos (by omega)), if_neg (nI_pos (by omega)), ck_nI (by omega) (by decide), show (6 : Int32) = nI 6 from rfl, put_ev (by omega) (by decide), Option.bind_some, nI_clamp (by omega)]
    have hpl : plk p (nI x) j = up p 13 x (nI j) := by unfold plk; rw [if_neg (nI_pos (by omega)), nI_clamp (by omega)]
    have hml : mlk μ bn (nI y) nn = up μ 1 ((1024 + y) * 9 + 6) (nI nn) := by unfold mlk; rw [if_neg (nI_pos (by omega)), nI_clamp (by omega)]
    have := key (up p1 13 x (nI j)) (up μ1 1 ((1024 + y) * 9 + 6) (nI nn)) (fun c z hz => up_other (by omega)) (by
      rw [hpl]
      refine ⟨fun c z c1 c2 hz => ?_, fun z hz => by rw [up_cell (by decide), up_cell (by decide)]; exact x6.2.1 z hz, fun z hz => by rw [up_cell (by decide), up_cell (by decide)]; exact x6.2.2 z hz⟩
      by_cases q : c = 13 ∧ z = x
      · rw [q.1, q.2, up_at, up_at]
      · rw [up_other (by omega), up_other (by omega)]; exact x6.1 c z c1 c2 hz) (fun c hc => up_row hc) (fun n v n1 hv => by show up _ _ _ _ _ _ = _; rw [up_in (by omega)]) (by
      rw [hml]
      refine ⟨fun c c0 c1 => by rw [up_row c1, up_row c1]; exact x7.1 c c0 c1, fun k hk => by rw [up_cell (by decide), up_cell (by decide)]; exact x7.2.1 k hk, fun z hz => ?_⟩
      by_cases q : z = (1024 + y) * 9 + 6
      · rw [q, up_at, up_at]
      · rw [up_in q, up_in q]; exact x7.2.2 z hz)
    exact this
end PB1
