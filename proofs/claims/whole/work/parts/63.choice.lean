/-! a choice is read -/
def sgN (N : Nat) (t r : Mem) : Option (Int32 × Mem) := (re_takes t 45 r).bind fun (k, r1) => if k = true then (re_readNumber N t r1).bind fun (k2, r2) => some (-k2, r2) else (re_readNumber N t r1).bind fun (k2, r2) => some (k2, r2)
section PA8
variable {t r μ r1 μ1 p p1 r' p' μ' : Mem} {a len N its nn d bn : Nat} {nd : Nat → Nat} {B : Int32 → Mem → Mem → Option (Int32 × Mem × Mem)} {Bm : Int32 → Int32 → Mem → Option (Bool × Mem)}
theorem rchoice_ev (hi : its < 24) {y : Int32} : re_readChoice N t B (nI its) y r p = (re_expect t 120 r).bind fun r3 => (re_readVariable t r3).bind fun z => (re_expect t 60 z.2).bind fun r22 => (sgN N t r22).bind fun v => re_readChoice_54 N t B (nI its) y v.1 (nI its) v.2 (up p 9 its z.1) := by
  unfold re_readChoice
  cases re_expect t 120 r with
  | none => rfl
  | some r3 =>
    rw [Option.bind_some, Option.bind_some]
    cases re_readVariable t r3 with
    | none => rfl
    | some z =>
      obtain ⟨k15, r15⟩ := z
      rw [Option.bind_some, Option.bind_some]
      dsimp only
      rw [ck_nI hi (by decide), nI_clamp (by omega)]
      cases re_expect t 60 r15 with
      | none => rfl
      | some r22 =>
        rw [Option.bind_some, Option.bind_some]
        unfold sgN
        cases re_takes t 45 r22 with
        | none => rfl
        | some z =>
          obtain ⟨k, r1⟩ := z
          rw [Option.bind_some, Option.bind_some]
          dsimp only
          by_cases q : k = true
          · rw [if_pos q, if_pos q]
            cases re_readNumber N t r1 with
            | none => rfl
            | some z => rfl
          · rw [if_neg q, if_neg q]
            cases re_readNumber N t r1 with
            | none => rfl
            | some z => rfl
theorem ch54_ev (hi : its < 24) {y v : Int32} : re_readChoice_54 N t B (nI its) y v (nI its) r p = (re_expect t 58 r).bind fun r58 => (re_readBodyOf N t B (nI its) (nI 0) y r58 (up p 10 its v)).bind fun z => (re_expect t 124 z.2.1).bind fun r72 => (re_readBodyOf N t B (nI its) (nI 1) y r72 z.2.2).bind fun z2 => (re_expect t 93 z2.2.1).bind fun r87 => some (up r87 1 its (if z.1 < z2.1 then z2.1 else z.1), z2.2.2) := by
  unfold re_readChoice_54
  rw [ck_nI hi (by decide), nI_clamp (by omega), show (0 : Int32) = nI 0 from rfl, show (1 : Int32) = nI 1 from rfl]
  cases re_expect t 58 r with
  | none => rfl
  | some r58 =>
    rw [Option.bind_some, Option.bind_some]
    cases re_readBodyOf N t B (nI its) (nI 0) y r58 (up p 10 its v) with
    | none => rfl
    | some z =>
      obtain ⟨k65, r65, p65⟩ := z
      rw [Option.bind_some, Option.bind_some]
      dsimp only
      cases re_expect t 124 r65 with
      | none => rfl
      | some r72 =>
        rw [Option.bind_some, Option.bind_some]
        cases re_readBodyOf N t B (nI its) (nI 1) y r72 p65 with
        | none => rfl
        | some z2 =>
          obtain ⟨k79, r79, p79⟩ := z2
          rw [Option.bind_some, Option.bind_some]
          dsimp only
          cases re_expect t 93 r79 with
          | none => rfl
          | some r87 =>
            rw [Option.bind_some, Option.bind_some, ck_nI hi (by decide)]
theorem sgN_dead (h : r 0 4 ≠ 0) (hN : 1 ≤ N) : sgN N t r = some (0, r) := signed_dead h hN
theorem put1_ev {n : Nat} {v : Int32} (hn : n < 64) : md_put (nI n) 1 v μ = some (up μ 1 ((1024 + n) * 9 + 1) v) := put_ev (w := 1) hn (by decide)
theorem put2_ev {n : Nat} {v : Int32} (hn : n < 64) : md_put (nI n) 2 v μ = some (up μ 1 ((1024 + n) * 9 + 2) v) := put_ev (w := 2) hn (by decide)
theorem opens_ev (h : μ1 0 16 = nI d) : md_opens (up μ1 0 12 (μ1 0 12 + 1)) = some (opnd d μ1) := by
  unfold md_opens opnd
  rw [up_in (show (16 : Nat) ≠ 12 by decide), up_in (show (17 : Nat) ≠ 12 by decide), h, nI_1]
/-- what the class does from a place on, once the text is wrong -/
theorem d93 (hi : its < 24) {x : Int32} (h : r 0 4 ≠ 0) : Dd r p ((re_expect t 93 r).bind fun r87 => some (up r87 1 its x, p)) := by
  rw [expect_dead h, Option.bind_some]
  exact ⟨_, _, rfl, up_row (by decide), rfl⟩
theorem db1 (hBd : BDead B) (hi : its < 24) {y k65 : Int32} (h : r 0 4 ≠ 0) : Dd r p ((re_readBodyOf N t B (nI its) (nI 1) y r p).bind fun z2 => (re_expect t 93 z2.2.1).bind fun r87 => some (up r87 1 its (if k65 < z2.1 then z2.1 else k65), z2.2.2)) := by
  rw [bodyOf_dead hBd h hi (by decide), Option.bind_some]
  obtain ⟨r2, p2, x1, x2, x3⟩ := d93 (t := t) (p := up p 15 (4 * its + 1) (p 6 11)) hi (x := if k65 < 0 then 0 else k65) h
  exact ⟨r2, p2, x1, x2, by rw [x3, up_row (by decide)]⟩
theorem d124 (hBd : BDead B) (hi : its < 24) {y k65 : Int32} (h : r 0 4 ≠ 0) : Dd r p ((re_expect t 124 r).bind fun r72 => (re_readBodyOf N t B (nI its) (nI 1) y r72 p).bind fun z2 => (re_expect t 93 z2.2.1).bind fun r87 => some (up r87 1 its (if k65 < z2.1 then z2.1 else k65), z2.2.2)) := by
  rw [expect_dead h, Option.bind_some]
  exact db1 hBd hi h
theorem db0 (hBd : BDead B) (hi : its < 24) {y : Int32} (h : r 0 4 ≠ 0) : Dd r p ((re_readBodyOf N t B (nI its) (nI 0) y r p).bind fun z => (re_expect t 124 z.2.1).bind fun r72 => (re_readBodyOf N t B (nI its) (nI 1) y r72 z.2.2).bind fun z2 => (re_expect t 93 z2.2.1).bind fun r87 => some (up r87 1 its (if z.1 < z2.1 then z2.1 else z.1), z2.2.2)) := by
  rw [bodyOf_dead hBd h hi (by decide), Option.bind_some]
  obtain ⟨r2, p2, x1, x2, x3⟩ := d124 (t := t) (N := N) (y := y) (k65 := 0) (p := up p 15 (4 * its + 0) (p 6 11)) hBd hi h
  exact ⟨r2, p2, x1, x2, by rw [x3, up_row (by decide)]⟩
theorem d54 (hBd : BDead B) (hi : its < 24) {y v : Int32} (h : r 0 4 ≠ 0) : Dd r p (re_readChoice_54 N t B (nI its) y v (nI its) r p) := by
  rw [ch54_ev hi, expect_dead h, Option.bind_some]
  obtain ⟨r2, p2, x1, x2, x3⟩ := db0 (t := t) (N := N) (y := y) (p := up p 10 its v) hBd hi h
  exact ⟨r2, p2, x1, x2, by rw [x3, up_row (by decide)]⟩
theorem opnd_fr {kk kM : Int32} (hA : AF t r p μ r1 p1 μ1 its nn d bn a len kk kM) (hm : MFo nn (opnd d μ1) μ') : MFr nn μ μ' := by
  obtain ⟨a1, a2, a3, a4, a5, a6, a7, a8, a9, a10, a11, a12, a13, a14, a15, a16⟩ := hA
  refine ⟨fun c c0 c1 => ?_, fun k hk => ?_, fun x hx => ?_⟩
  · rw [hm.1 c c0 c1]
    unfold opnd
    rw [up_row c0, up_row c0, up_row c0]; exact a14.1 c c0 c1
  · rw [hm.2.1 k (by omega) (by omega) (by omega)]
    unfold opnd
    rw [up_in (by omega), up_in (by omega), up_in (by omega)]; exact a14.2.1 k hk
  · rw [hm.2.2 x (by omega)]
    unfold opnd
    rw [up_cell (by decide), up_cell (by decide), up_cell (by decide)]; exact a14.2.2 x hx
theorem BadO.it {X : Option (Int32 × Mem × Mem)} (h : BadO its len r p μ r' p' μ') : Bad r' μ' len ∧ ∀ x, (x < 11 ∨ 14 ≤ x) → p' 6 x = p 6 x := ⟨h.1, h.2.1⟩
/-- as dd_end, behind a body -/
theorem dd_bad {X : Option (Mem × Mem)} (hi : its < 24) (h : Dd r' p' X) (hb : BadO its len r p μ r' p' μ') : ItO d bn its nn len nd t r p μ (X.bind fun z => re_readItem_225 N t B (nI its) z.1 z.2) (some (false, μ')) := by
  obtain ⟨r2, p2, x1, x2, x3⟩ := h
  rw [x1, Option.bind_some]
  refine Or.inr ⟨r2, up p2 14 its (p2 6 11), μ', ?_, rfl, ?_, fun x hx => ?_, hb.2.2⟩
  · unfold re_readItem_225
    dsimp only
    rw [ck_nI hi (by decide), if_neg (by rw [x2]; exact hb.1.dead), nI_clamp (by omega)]
  · unfold Bad
    rw [x2]; exact hb.1
  · rw [up_cell (by decide), x3]; exact hb.2.1 x hx
theorem choice_sim (hN : 20 ≤ N) (hB : BSim t len (d + 1) B Bm) (hBd : BDead B) (hPS : PS t r p μ its nn d a len) (hnn : nn ≤ 2 * its + 1) (hd : d < 4) (hi : its < 24) (hA : AF t r p μ r1 p1 μ1 its nn d bn a len 4 5) :
    ItO d bn its nn len nd t r p μ ((re_readChoice N t B (nI its) (nI d + 1) r1 (up p1 6 13 (if p1 6 13 < nI d + 1 then nI d + 1 else p1 6 13))).bind fun z => re_readItem_225 N t B (nI its) z.1 z.2) ((md_readsChoice N Bm (nI nn) μ1).bind fun z => some (z.1, z.2)) := by
  have hA0 := hA
  obtain ⟨a1, a2, a3, a4, a5, a6, a7, a8, a9, a10, a11, a12, a13, a14, a15, a16⟩ := hA
  obtain ⟨f1, f2, f3, f4, f5, f6, f7, f8, f9, f10, f11, f12⟩ := a2
  have hn64 : nn < 64 := by omega
  have hS0 : Sc t r1 (opnd d μ1) (a + 1) len := (a1.hi (Or.inl rfl)).hi (Or.inr rfl)
  obtain ⟨p2, hp2⟩ : ∃ p2, p2 = up p1 6 13 (if p1 6 13 < nI d + 1 then nI d + 1 else p1 6 13) := ⟨_, rfl⟩
  rw [← hp2]
  have hq6 : ∀ x, (x < 11 ∨ 14 ≤ x) → p2 6 x = p 6 x := fun x hx => by rw [hp2, up_in (by omega)]; exact a13.2.2 x hx
  have hq : ∀ c x, c ≠ 6 → p2 c x = p1 c x := fun c x hc => by rw [hp2, up_cell hc]
  have hsv : ∀ v, SvR (opnd d μ1) nn v = SvR μ1 nn v := fun v => by
    show (opnd d μ1) 1 _ = _
    unfold opnd
    rw [up_cell (by decide), up_cell (by decide), up_cell (by decide)]
  rw [nI_1, rchoice_ev hi]
  unfold md_readsChoice
  rw [opens_ev a5, Option.bind_some]
  rcases expect_sim (c := 120) hS0 (by decide) with ⟨r3, μ3, x1, x2, x3, x4, x5⟩ | ⟨r3, x1, x2, x3, x4⟩
  rotate_left
  · rw [x1, x2, Option.bind_some, Option.bind_some]
    dsimp only
    rw [if_neg (by decide), Option.bind_some, var_dead x3.dead, Option.bind_some]
    dsimp only
    rw [expect_dead x3.dead, Option.bind_some, sgN_dead x3.dead (by omega), Option.bind_some]
    exact dd_end hi (d54 hBd hi x3.dead) x3 (fun x hx => by rw [up_cell (by decide)]; exact hq6 x hx) (opnd_fr hA0 MFn.refl.mo)
  rw [x1, x2, Option.bind_some, Option.bind_some]
  dsimp only
  rw [if_pos rfl]
  have hv : ∀ r k r', re_readBetween t 48 51 r = some (k, r') → re_readVariable t r = some (k, r') := fun r k r' h => by unfold re_readVariable; rw [h]; rfl
  rcases digit_sim (lo := 0) (hi := 3) x3 (by omega) (by omega) with ⟨c, r4, μ4, c1, y0, y1, y2, y3, y4, y5, y6⟩ | ⟨r4, y1, y2, y3, y4⟩
  rotate_left
  · rw [hv _ _ _ y1, show md_takesDigit 0 3 μ3 = some (false, μ3) from y2, Option.bind_some, Option.bind_some]
    dsimp only
    rw [if_neg (by decide), Option.bind_some, expect_dead y3.dead, Option.bind_some, sgN_dead y3.dead (by omega), Option.bind_some]
    exact dd_end hi (d54 hBd hi y3.dead) y3 (fun x hx => by rw [up_cell (by decide)]; exact hq6 x hx) (opnd_fr hA0 x5.fn.mo)
  rw [hv _ _ _ y1, show md_takesDigit 0 3 μ3 = some (true, μ4) from y2, Option.bind_some, Option.bind_some]
  dsimp only
  rw [if_pos rfl, y6, put1_ev hn64, Option.bind_some]
  have hM4 : MFn nn (opnd d μ1) (up μ4 1 ((1024 + nn) * 9 + 1) (nI c)) := (x5.fn.trans y5.fn).trans (MFn.put (by omega))
  rcases expect_sim (c := 60) (y3.put (x := (1024 + nn) * 9 + 1) (v := nI c)) (by decide) with ⟨r5, μ5, z1, z2, z3, z4, z5⟩ | ⟨r5, z1, z2, z3, z4⟩
  rotate_left
  · rw [z1, z2, Option.bind_some, Option.bind_some]
    dsimp only
    rw [if_neg (by decide), Option.bind_some, sgN_dead z3.dead (by omega), Option.bind_some]
    exact dd_end hi (d54 hBd hi z3.dead) z3 (fun x hx => by rw [up_cell (by decide)]; exact hq6 x hx) (opnd_fr hA0 hM4.mo)
  rw [z1, z2, Option.bind_some, Option.bind_some]
  dsimp only
  rw [if_pos rfl]
  rcases signed_sim (N := N) z3 (by omega) with ⟨v, a6', r6, μ6, n2, n3, n4, n5, n6, n7⟩ | ⟨v, r6, μ6, n2, n3, n4, n5, n6⟩
  rotate_left
  · rw [show sgN N t r5 = some (v, r6) from n2, n3, Option.bind_some, Option.bind_some]
    dsimp only
    rw [if_neg (by decide), Option.bind_some]
    exact dd_end hi (d54 hBd hi n4.dead) n4 (fun x hx => by rw [up_cell (by decide)]; exact hq6 x hx) (opnd_fr hA0 (hM4.trans (z5.fn.trans n6.fn)).mo)
  rw [show sgN N t r5 = some (v, r6) from n2, n3, Option.bind_some, Option.bind_some]
  dsimp only
  rw [if_pos rfl, n7, put2_ev hn64, Option.bind_some, ch54_ev hi]
  have hM6 : MFn nn (opnd d μ1) (up μ6 1 ((1024 + nn) * 9 + 2) v) := (hM4.trans (z5.fn.trans n6.fn)).trans (MFn.put (by omega))
  rcases expect_sim (c := 58) (n4.put (x := (1024 + nn) * 9 + 2) (v := v)) (by decide) with ⟨r7, μ7, u1, u2, u3, u4, u5⟩ | ⟨r7, u1, u2, u3, u4⟩
  rotate_left
  · rw [u1, u2, Option.bind_some, Option.bind_some]
    dsimp only
    rw [if_neg (by decide), Option.bind_some]
    exact dd_end hi (db0 hBd hi u3.dead) u3 (fun x hx => by rw [up_cell (by decide), up_cell (by decide)]; exact hq6 x hx) (opnd_fr hA0 hM6.mo)
  rw [u1, u2, Option.bind_some, Option.bind_some]
  dsimp only
  rw [if_pos rfl]
  have hM7 : MFn nn (opnd d μ1) μ7 := hM6.trans u5.fn
  obtain ⟨p3, hp3⟩ : ∃ p3, p3 = up (up p2 9 its (nI (c - 0))) 10 its v := ⟨_, rfl⟩
  rw [← hp3]
  have hPF : PFj its p2 p3 := by rw [hp3]; exact (PFj.up (by omega)).trans (PFj.up (by omega))
  have hb0 := bodst0 (nd := nd) (a3 := a6' + 1) hPS hd hi hnn hA0 u3 (x4.trans (y4.trans (z4.trans (n5.trans u4)))) (by rw [← hp2]; exact hPF) hM7
  have s7 : ∀ w, w < 9 → w ≠ 1 → w ≠ 2 → w ≠ 3 → w ≠ 4 → SvR μ7 nn w = SvR μ1 nn w := fun w w0 w1 w2 w3 w4 => by rw [← hsv]; exact hM7.2.2 _ (by omega)
  have s72 : SvR μ7 nn 2 = v := by show μ7 1 _ = _; rw [u5.1 1 (by decide), up_at]
  have s71 : SvR μ7 nn 1 = nI c := by show μ7 1 _ = _; rw [u5.1 1 (by decide), up_in (by omega), n6.1 1 (by decide), z5.1 1 (by decide), up_at]
  have s74 : SvR μ7 nn 4 = -1 := by
    show μ7 1 _ = _
    rw [u5.1 1 (by decide), up_in (by omega), n6.1 1 (by decide), z5.1 1 (by decide), up_in (by omega), y5.1 1 (by decide), x5.1 1 (by decide)]
    exact (hsv 4).trans f9
  rcases bod_step (N := N) hB hi (k := 0) (by omega) hb0 with ⟨r8, p8, μ8, W0, a8', be8, nc8, nd8, b8, w8, i1, i2, i3, i4, i5, i6⟩ | ⟨k8, r8, p8, μ8, i1, i2, i3⟩
  rotate_left
  · rw [i1, show Bm (nI nn) (-1) μ7 = _ from i2, Option.bind_some, Option.bind_some]
    dsimp only
    rw [if_neg (by decide), Option.bind_some]
    exact dd_bad hi (d124 hBd hi i3.1.dead) i3
  rw [i1, show Bm (nI nn) (-1) μ7 = _ from i2, Option.bind_some, Option.bind_some]
  dsimp only
  rw [if_pos rfl]
  rcases expect_sim (c := 124) i3.1.1 (by decide) with ⟨r9, μ9, e1, e2, e3, e4, e5⟩ | ⟨r9, e1, e2, e3, e4⟩
  rotate_left
  · rw [e1, e2, Option.bind_some, Option.bind_some]
    dsimp only
    rw [if_neg (by decide), Option.bind_some]
    exact dd_end hi (db1 hBd hi e3.dead) e3 i3.2.2.1.2.2 i3.2.2.2.1
  rw [e1, e2, Option.bind_some, Option.bind_some]
  dsimp only
  rw [if_pos rfl]
  have hb1 := i3.scan e3 e4 e5
  have h14 : μ7 0 14 = nI (nd8 (b8 (1 - 1)) - 1) := by
    rw [show (1 : Nat) - 1 = 0 from rfl, i4]
    exact hb0.1.2.2.2.2.1
  rw [h14]
  rcases bod_step (N := N) hB hi (k := 1) (by omega) hb1 with ⟨r10, p10, μ10, W1, a10', be10, nc10, nd10, b10, w10, j1, j2, j3, j4, j5, j6⟩ | ⟨k10, r10, p10, μ10, j1, j2, j3⟩
  rotate_left
  · rw [j1, show Bm (nI nn) (nI (nd8 (b8 (1 - 1)) - 1)) μ9 = _ from j2, Option.bind_some, Option.bind_some]
    dsimp only
    rw [if_neg (show ¬ (false = true) by decide), Option.bind_some]
    exact dd_bad hi (d93 hi j3.1.dead) j3
  rw [j1, show Bm (nI nn) (nI (nd8 (b8 (1 - 1)) - 1)) μ9 = _ from j2, Option.bind_some, Option.bind_some]
  dsimp only
  rw [if_pos rfl]
  rcases expect_sim (c := 93) j3.1.1 (by decide) with ⟨r11, μ11, e1', e2', e3', e4', e5'⟩ | ⟨r11, e1', e2', e3', e4'⟩
  rotate_left
  · rw [e1', Option.bind_some, Option.bind_some, e2', Option.bind_some]
    dsimp only
    rw [if_neg (show ¬ (false = true) by decide), Option.bind_some]
    exact dd_end (N := N) (B := B) hi (show Dd r11 p10 (some (up r11 1 its (if nI W0 < nI W1 then nI W1 else nI W0), p10)) from ⟨_, _, rfl, up_row (by decide), rfl⟩) e3' j3.2.2.1.2.2 j3.2.2.2.1
  rw [e1', Option.bind_some, Option.bind_some, e2', Option.bind_some]
  dsimp only
  rw [if_pos rfl, Option.bind_some]
  dsimp only
  have hW : W0 ≤ 24 ∧ W1 ≤ 24 := by
    have g := j3.2.1.2.2.2.1
    have g0 := (g 0 (by omega)).2.2.2.2.2.2.2.1
    have g1 := (g 1 (by omega)).2.2.2.2.2.2.2.1
    have l0 := (j3.2.1.le 1 1 rfl).1
    have l1 := (j3.2.1.le 0 2 rfl).1
    have := j3.1.2.2.1
    rw [j6 0 (by omega), i5] at g0
    rw [j5] at g1
    have g0' : W0 ≤ b10 1 - b10 0 := g0
    have g1' : W1 ≤ b10 2 - b10 1 := g1
    have l0' : b10 1 ≤ be10 := l0
    have l1' : b10 2 ≤ be10 := l1
    exact ⟨by omega, by omega⟩
  have h16 : μ11 0 16 - 1 = nI d := by
    rw [e5'.2 16 (by omega) (by omega), j3.1.2.2.2.2.2.1, show (1 : Int32) = nI 1 from rfl, pk_sub (by omega)]
    rfl
  rw [h16]
  have q7 : ∀ c, 7 ≤ c → c ≤ 13 → c ≠ 9 → c ≠ 10 → p3 c its = p1 c its := fun c c1 c2 c3 c4 => by rw [hp3, up_cell c4, up_cell c3]; exact hq c its (by omega)
  refine bod_end j3 hd hi (Or.inl ⟨by rw [q7 7 (by omega) (by omega) (by omega) (by omega)]; exact f1, rfl⟩) ((e3'.wid).hi (Or.inl rfl)) (wd := max W0 W1) ?_ (fun x hx => by rw [up_in hx, e4' 1 (by decide)]) PFj.refl ⟨fun c c0 c1 => by rw [up_row c0]; exact e5'.1 c c0, fun k k1 k2 k3 => by rw [up_in k2]; exact e5'.2 k k1 k3, fun x _ => by rw [up_cell (by decide), e5'.1 1 (by decide)]⟩ up_at ?_ ?_ ((s7 6 (by omega) (by omega) (by omega) (by omega) (by omega)).trans f11) ((s7 8 (by omega) (by omega) (by omega) (by omega) (by omega)).trans a7) (by rw [q7 13 (by omega) (by omega) (by omega) (by omega)]; exact a8)
  · rw [up_at]
    by_cases q : W0 < W1
    · rw [if_pos (nI_lt q (by omega)), Nat.max_eq_right (by omega)]
    · rw [if_neg (nI_nlt (by omega) (by omega)), Nat.max_eq_left (by omega)]
  · rw [if_pos (by rw [q7 7 (by omega) (by omega) (by omega) (by omega)]; exact f1), j6 0 (by omega), i5, j5]
  · have es : ∀ v, v < 9 → v ≠ 5 → SvR (up μ11 0 16 (nI d)) nn v = SvR μ7 nn v := fun v v1 v2 => by
      show up _ _ _ _ _ _ = _
      rw [up_cell (by decide), e5'.1 1 (by decide)]
      exact j3.2.2.2.2.2.2.2.2 v v1 v2
    have ep : ∀ c, 7 ≤ c → c ≤ 13 → p10 c its = p3 c its := j3.2.2.2.2.2.2.2.1
    refine ⟨?_, ?_, Or.inl ?_, Or.inr (Or.inr (Or.inr (Or.inr (Or.inl ⟨?_, ?_, ⟨c, by omega, ?_, ?_⟩, ?_⟩))))⟩
    · rw [es 7 (by omega) (by omega), s7 7 (by omega) (by omega) (by omega) (by omega) (by omega), ep 8 (by omega) (by omega), q7 8 (by omega) (by omega) (by omega) (by omega)]; exact f12
    · rw [es 4 (by omega) (by omega), s74, ep 12 (by omega) (by omega), q7 12 (by omega) (by omega) (by omega) (by omega), f2]
    · rw [ep 12 (by omega) (by omega), q7 12 (by omega) (by omega) (by omega) (by omega)]; exact f2
    · rw [ep 7 (by omega) (by omega), q7 7 (by omega) (by omega) (by omega) (by omega)]; exact f1
    · rw [es 0 (by omega) (by omega), s7 0 (by omega) (by omega) (by omega) (by omega) (by omega)]; exact f5
    · rw [ep 9 (by omega) (by omega), hp3, up_cell (by decide), up_at]; rfl
    · rw [es 1 (by omega) (by omega)]; exact s71
    · rw [es 2 (by omega) (by omega), s72, ep 10 (by omega) (by omega), hp3, up_at]
end PA8
