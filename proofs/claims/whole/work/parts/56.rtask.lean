/-! reading an item without bodies -/
abbrev SvR (μ : Mem) (n w : Nat) : Int32 := μ 1 ((1024 + n) * 9 + w)
def PFj (j : Nat) (p p' : Mem) : Prop := ∀ c x, ¬ (x = j ∧ (c = 9 ∨ c = 10 ∨ c = 11 ∨ c = 12)) → p' c x = p c x
def MFn (n : Nat) (μ μ' : Mem) : Prop := (∀ c, c ≠ 0 → c ≠ 1 → μ' c = μ c) ∧ (∀ k, k ≠ 12 → k ≠ 18 → μ' 0 k = μ 0 k) ∧ ∀ x, ¬ ((1024 + n) * 9 + 1 ≤ x ∧ x < (1024 + n) * 9 + 5) → μ' 1 x = μ 1 x
section PA2
variable {t r μ r' μ' p p' : Mem} {a len N j n : Nat}
theorem PFj.refl : PFj j p p := fun _ _ _ => rfl
theorem PFj.trans {p2 : Mem} (h1 : PFj j p p') (h2 : PFj j p' p2) : PFj j p p2 := fun c x h => (h2 c x h).trans (h1 c x h)
theorem PFj.up {c : Nat} {v : Int32} (hc : c = 9 ∨ c = 10 ∨ c = 11 ∨ c = 12) : PFj j p (up p c j v) := fun c' x h => up_other (by omega)
theorem MFn.refl : MFn n μ μ := ⟨fun _ _ _ => rfl, fun _ _ _ => rfl, fun _ _ => rfl⟩
theorem MFn.trans {μ2 : Mem} (h1 : MFn n μ μ') (h2 : MFn n μ' μ2) : MFn n μ μ2 := ⟨fun c a b => (h2.1 c a b).trans (h1.1 c a b), fun k a b => (h2.2.1 k a b).trans (h1.2.1 k a b), fun x a => (h2.2.2 x a).trans (h1.2.2 x a)⟩
theorem MSf.fn (h : MSf μ μ') : MFn n μ μ' := ⟨fun c a _ => h.1 c a, h.2, fun x _ => by rw [h.1 1 (by decide)]⟩
theorem MFn.put {w : Nat} {v : Int32} (hw : 1 ≤ w ∧ w < 5) : MFn n μ (up μ 1 ((1024 + n) * 9 + w) v) := ⟨fun c _ a => up_row a, fun k _ _ => up_cell (by decide), fun x h => up_in (by omega)⟩
theorem put_ev {w : Nat} {v : Int32} (hn : n < 64) (hw : w < 9) : md_put (nI n) (nI w) v μ = some (up μ 1 ((1024 + n) * 9 + w) v) := by
  unfold md_put md_part
  rw [Option.bind_some, show (64 : Int32) * 16 = nI 1024 from by decide, show (9 : Int32) = nI 9 from rfl, nI_add, pk_mul, nI_add, ck_nI (by omega) (by decide), nI_clamp (by omega)]
theorem Sc.put {x : Nat} {v : Int32} (h : Sc t r μ a len) : Sc t r (up μ 1 x v) a len := by
  obtain ⟨h1, h2, h3, h4, h5, h6, h7, h8, h9⟩ := h
  exact ⟨h1, h2, h3, by rw [up_cell (by decide)]; exact h4, by rw [up_cell (by decide)]; exact h5, h6, h7, by rw [up_cell (by decide)]; exact h8, by rw [up_row (by decide)]; exact h9⟩
theorem Bad.put {x : Nat} {v : Int32} (h : Bad r μ len) : Bad r (up μ 1 x v) len := by
  obtain ⟨h1, h2, h3, h4, h5⟩ := h
  exact ⟨h1, by rw [up_cell (by decide)]; exact h2, by rw [up_cell (by decide)]; exact h3, h4, by rw [up_cell (by decide)]; exact h5⟩
/-- an item that has been read: as it is on both sides, or both have found the text wrong -/
def IOut (t r μ p : Mem) (len j n : Nat) (X : Option (Mem × Mem)) (M : Option (Bool × Mem)) : Prop :=
  (∃ r' p' μ' a', X = some (r', p') ∧ M = some (true, μ') ∧ Sc t r' μ' a' len ∧ RSf r r' ∧ PFj j p p' ∧ MFn n μ μ' ∧ SI p' (fun _ => n) (SvR μ') j) ∨
  (∃ r' p' μ', X = some (r', p') ∧ M = some (false, μ') ∧ Bad r' μ' len ∧ RSf r r' ∧ PFj j p p' ∧ MFn n μ μ')
theorem task_tail (h : Sc t r μ a len) (hj : j < 24) (hn : n < 64) (h12 : p 12 j = -1) (h4 : SvR μ n 4 = -1) :
    (∃ r' p' μ' a', re_readTask_61 N t (nI j) r p = some (r', p') ∧ md_readsTask_102 N (nI n) μ = some (true, μ') ∧ Sc t r' μ' a' len ∧ RSf r r' ∧ PFj j p p' ∧ MFn n μ μ' ∧ p' 9 j = p 9 j ∧ p' 10 j = p 10 j ∧ p' 11 j = p 11 j ∧ (∀ w, w ≠ 4 → w < 9 → SvR μ' n w = SvR μ n w) ∧ SvR μ' n 4 = p' 12 j ∧ (p' 12 j = -1 ∨ ∃ c : Nat, c < 8 ∧ p' 12 j = nI c)) ∨
    (∃ r' p' μ', re_readTask_61 N t (nI j) r p = some (r', p') ∧ md_readsTask_102 N (nI n) μ = some (false, μ') ∧ Bad r' μ' len ∧ RSf r r' ∧ PFj j p p' ∧ MFn n μ μ') := by
  unfold re_readTask_61 md_readsTask_102
  rcases takes_sim (c := 99) h (by decide) with ⟨q, r1, μ1, x1, x2, x3, x4, x5⟩ | ⟨q, x1, x2⟩
  · rw [x1, x2, Option.bind_some, Option.bind_some]
    dsimp only
    rw [if_pos rfl, if_pos rfl]
    rcases code_sim x3 with ⟨c, r2, μ2, y0, y1, y2, y3, y4, y5, y6⟩ | ⟨r2, y1, y2, y3, y4⟩
    · refine Or.inl ⟨r2, up p 12 j (nI c), up μ2 1 ((1024 + n) * 9 + 4) (nI c), a + 1 + 1, ?_, ?_, y3.put, x4.trans y4, PFj.up (by omega), (x5.fn.trans y5.fn).trans (MFn.put (by omega)), up_other (by omega), up_other (by omega), up_other (by omega), fun w w1 w2 => ?_, by rw [up_at]; exact up_at, Or.inr ⟨c, y0, up_at⟩⟩
      · rw [y1, Option.bind_some]
        dsimp only
        rw [ck_nI hj (by decide), nI_clamp (by omega)]
      · rw [y2, Option.bind_some]
        dsimp only
        rw [if_pos rfl, y6, show (4 : Int32) = nI 4 from rfl, put_ev hn (by omega), Option.bind_some]
      · show up _ _ _ _ _ _ = _
        rw [up_in (by omega), y5.1 1 (by decide), x5.1 1 (by decide)]
    · refine Or.inr ⟨r2, up p 12 j 0, μ1, ?_, ?_, y3, x4.trans y4, PFj.up (by omega), x5.fn⟩
      · rw [y1, Option.bind_some]
        dsimp only
        rw [ck_nI hj (by decide), nI_clamp (by omega)]
      · rw [y2, Option.bind_some]
        dsimp only
        rw [if_neg (by decide)]
  · rw [x1, x2, Option.bind_some, Option.bind_some]
    dsimp only
    rw [if_neg (by decide), if_neg (by decide)]
    exact Or.inl ⟨r, p, μ, a, rfl, rfl, h, RSf.refl, PFj.refl, MFn.refl, rfl, rfl, rfl, fun _ _ _ => rfl, by rw [h12]; exact h4, Or.inl h12⟩
theorem tail_dead (h : r 0 4 ≠ 0) : re_readTask_61 N t (nI j) r p = some (r, p) := by
  unfold re_readTask_61
  rw [takes_dead h, Option.bind_some]
  dsimp only
  rw [if_neg (by decide)]
/-- what makes and add have laid -/
def Fresh (p μ : Mem) (j n : Nat) (k : Int32) (kM : Int32) : Prop := p 7 j = k ∧ p 12 j = -1 ∧ p 11 j = 0 ∧ p 10 j = (if k = 2 then -1 else 0) ∧ SvR μ n 0 = kM ∧ SvR μ n 1 = -1 ∧ SvR μ n 2 = -1 ∧ SvR μ n 3 = -1 ∧ SvR μ n 4 = -1 ∧ SvR μ n 5 = -1 ∧ SvR μ n 6 = -1 ∧ SvR μ n 7 = p 8 j
theorem task_out {a0 : Nat} (hN : 5 ≤ N) (h : Sc t r (up μ 0 12 (μ 0 12 + 1)) a len) (hj : j < 24) (hn : n < 64) (hf : Fresh p μ j n 0 1) : IOut t r μ p len j n (re_readTask N t (nI j) r p) (md_readsTask N (nI n) μ) := by
  obtain ⟨f1, f2, f3, f4, f5, f6, f7, f8, f9, f10, f11, f12⟩ := hf
  have hmf : MFn n μ (up μ 0 12 (μ 0 12 + 1)) := ⟨fun c c0 _ => up_row c0, fun k k1 _ => up_in k1, fun x _ => by rw [up_cell (by decide)]⟩
  have esv : ∀ w, SvR (up μ 0 12 (μ 0 12 + 1)) n w = SvR μ n w := fun w => up_cell (by decide)
  unfold re_readTask md_readsTask
  rcases code_sim h with ⟨c, r1, μ1, y0, y1, y2, y3, y4, y5, y6⟩ | ⟨r1, y1, y2, y3, y4⟩
  · rw [y1, y2, Option.bind_some, Option.bind_some]
    dsimp only
    rw [if_pos rfl, ck_nI hj (by decide), nI_clamp (by omega), y6, show (1 : Int32) = nI 1 from rfl, put_ev hn (by omega), Option.bind_some, show (2 : Int32) = nI 2 from rfl, put_ev hn (by omega), Option.bind_some, show (3 : Int32) = nI 3 from rfl, put_ev hn (by omega), Option.bind_some]
    -- the state behind the code
    have hS : Sc t r1 (up (up (up μ1 1 ((1024 + n) * 9 + 1) (nI c)) 1 ((1024 + n) * 9 + 2) 0) 1 ((1024 + n) * 9 + 3) 0) (a + 1) len := ((y3.put).put).put
    have hM1 : MFn n μ (up (up (up μ1 1 ((1024 + n) * 9 + 1) (nI c)) 1 ((1024 + n) * 9 + 2) 0) 1 ((1024 + n) * 9 + 3) 0) := (hmf.trans y5.fn).trans ((MFn.put (by omega)).trans ((MFn.put (by omega)).trans (MFn.put (by omega))))
    have s0 : ∀ w, w ≠ 1 → w ≠ 2 → w ≠ 3 → SvR (up (up (up μ1 1 ((1024 + n) * 9 + 1) (nI c)) 1 ((1024 + n) * 9 + 2) 0) 1 ((1024 + n) * 9 + 3) 0) n w = SvR μ n w := fun w w1 w2 w3 => by
      show up _ _ _ _ _ _ = _
      rw [up_in (by omega), up_in (by omega), up_in (by omega), y5.1 1 (by decide)]
      exact esv w
    have s1 : SvR (up (up (up μ1 1 ((1024 + n) * 9 + 1) (nI c)) 1 ((1024 + n) * 9 + 2) 0) 1 ((1024 + n) * 9 + 3) 0) n 1 = nI c := by show up _ _ _ _ _ _ = _; rw [up_in (by omega), up_in (by omega), up_at]
    have s2 : SvR (up (up (up μ1 1 ((1024 + n) * 9 + 1) (nI c)) 1 ((1024 + n) * 9 + 2) 0) 1 ((1024 + n) * 9 + 3) 0) n 2 = 0 := by show up _ _ _ _ _ _ = _; rw [up_in (by omega), up_at]
    have s3 : SvR (up (up (up μ1 1 ((1024 + n) * 9 + 1) (nI c)) 1 ((1024 + n) * 9 + 2) 0) 1 ((1024 + n) * 9 + 3) 0) n 3 = 0 := up_at
    generalize hg : up (up (up μ1 1 ((1024 + n) * 9 + 1) (nI c)) 1 ((1024 + n) * 9 + 2) 0) 1 ((1024 + n) * 9 + 3) 0 = μA at hS hM1 s0 s1 s2 s3 ⊢
    -- how it ends, once all but the code of the compensation is known
    have fin : ∀ (r2 p2 μ2 : Mem) (a2 g am : Nat), Sc t r2 μ2 a2 len → RSf r r2 → PFj j p p2 → MFn n μ μ2 → p2 9 j = nI c → p2 11 j = nI g → g ≤ 9 → p2 10 j = nI am → am ≤ 999 → p2 12 j = -1 → SvR μ2 n 1 = nI c → SvR μ2 n 2 = nI g → SvR μ2 n 3 = nI am → SvR μ2 n 4 = -1 → SvR μ2 n 0 = 1 → SvR μ2 n 7 = p 8 j →
        IOut t r μ p len j n (re_readTask_61 N t (nI j) r2 p2) (md_readsTask_102 N (nI n) μ2) := by
      intro r2 p2 μ2 a2 g am k1 k2 k3 k4 k5 k6 k7 k8 k9 k10 k11 k12 k13 k14 k15 k16
      rcases task_tail (N := N) k1 hj hn k10 k14 with ⟨r3, p3, μ3, a3, z1, z2, z3, z4, z5, z6, z7, z8, z9, z10, z11, z12⟩ | ⟨r3, p3, μ3, z1, z2, z3, z4, z5, z6⟩
      · refine Or.inl ⟨r3, p3, μ3, a3, z1, z2, z3, k2.trans z4, k3.trans z5, k4.trans z6, ?_, z11, z12, Or.inl ⟨?_, ?_, ⟨c, y0, ?_, ?_⟩, ⟨g, k7, ?_, ?_⟩, ⟨am, k9, ?_, ?_⟩⟩⟩
        · show SvR μ3 n 7 = _
          rw [z10 7 (by omega) (by omega), k16, (k3.trans z5) 8 j (by omega)]
        · rw [(k3.trans z5) 7 j (by omega)]; exact f1
        · show SvR μ3 n 0 = _
          rw [z10 0 (by omega) (by omega)]; exact k15
        · rw [z7]; exact k5
        · show SvR μ3 n 1 = _
          rw [z10 1 (by omega) (by omega)]; exact k11
        · rw [z9]; exact k6
        · show SvR μ3 n 2 = _
          rw [z10 2 (by omega) (by omega)]; exact k12
        · rw [z8]; exact k8
        · show SvR μ3 n 3 = _
          rw [z10 3 (by omega) (by omega)]; exact k13
      · exact Or.inr ⟨r3, p3, μ3, z1, z2, z3, k2.trans z4, k3.trans z5, k4.trans z6⟩
    rcases takes_sim (c := 114) hS (by decide) with ⟨q, r2, μ2, v1, v2, v3, v4, v5⟩ | ⟨q, v1, v2⟩
    · rw [v1, v2, Option.bind_some, Option.bind_some]
      dsimp only
      rw [if_pos rfl, if_pos rfl]
      have e2 : ∀ w, SvR μ2 n w = SvR μA n w := fun w => by show μ2 1 _ = _; rw [v5.1 1 (by decide)]
      rcases digit_sim (lo := 0) (hi := 9) v3 (by omega) (by omega) with ⟨g, r3, μ3, g1, g2, g3, g4, g5, g6, g7, g8⟩ | ⟨r3, g3, g4, g5, g6⟩
      · have g3' : re_readBetween t 48 57 r2 = some (nI (g - 0), r3) := g3
        have g4' : md_takesDigit 0 (nI 9) μ2 = some (true, μ3) := g4
        rw [g3', show (0 : Int32) = nI 0 from rfl, show (9 : Int32) = nI 9 from rfl, g4, Option.bind_some, Option.bind_some]
        dsimp only
        rw [if_pos rfl, g8, put_ev hn (by omega), Option.bind_some, ck_nI hj (by decide)]
        have e3 : ∀ w, SvR μ3 n w = SvR μA n w := fun w => by show μ3 1 _ = _; rw [g7.1 1 (by decide)]; exact e2 w
        have hM3 : MFn n μ (up μ3 1 ((1024 + n) * 9 + 2) (nI g)) := (hM1.trans (v5.fn.trans g7.fn)).trans (MFn.put (by omega))
        rcases takes_sim (c := 43) (g5.put (x := (1024 + n) * 9 + 2) (v := nI g)) (by decide) with ⟨q2, r4, μ4, u1, u2, u3, u4, u5⟩ | ⟨q2, u1, u2⟩
        · rw [u1, u2, Option.bind_some, Option.bind_some]
          dsimp only
          rw [if_pos rfl, if_pos rfl]
          have e4 : ∀ w, SvR μ4 n w = SvR (up μ3 1 ((1024 + n) * 9 + 2) (nI g)) n w := fun w => by show μ4 1 _ = _; rw [u5.1 1 (by decide)]
          rcases number_sim (N := N) u3 hN with ⟨am, a5, r5, μ5, n1, n2, n3, n4, n5, n6, n7⟩ | ⟨r5, n2, n3, n4, n5⟩
          · rw [n2, n3, Option.bind_some, Option.bind_some]
            dsimp only
            rw [if_pos rfl, n7, put_ev hn (by omega), Option.bind_some, ck_nI hj (by decide)]
            have e5 : ∀ w, w ≠ 2 → SvR μ5 n w = SvR μA n w := fun w hw => by
              show μ5 1 _ = _
              rw [n6.1 1 (by decide)]
              refine (e4 w).trans ?_
              show up _ _ _ _ _ _ = _
              rw [up_in (by omega)]; exact e3 w
            have e52 : SvR μ5 n 2 = nI g := by
              show μ5 1 _ = _
              rw [n6.1 1 (by decide)]
              exact (e4 2).trans up_at
            refine fin r5 _ _ a5 g am n4.put (y4.trans (v4.trans (g6.trans (u4.trans n5)))) ((PFj.up (by omega)).trans ((PFj.up (by omega)).trans (PFj.up (by omega)))) (hM3.trans (u5.fn.trans (n6.fn.trans (MFn.put (by omega))))) ?_ ?_ g2 ?_ n1 ?_ ?_ ?_ ?_ ?_ ?_ ?_
            · rw [up_other (by omega), up_other (by omega), up_at]
            · rw [up_other (by omega), up_at]; rfl
            · rw [up_at]
            · rw [up_other (by omega), up_other (by omega), up_other (by omega)]; exact f2
            · show up _ _ _ _ _ _ = _
              rw [up_in (by omega)]; exact (e5 1 (by omega)).trans s1
            · show up _ _ _ _ _ _ = _
              rw [up_in (by omega)]; exact e52
            · exact up_at
            · show up _ _ _ _ _ _ = _
              rw [up_in (by omega)]; exact (e5 4 (by omega)).trans ((s0 4 (by omega) (by omega) (by omega)).trans f9)
            · show up _ _ _ _ _ _ = _
              rw [up_in (by omega)]; exact (e5 0 (by omega)).trans ((s0 0 (by omega) (by omega) (by omega)).trans f5)
            · show up _ _ _ _ _ _ = _
              rw [up_in (by omega)]; exact (e5 7 (by omega)).trans ((s0 7 (by omega) (by omega) (by omega)).trans f12)
          · rw [n2, n3, Option.bind_some, Option.bind_some]
            dsimp only
            rw [if_neg (by decide), ck_nI hj (by decide), tail_dead n4.dead]
            exact Or.inr ⟨r5, _, μ4, rfl, rfl, n4, y4.trans (v4.trans (g6.trans (u4.trans n5))), (PFj.up (by omega)).trans ((PFj.up (by omega)).trans (PFj.up (by omega))), hM3.trans u5.fn⟩
        · rw [u1, u2, Option.bind_some, Option.bind_some]
          dsimp only
          rw [if_neg (by decide), if_neg (by decide)]
          refine fin r3 _ _ (a + 1 + 1 + 1) g 0 g5.put (y4.trans (v4.trans g6)) ((PFj.up (by omega)).trans (PFj.up (by omega))) hM3 ?_ ?_ g2 ?_ (by omega) ?_ ?_ ?_ ?_ ?_ ?_ ?_
          · rw [up_other (by omega), up_at]
          · rw [up_at]; rfl
          · rw [up_other (by omega), up_other (by omega), f4]; rfl
          · rw [up_other (by omega), up_other (by omega)]; exact f2
          · show up _ _ _ _ _ _ = _
            rw [up_in (by omega)]; exact (e3 1).trans s1
          · exact up_at
          · show up _ _ _ _ _ _ = _
            rw [up_in (by omega)]; exact (e3 3).trans s3
          · show up _ _ _ _ _ _ = _
            rw [up_in (by omega)]; exact (e3 4).trans ((s0 4 (by omega) (by omega) (by omega)).trans f9)
          · show up _ _ _ _ _ _ = _
            rw [up_in (by omega)]; exact (e3 0).trans ((s0 0 (by omega) (by omega) (by omega)).trans f5)
          · show up _ _ _ _ _ _ = _
            rw [up_in (by omega)]; exact (e3 7).trans ((s0 7 (by omega) (by omega) (by omega)).trans f12)
      · have g3' : re_readBetween t 48 57 r2 = some (0, r3) := g3
        rw [g3', show (0 : Int32) = nI 0 from rfl, show (9 : Int32) = nI 9 from rfl, g4, Option.bind_some, Option.bind_some]
        dsimp only
        rw [if_neg (by decide), ck_nI hj (by decide), takes_dead g5.dead, Option.bind_some]
        dsimp only
        rw [if_neg (by decide), tail_dead g5.dead]
        exact Or.inr ⟨r3, _, μ2, rfl, rfl, g5, y4.trans (v4.trans g6), (PFj.up (by omega)).trans (PFj.up (by omega)), hM1.trans v5.fn⟩
    · rw [v1, v2, Option.bind_some, Option.bind_some]
      dsimp only
      rw [if_neg (by decide), if_neg (by decide)]
      refine fin r1 _ _ (a + 1) 0 0 hS y4 (PFj.up (by omega)) hM1 up_at ?_ (by omega) ?_ (by omega) ?_ s1 s2 s3 ((s0 4 (by omega) (by omega) (by omega)).trans f9) ((s0 0 (by omega) (by omega) (by omega)).trans f5) ((s0 7 (by omega) (by omega) (by omega)).trans f12)
      · rw [up_other (by omega)]; exact f3
      · rw [up_other (by omega), f4]; rfl
      · rw [up_other (by omega)]; exact f2
  · rw [y1, y2, Option.bind_some, Option.bind_some]
    dsimp only
    rw [if_neg (by decide), ck_nI hj (by decide), takes_dead y3.dead, Option.bind_some]
    dsimp only
    rw [if_neg (by decide), tail_dead y3.dead]
    exact Or.inr ⟨r1, _, _, rfl, rfl, y3, y4, by rw [nI_clamp (by omega)]; exact PFj.up (by omega), hmf⟩
end PA2
