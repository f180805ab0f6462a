/-! define, on both sides -/
section PB5
variable {μ p : Mem} {N D V : Nat}
theorem rx_nI {n a : Nat} (h : a < n) (hn : n < 2 ^ 31) : rx n (nI a) = some a := by
  unfold rx
  rw [nI_toInt (by omega), nI_clamp (by omega), if_pos (by omega)]
theorem md_part_0 (V : Nat) : md_part (nI V) 0 0 = some (nI (576 * V)) := by
  unfold md_part
  rw [show (64 : Int32) = nI 64 from rfl, show (9 : Int32) = nI 9 from rfl, show (0 : Int32) = nI 0 from rfl, pk_mul, nI_add, pk_mul, nI_add]
  congr 2; omega
/-- a version on both sides -/
def VerR (p μ : Mem) (V : Nat) (nd : Nat → Nat) (sv : Nat → Nat → Int32) (its : Nat) : Prop :=
  ST p nd sv its ∧ (∀ f, its ≤ f → Ch p nd sv f 0 0 0 its) ∧ (∀ n, n < 64 → ∀ w, w < 9 → μ 1 ((64 * V + n) * 9 + w) = sv n w) ∧ μ 3 (4 * V) = sv 64 0 ∧ p 6 11 = nI its ∧ μ 3 (4 * V + 1) = p 6 11 ∧ μ 3 (4 * V + 2) = p 6 13 ∧ μ 3 (4 * V + 3) = p 6 14 ∧ p 6 12 = nI (sm its (fun x => if p 7 x = 0 then 1 else 0)) ∧ ∃ W : Nat, W ≤ its ∧ p 6 15 = nI W ∧ ∀ f, its ≤ f → WC p f 0 its = W
/-- what keeps when a text is read -/
def DFr (V : Nat) (μ μ' : Mem) : Prop := (∀ c, c ≠ 0 → c ≠ 1 → c ≠ 3 → c ≠ 5 → μ' c = μ c) ∧ (∀ k, ¬ (9 ≤ k ∧ k ≤ 18) → μ' 0 k = μ 0 k) ∧ (∀ x, x < 9216 → ¬ (576 * V ≤ x ∧ x < 576 * V + 576) → μ' 1 x = μ 1 x) ∧ ∀ x, ¬ (4 * V ≤ x ∧ x < 4 * V + 4) → μ' 3 x = μ 3 x
theorem end149 {wf v L : Nat} {y4 : Int32} {n : Nat} (hwf : wf < 4) (hv : v < 4) (h5 : μ 5 (17 + wf) = nI v) : md_define_149 N D (n + 1) (nI wf) (nI L) y4 (nI (4 * wf + v)) (nI 576) μ = some (y4, up (up (up (up (up μ 3 (4 * (4 * wf + v)) (μ 0 14)) 3 (4 * (4 * wf + v) + 1) (μ 0 15)) 3 (4 * (4 * wf + v) + 2) (μ 0 17)) 3 (4 * (4 * wf + v) + 3) (nI L)) 5 (17 + wf) (nI (v + 1))) := by
  unfold md_define_149
  have e4 : (4 : Int32) * nI (4 * wf + v) = nI (4 * (4 * wf + v)) := by rw [show (4 : Int32) = nI 4 from rfl, pk_mul]
  have e1 : nI (4 * (4 * wf + v)) + 1 = nI (4 * (4 * wf + v) + 1) := nI_1 _
  have e2 : nI (4 * (4 * wf + v)) + 2 = nI (4 * (4 * wf + v) + 2) := by rw [show (2 : Int32) = nI 2 from rfl, nI_add]
  have e3 : nI (4 * (4 * wf + v)) + 3 = nI (4 * (4 * wf + v) + 3) := by rw [show (3 : Int32) = nI 3 from rfl, nI_add]
  rw [if_neg (show ¬ nI 576 < 576 by decide), e4, e1, e2, e3, ck_nI (by omega) (by decide), ck_nI (by omega) (by decide), ck_nI (by omega) (by decide), ck_nI (by omega) (by decide), add17_nI, rd_nI (by omega) (by decide), Option.bind_some, ck_nI (by omega) (by decide), h5, nI_1, nI_clamp (by omega), nI_clamp (by omega), nI_clamp (by omega), nI_clamp (by omega), nI_clamp (by omega)]
theorem define_sim {wf v len tx tg : Nat} {x r w : Mem} {vs : Fam} (hN : 700 ≤ N) (hD : 5 ≤ D) (hwf : wf < 4) (hw : w 5 wf = nI v) (hm : μ 5 (17 + wf) = nI v) (hv : v < 4) (hx : x 0 6 = nI len) (hl : len ≤ 80) (h9 : μ 0 9 = nI len) (ht : ∀ k, k < 80 → μ 8 k = x 1 k ∧ ∃ b : Nat, b < 128 ∧ x 1 k = nI b) :
    (∃ (r' p' μ' : Mem) (nd : Nat → Nat) (sv : Nat → Nat → Int32) (its a : Nat), xe_define N D (nI wf) x tx tg r w vs = some (nI v, up x 0 6 0, 1, 4 * wf + v + 1, r', up (up (up w 0 3 0) 0 4 (nI a)) 5 wf (nI (v + 1)), upF vs (4 * wf + v) p') ∧ md_define N D (nI wf) μ = some (nI v, μ') ∧ VerR p' μ' (4 * wf + v) nd sv its ∧ (∀ k, k < 11 → p' 6 k = vs (4 * wf + v) 6 k) ∧ μ' 5 (17 + wf) = nI (v + 1) ∧ (∀ k, k ≠ 17 + wf → μ' 5 k = μ 5 k) ∧ μ' 0 9 = 0 ∧ μ' 0 10 = -1 ∧ DFr (4 * wf + v) μ μ') ∨
    (∃ (c : Int32) (r' p' μ' : Mem) (a : Nat), xe_define N D (nI wf) x tx tg r w vs = some (-100 - nI a, up x 0 6 0, 1, 4 * wf + v + 1, r', up (up w 0 3 c) 0 4 (nI a), upF vs (4 * wf + v) p') ∧ md_define N D (nI wf) μ = some (-100 - nI a, μ') ∧ (c = 1 ∨ c = 2) ∧ a ≤ 80 ∧ (∀ k, k < 11 → p' 6 k = vs (4 * wf + v) 6 k) ∧ μ' 5 = μ 5 ∧ μ' 0 9 = 0 ∧ μ' 0 10 = nI a ∧ μ' 0 11 = c ∧ DFr (4 * wf + v) μ μ') := by
  have hV : 4 * wf + v < 16 := by omega
  obtain ⟨c, r', p', μ1, b, a, e1, e2, e3, e4, e5, e6, e7, e8, e9, e10, e11⟩ := text_sim (t := fun _ => x 1) (r := r) (p := vs (4 * wf + v)) (μ := μ) (N := N) (D := D) (by omega) hD hl h9 ht
  have hX : ∀ K : Option (Int32 × Mem × Nat × Nat × Mem × Mem × Fam), (if c = 0 then (ck 4 (nI wf) <| some (nI v, up x 0 6 0, 1, (4 * wf + v + 1), r', up (up (up w 0 3 c) 0 4 (r' 0 5)) 5 (nI wf).toNatClampNeg (nI v + 1), upF vs (4 * wf + v) p')) else some (((-100)) - (r' 0 5), up x 0 6 0, 1, (4 * wf + v + 1), r', up (up w 0 3 c) 0 4 (r' 0 5), upF vs (4 * wf + v) p')) = K → xe_define N D (nI wf) x tx tg r w vs = K := fun K hK => by
    unfold xe_define
    rw [ins4 hwf, Option.bind_some, if_pos rfl, rd_nI (by omega) (by decide), Option.bind_some, hw, ins4 hv, Option.bind_some, if_pos rfl, show (4 : Int32) = nI 4 from rfl, pk_mul, nI_add, show wf * 4 + v = 4 * wf + v by omega, rx_nI hV (by decide), Option.bind_some, hx, e1, Option.bind_some]
    exact hK
  have hM : ∀ K, (if b = true then (if μ1 0 12 = μ1 0 9 then md_define_80 N D (nI wf) 1 μ1 else md_define_80 N D (nI wf) 0 μ1) else md_define_80 N D (nI wf) 0 μ1) = K → md_define N D (nI wf) μ = K := fun K hK => by
    unfold md_define md_isWorkflow
    rw [show (0 : Int32) = nI 0 from rfl, show (3 : Int32) = nI 3 from rfl, isIn_nI (Nat.zero_le _) (by omega) (by decide), Option.bind_some, Option.bind_some, if_pos rfl, add17_nI, rd_nI (by omega) (by decide), Option.bind_some, hm, if_neg (show ¬ nI v = 4 from fun q => by have := nI_inj (a := v) (b := 4) (by omega) (by decide) q; omega)]
    show ((md_readsBody N (kn_mread N D) (-1) (-1) (up (up (up (up (up (up μ 0 12 0) 0 13 1) 0 14 0) 0 15 0) 0 16 0) 0 17 0)).bind _) = _
    rw [e2, Option.bind_some]
    exact hK
  rcases e11 with ⟨c1, c2, c3, its, nn, W, nd, hT⟩ | ⟨c1, c2, c3⟩
  · subst c1; subst c2
    obtain ⟨t1, t2, t3⟩ := hT.st
    obtain ⟨h1, h2, h3, h4, h5, h6, h7, h8, h9', h10, h11, h12, h13, h14, ⟨dp, d1, d2, d3⟩, h16, h17, h18, h19, h20⟩ := hT
    obtain ⟨μ2, hμ2⟩ : ∃ μ2, μ2 = up (up (up μ1 0 9 0) 0 10 (-1)) 0 11 (μ1 0 13) := ⟨_, rfl⟩
    have m2c : ∀ c, c ≠ 0 → μ2 c = μ1 c := fun c hc => by rw [hμ2, up_row hc, up_row hc, up_row hc]
    have m2k : ∀ k, k ≠ 9 → k ≠ 10 → k ≠ 11 → μ2 0 k = μ1 0 k := fun k k1 k2 k3 => by rw [hμ2, up_in k3, up_in k2, up_in k1]
    obtain ⟨μc, n', y1, y2, y3, y4⟩ := copy_loop (N := N) (D := D) (y1 := nI wf) (y3 := nI len) (y4 := nI v) hV 576 0 N μ2 (by omega) (by omega)
    have hc5 : μc 5 (17 + wf) = nI v := by rw [y2 5 (by decide), m2c 5 (by decide), e8 5 (by decide) (by decide)]; exact hm
    have y5 := end149 (N := N) (D := D) (L := len) (y4 := nI v) (n := n') hwf hv hc5
    refine Or.inl ⟨r', p', up (up (up (up (up μc 3 (4 * (4 * wf + v)) (μc 0 14)) 3 (4 * (4 * wf + v) + 1) (μc 0 15)) 3 (4 * (4 * wf + v) + 2) (μc 0 17)) 3 (4 * (4 * wf + v) + 3) (nI len)) 5 (17 + wf) (nI (v + 1)), nd, svT μ1 nn, its, a, hX _ ?_, hM _ ?_, ⟨t1, t2, fun n hn q hq => ?_, ?_, h13, ?_, ?_, ?_, h14, W, h12, h17, fun f hf => (h11 f hf).2⟩, e7, up_at, fun k hk => ?_, ?_, ?_, ⟨fun c c0 c1 c3 c5 => ?_, fun k hk => ?_, fun z z1 z2 => ?_, fun z hz => ?_⟩⟩
    · rw [if_pos rfl, ck_nI (N := 4) hwf (by decide), nI_clamp (by omega), nI_1, e3]
    · rw [if_pos rfl, if_pos c3]
      unfold md_define_80
      rw [if_neg (show ¬ (1 : Int32) = 0 by decide)]
      unfold md_define_104
      rw [if_neg (show ¬ (1 : Int32) = 0 by decide), add17_nI, rd_nI (by omega) (by decide), Option.bind_some, show up μ1 0 9 0 5 (17 + wf) = nI v from by rw [up_cell (by decide), e8 5 (by decide) (by decide)]; exact hm, show (4 : Int32) = nI 4 from rfl, pk_mul, nI_add, e6, up_in (show (13 : Nat) ≠ 9 by decide), ← hμ2]
      exact y1.trans y5
    · rw [up_cell (by decide), up_cell (by decide), up_cell (by decide), up_cell (by decide), up_cell (by decide), show (64 * (4 * wf + v) + n) * 9 + q = 576 * (4 * wf + v) + (9 * n + q) by omega, y3 _ (by omega) (by omega), m2c 1 (by decide)]
      unfold svT
      rw [if_neg (by omega)]
      show μ1 1 _ = μ1 1 _
      rw [show 9216 + (9 * n + q) = (1024 + n) * 9 + q by omega]
    · rw [up_cell (by decide), up_in (by omega), up_in (by omega), up_in (by omega), up_at, y2 0 (by decide), m2k 14 (by omega) (by omega) (by omega), h19]
      exact (if_pos rfl).symm
    · rw [up_cell (by decide), up_in (by omega), up_in (by omega), up_at, y2 0 (by decide), m2k 15 (by omega) (by omega) (by omega), h20, h13]
    · rw [up_cell (by decide), up_in (by omega), up_at, y2 0 (by decide), m2k 17 (by omega) (by omega) (by omega), d3, d2]
    · rw [up_cell (by decide), up_at, h16]
    · rw [up_in hk, up_cell (by decide), up_cell (by decide), up_cell (by decide), up_cell (by decide), y2 5 (by decide), m2c 5 (by decide), e8 5 (by decide) (by decide)]
    · rw [up_cell (by decide), up_cell (by decide), up_cell (by decide), up_cell (by decide), up_cell (by decide), y2 0 (by decide), hμ2, up_in (by omega), up_in (by omega), up_at]
    · rw [up_cell (by decide), up_cell (by decide), up_cell (by decide), up_cell (by decide), up_cell (by decide), y2 0 (by decide), hμ2, up_in (by omega), up_at]
    · rw [up_row c5, up_row c3, up_row c3, up_row c3, up_row c3, y2 c c1, m2c c c0, e8 c c0 c1]
    · rw [up_cell (by decide), up_cell (by decide), up_cell (by decide), up_cell (by decide), up_cell (by decide), y2 0 (by decide), m2k k (by omega) (by omega) (by omega), e9 k (by omega)]
    · rw [up_cell (by decide), up_cell (by decide), up_cell (by decide), up_cell (by decide), up_cell (by decide), y4 z (by omega), m2c 1 (by decide), e10 z z1]
    · rw [up_cell (by decide), up_in (by omega), up_in (by omega), up_in (by omega), up_in (by omega), y2 3 (by decide), m2c 3 (by decide), e8 3 (by decide) (by decide)]
  · have hc0 : ¬ c = 0 := by rcases c1 with z | z <;> rw [z] <;> decide
    refine Or.inr ⟨c, r', p', up (up (up μ1 0 9 0) 0 10 (nI a)) 0 11 c, a, hX _ ?_, hM _ ?_, c1, e4, e7, ?_, ?_, ?_, up_at, ⟨fun k k0 k1 k3 k5 => ?_, fun k hk => ?_, fun z z1 z2 => ?_, fun z hz => ?_⟩⟩
    · rw [if_neg hc0, e3]
    · have h80 : md_define_80 N D (nI wf) 0 μ1 = some (-100 - nI a, up (up (up μ1 0 9 0) 0 10 (nI a)) 0 11 c) := by
        unfold md_define_80
        rw [if_pos rfl]
        unfold md_define_104
        rw [if_pos rfl, up_in (show (12 : Nat) ≠ 9 by decide), up_in (show (13 : Nat) ≠ 9 by decide), e5, c2]
      by_cases q : b = true
      · rw [if_pos q, if_neg (c3 q)]; exact h80
      · rw [if_neg q]; exact h80
    · rw [up_row (by decide), up_row (by decide), up_row (by decide), e8 5 (by decide) (by decide)]
    · rw [up_in (by omega), up_in (by omega), up_at]
    · rw [up_in (by omega), up_at]
    · rw [up_row k0, up_row k0, up_row k0, e8 k k0 k1]
    · rw [up_in (by omega), up_in (by omega), up_in (by omega), e9 k (by omega)]
    · rw [up_cell (by decide), up_cell (by decide), up_cell (by decide), e10 z z1]
    · rw [up_cell (by decide), up_cell (by decide), up_cell (by decide), e8 3 (by decide) (by decide)]
end PB5
