/-! the bodies of an item, read so far -/
def BIv (p : Mem) (nd : Nat → Nat) (sv : Nat → Nat → Int32) (d j nn k be nc : Nat) (b w : Nat → Nat) : Prop :=
  b 0 = j + 1 ∧ b k = be ∧ nd j = nn ∧
  (∀ i, i < k → b i < b (i + 1) ∧ p 15 (4 * j + i) = nI (b i) ∧ nd (b i) = nd (b i - 1) + 2 ∧ sv (nd (b i) - 1) 0 = 0 ∧ sv (nd (b i) - 1) 5 = nI (nd (b i)) ∧ sv (nd (b i) - 1) 6 = (if i + 1 < k then nI (nd (b (i + 1)) - 1) else -1) ∧ sv (nd (b i) - 1) 8 = nI nn ∧ w i ≤ b (i + 1) - b i ∧
    ∀ f, b (i + 1) ≤ b i + f → Ch p nd sv f (d + 1) (nd (b i) - 1) (b i) (b (i + 1)) ∧ WC p f (b i) (b (i + 1)) = w i) ∧
  (∀ i, k ≤ i → i < 4 → p 15 (4 * j + i) = -1) ∧ NR nd sv j be nn nc ∧ (∀ x, j < x → x < be → SI p nd sv x) ∧ (1 ≤ k → sv nn 5 = nI (nd (j + 1) - 1))
/-- the cell that a new body is linked from -/
def lkC (nn k : Nat) (pb : Nat) : Nat := if k = 0 then (1024 + nn) * 9 + 5 else (1024 + pb) * 9 + 6
section PA6
variable {p p' μ μ' μl : Mem} {nd nd' b w : Nat → Nat} {d j nn k be nc be' nc' W : Nat}
theorem BIv.le (h : BIv p nd (SvR μ) d j nn k be nc b w) : ∀ (s i : Nat), i + s = k → b i ≤ be ∧ (s ≠ 0 → b i < be)
  | 0, i, hi => by
    rw [show i = k by omega, h.2.1]
    exact ⟨Nat.le_refl _, fun q => absurd rfl q⟩
  | s + 1, i, hi => by
    have h1 := (BIv.le h s (i + 1) (by omega)).1
    have h2 := (h.2.2.2.1 i (by omega)).1
    exact ⟨by omega, fun _ => by omega⟩
theorem BIv.ge (h : BIv p nd (SvR μ) d j nn k be nc b w) : ∀ i, i ≤ k → j + 1 ≤ b i
  | 0, _ => by rw [h.1]; exact Nat.le_refl _
  | i + 1, hi => by
    have h1 := BIv.ge h i (by omega)
    have h2 := (h.2.2.2.1 i (by omega)).1
    omega
theorem BIv.mono (h : BIv p nd (SvR μ) d j nn k be nc b w) : ∀ (s i : Nat), i + s ≤ k → b i ≤ b (i + s)
  | 0, _, _ => Nat.le_refl _
  | s + 1, i, hi => by
    have h1 := BIv.mono h s i (by omega)
    have h2 := (h.2.2.2.1 (i + s) (by omega)).1
    rw [show i + (s + 1) = i + s + 1 by omega]
    omega
theorem BIv.step (h : BIv p nd (SvR μ) d j nn k be nc b w) (hk : k < 4) (hb' : be' ≤ 24)
    (hl : μl = up μ 1 (lkC nn k (nd (b (k - 1)) - 1)) (nI nc))
    (s1 : be < be') (s2 : PFr be (up p 15 (4 * j + k) (nI be)) p') (s3 : MFr nc μl μ') (s4 : ∀ x, x < be → nd' x = nd x) (s5 : nd' be = nc + 1) (s6 : NR nd' (SvR μ') be be' (nc + 1) nc') (s7 : ∀ x, be ≤ x → x < be' → SI p' nd' (SvR μ') x)
    (s8 : SvR μ' nc 0 = 0) (s9 : SvR μ' nc 5 = nI (nc + 1)) (s10 : SvR μ' nc 6 = -1) (s11 : SvR μ' nc 8 = nI nn) (s12 : ∀ f, be' ≤ be + f → Ch p' nd' (SvR μ') f (d + 1) nc be be' ∧ WC p' f be be' = W) (s13 : W ≤ be' - be) :
    BIv p' nd' (SvR μ') d j nn (k + 1) be' nc' (fun i => if i ≤ k then b i else be') (fun i => if i < k then w i else W) := by
  have hI := h
  obtain ⟨h1, h2, h3, h4, h5, h6, h7, h8⟩ := h
  have hj : j < be := h6.1
  have hlast : nd (be - 1) + 1 = nc := h6.2.2.1
  have hbd := h6.bd
  -- where the link lies
  have hL : k ≠ 0 → nd (b (k - 1)) = nd (b (k - 1) - 1) + 2 ∧ b (k - 1) < be ∧ j + 1 ≤ b (k - 1) := fun hk0 => by
    have q := h4 (k - 1) (by omega)
    exact ⟨q.2.2.1, (hI.le 1 (k - 1) (by omega)).2 (by decide), hI.ge (k - 1) (by omega)⟩
  have hsv : ∀ n v, n < nc → v < 9 → (1024 + n) * 9 + v ≠ lkC nn k (nd (b (k - 1)) - 1) → SvR μ' n v = SvR μ n v := fun n v hn hv hne => by
    show μ' 1 _ = μ 1 _
    rw [s3.2.2 _ (by omega), hl, up_in hne]
  have hnl : ∀ n v, v < 9 → v ≠ 5 → v ≠ 6 → (1024 + n) * 9 + v ≠ lkC nn k (nd (b (k - 1)) - 1) := fun n v hv v5 v6 => by
    unfold lkC
    by_cases q : k = 0
    · rw [if_pos q]; omega
    · rw [if_neg q]; omega
  have hn6 : ∀ n, n ≠ nd (b (k - 1)) - 1 → (1024 + n) * 9 + 6 ≠ lkC nn k (nd (b (k - 1)) - 1) := fun n hn => by
    unfold lkC
    by_cases q : k = 0
    · rw [if_pos q]; omega
    · rw [if_neg q]; omega
  have hn5 : ∀ n, k ≠ 0 → (1024 + n) * 9 + 5 ≠ lkC nn k (nd (b (k - 1)) - 1) := fun n hk0 => by
    unfold lkC
    rw [if_neg hk0]; omega
  have hall : ∀ n v, k ≠ 0 → n < nc → v < 9 → n ≠ nd (b (k - 1)) - 1 → SvR μ' n v = SvR μ n v := fun n v hk0 hn hv hne => hsv n v hn hv (by
    unfold lkC
    rw [if_neg hk0]; omega)
  -- nodes of items are never the link
  have hitem : ∀ x, j ≤ x → x < be → k ≠ 0 → nd x ≠ nd (b (k - 1)) - 1 := fun x x1 x2 hk0 => by
    obtain ⟨q1, q2, q3⟩ := hL hk0
    by_cases c1 : x < b (k - 1)
    · by_cases c2 : x = b (k - 1) - 1
      · rw [c2]; omega
      · have := h6.lt x1 (show x < b (k - 1) - 1 by omega) (by omega)
        omega
    · by_cases c2 : x = b (k - 1)
      · rw [c2]; omega
      · have := h6.lt (show j ≤ b (k - 1) by omega) (show b (k - 1) < x by omega) x2
        omega
  have p15 : ∀ x, x < 4 * be → x ≠ 4 * j + k → p' 15 x = p 15 x := fun x hx hne => by rw [s2.2.1 x hx, up_in hne]
  have prow : ∀ c x, 7 ≤ c → c ≤ 14 → x < be → p' c x = p c x := fun c x c1 c2 hx => by rw [s2.1 c x c1 c2 hx, up_cell (by omega)]
  have hPE : ∀ x y, j + 1 ≤ x → y ≤ be → PE p p' x y := fun x y hx hy z z1 z2 => ⟨prow 7 z (by omega) (by omega) (by omega), prow 13 z (by omega) (by omega) (by omega), prow 14 z (by omega) (by omega) (by omega), fun q hq => p15 _ (by omega) (by omega)⟩
  refine ⟨(if_pos (Nat.zero_le k)).trans h1, if_neg (show ¬ k + 1 ≤ k by omega), by rw [s4 j hj]; exact h3, fun i hi => ?_, fun i i1 i2 => ?_, ?_, fun x x1 x2 => ?_, fun _ => ?_⟩
  · by_cases q : i < k
    · obtain ⟨g1, g2, g3, g4, g5, g6, g7, g8, g9⟩ := h4 i q
      have k0 : k ≠ 0 := by omega
      have hbi := hI.le (k - i) i (by omega)
      have hbi2 := hbi.2 (by omega)
      have hbn := hI.le (k - (i + 1)) (i + 1) (by omega)
      have hge := hI.ge i (by omega)
      have hgn : nn < nd (b i) := by rw [← h3]; exact h6.lt (Nat.le_refl _) (by omega) hbi2
      have hlt := (hbd (b i) (by omega) hbi2).2
      have sv5 := hsv (nd (b i) - 1) 5 (by omega) (by decide) (hn5 _ k0)
      have hone : (if i + 1 ≤ k then b (i + 1) else be') = b (i + 1) := if_pos (by omega)
      simp only [if_pos (show i ≤ k by omega), hone, if_pos q]
      rw [s4 (b i) hbi2, s4 (b i - 1) (by omega)]
      refine ⟨g1, by rw [p15 _ (by omega) (by omega)]; exact g2, g3, by rw [hsv _ _ (by omega) (by decide) (hnl _ _ (by decide) (by decide) (by decide))]; exact g4, by rw [sv5]; exact g5, ?_, by rw [hsv _ _ (by omega) (by decide) (hnl _ _ (by decide) (by decide) (by decide))]; exact g7, g8, fun f hf => ?_⟩
      · rw [if_pos (show i + 1 < k + 1 by omega)]
        by_cases q2 : i + 1 < k
        · rw [if_pos q2] at g6
          have hb2 := (hI.le (k - (i + 1)) (i + 1) (by omega)).2 (by omega)
          have hkk : b i < b (k - 1) := by
            have := hI.mono (k - 1 - (i + 1)) (i + 1) (by omega)
            rw [show i + 1 + (k - 1 - (i + 1)) = k - 1 by omega] at this
            omega
          have := h6.lt (show j ≤ b i by omega) hkk (hL k0).2.1
          rw [hsv _ _ (by omega) (by decide) (hn6 _ (by omega)), g6, s4 _ hb2]
        · have hik : i = k - 1 := by omega
          have : SvR μ' (nd (b i) - 1) 6 = nI nc := by
            show μ' 1 _ = _
            rw [s3.2.2 _ (by omega), hl]
            unfold lkC
            rw [if_neg k0, hik, up_at]
          rw [this, show i + 1 = k by omega, h2, s5]
          rfl
      · obtain ⟨c1, c2⟩ := g9 f hf
        have hpe := hPE (b i) (b (i + 1)) hge hbn.1
        refine ⟨Ch.ext _ _ _ _ _ c1 (by omega) hpe (fun x x1 x2 => ?_), by rw [(WC.ext _ _ _ _ _ c1 (by omega) hpe).1]; exact c2⟩
        have hx := hbd x (by omega) (by omega)
        have hxn : nn < nd x := by rw [← h3]; exact h6.lt (Nat.le_refl _) (by omega) (by omega)
        refine ⟨s4 x (by omega), fun v hv => hall _ _ k0 hx.2 hv (hitem x (by omega) (by omega) k0), fun x3 v hv => hall _ _ k0 (by omega) hv (fun e => ?_)⟩
        have he : nd x = nd (b (k - 1)) := by
          have := (hL k0).1
          omega
        obtain ⟨l1, l2, l3⟩ := hL k0
        by_cases c1 : x < b (k - 1)
        · have := h6.lt (by omega) c1 l2; omega
        · by_cases c3 : x = b (k - 1)
          · by_cases c4 : i = k - 1
            · rw [c4] at x3; omega
            · have := hI.mono (k - 1 - (i + 1)) (i + 1) (by omega)
              rw [show i + 1 + (k - 1 - (i + 1)) = k - 1 by omega] at this
              omega
          · have := h6.lt (by omega) (show b (k - 1) < x by omega) (by omega); omega
    · have hik : i = k := by omega
      subst hik
      simp only [if_pos (Nat.le_refl i), if_neg (show ¬ i + 1 ≤ i by omega), if_neg (show ¬ i < i by omega), if_neg (show ¬ i + 1 < i + 1 by omega)]
      rw [h2, s5, s4 (be - 1) (by omega)]
      refine ⟨s1, ?_, by omega, s8, s9, s10, s11, s13, s12⟩
      rw [s2.2.1 _ (by omega), up_at]
  · rw [p15 _ (by omega) (by omega)]
    exact h5 i (by omega) i2
  · refine NR.app (h6.ext (fun x _ x2 => s4 x x2) (fun n n1 n2 => hsv n 0 n2 (by decide) (hnl _ _ (by decide) (by decide) (by decide)))) s6 (Or.inr ⟨rfl, s8⟩)
  · by_cases q : x < be
    · exact (h7 x x1 q).ext (s4 x q) (fun c c1 c2 => prow c x c1 (by omega) q) (fun v hv => hsv _ _ (hbd x (by omega) q).2 (by omega) (hnl _ _ (by omega) (by omega) (by omega)))
    · exact s7 x (by omega) x2
  · by_cases q : k = 0
    · have hbe : be = j + 1 := by rw [← h2, q, h1]
      rw [hbe] at s5
      rw [s5]
      show μ' 1 _ = _
      have := (hbd j (Nat.le_refl _) hj).2
      rw [s3.2.2 _ (by omega), hl]
      unfold lkC
      rw [if_pos q, up_at]; rfl
    · have hj1 : j + 1 < be := by
        have := (hL q).2
        omega
      have := (hbd j (Nat.le_refl _) hj).2
      rw [hsv nn 5 (by omega) (by decide) (hn5 _ q), h8 (by omega), s4 _ hj1]
/-- when they all are read -/
theorem BIv.fin (h : BIv p nd (SvR μ) d j nn k be nc b w) (hk : (p' 7 j = 4 ∧ k = 2) ∨ (p' 7 j = 5 ∧ 1 ≤ k ∧ k ≤ 4)) (hd : d < 4) (hbe : be ≤ 24) (h14 : p' 14 j = nI be) (h15 : ∀ x, p' 15 x = p 15 x) (hpe : PE p p' (j + 1) be) (hsv : ∀ n v, v < 9 → (n ≠ nn ∨ v = 5) → SvR μ' n v = SvR μ n v) {f : Nat} (hf : be ≤ j + 1 + f) :
    ChI p' nd (SvR μ') f d j be ∧ WI p' f j = (if p' 7 j = 4 then max (w 0) (w 1) else sm k w) := by
  have hI := h
  obtain ⟨h1, h2, h3, h4, h5, h6, h7, h8⟩ := h
  have hbd := h6.bd
  have hj : j < be := h6.1
  have k1 : 1 ≤ k ∧ k ≤ 4 := by omega
  have hB : ∀ i, i < k → Bs p' j i = b i := fun i hi => by
    have g2 := (h4 i hi).2.1
    have hbi := (hI.le (k - i) i (by omega)).1
    unfold Bs
    rw [h15, g2, if_pos ⟨by omega, nI_m1 (by omega)⟩, nI_clamp (by omega)]
  have hBk : Bs p' j k = be := by
    unfold Bs
    rw [if_neg (fun z => z.2 (by rw [h15]; exact h5 k (Nat.le_refl _) z.1)), h14, nI_clamp (by omega)]
  have hB' : ∀ i, i ≤ k → Bs p' j i = b i := fun i hi => by
    by_cases q : i < k
    · exact hB i q
    · rw [show i = k by omega, hBk, h2]
  have hch : ∀ i, i < k → Ch p' nd (SvR μ') f (d + 1) (nd (b i) - 1) (b i) (b (i + 1)) ∧ WC p' f (b i) (b (i + 1)) = w i := fun i hi => by
    obtain ⟨g1, g2, g3, g4, g5, g6, g7, g8, g9⟩ := h4 i hi
    have hbn := (hI.le (k - (i + 1)) (i + 1) (by omega)).1
    have hge := hI.ge i (by omega)
    obtain ⟨c1, c2⟩ := g9 f (by omega)
    have hpe2 := hpe.sub hge hbn
    refine ⟨Ch.ext _ _ _ _ _ c1 (by omega) hpe2 (fun x x1 x2 => ?_), by rw [(WC.ext _ _ _ _ _ c1 (by omega) hpe2).1]; exact c2⟩
    have hx : nn < nd x := by rw [← h3]; exact h6.lt (Nat.le_refl _) (by omega) (by omega)
    refine ⟨rfl, fun v hv => hsv _ _ hv (Or.inl (by omega)), fun x3 v hv => hsv _ _ hv (Or.inl ?_)⟩
    have := h6.lt (show j ≤ b i by omega) x3 (by omega)
    have h9 : nn < nd (b i) := by rw [← h3]; exact h6.lt (Nat.le_refl _) (by omega) (by omega)
    omega
  refine ⟨⟨h14, Or.inr ⟨k, hk, hd, ?_, ?_, fun i i1 i2 => by rw [h15]; exact h5 i i1 i2, fun i hi => ?_⟩⟩, ?_⟩
  · rw [h3, hsv nn 5 (by decide) (Or.inr rfl)]; exact h8 k1.1
  · rw [hB 0 (by omega)]; exact h1
  · obtain ⟨g1, g2, g3, g4, g5, g6, g7, g8, g9⟩ := h4 i hi
    have hbi := (hI.le (k - i) i (by omega)).2 (by omega)
    have hge := hI.ge i (by omega)
    have hgt : nn < nd (b i) - 1 := by
      have : nd j ≤ nd (b i - 1) := by
        by_cases q : b i - 1 = j
        · rw [q]; exact Nat.le_refl _
        · exact Nat.le_of_lt (h6.lt (Nat.le_refl _) (by omega) (by omega))
      omega
    have hs : ∀ v, v < 9 → SvR μ' (nd (b i) - 1) v = SvR μ (nd (b i) - 1) v := fun v hv => hsv _ _ hv (Or.inl (by omega))
    rw [hB i hi, hB' (i + 1) (by omega)]
    refine ⟨by rw [h15]; exact g2, Or.inr g3, by rw [hs 0 (by decide)]; exact g4, by rw [hs 5 (by decide)]; exact g5, ?_, by rw [hs 8 (by decide), h3]; exact g7, (hch i hi).1⟩
    rw [hs 6 (by decide)]; exact g6
  · unfold WI
    rcases hk with ⟨q1, q2⟩ | ⟨q1, q2, q3⟩
    · rw [if_pos q1, if_pos q1, hB' 0 (by omega), hB' 1 (by omega), hB' 2 (by omega), (hch 0 (by omega)).2, (hch 1 (by omega)).2]
    · have n4 : ¬ p' 7 j = 4 := by rw [q1]; decide
      rw [if_neg n4, if_neg n4, if_pos q1]
      have hs : ∀ s n, n + s = 4 → k ≤ n → sm n (fun i => if p' 15 (4 * j + i) ≠ -1 then WC p' f (Bs p' j i) (Bs p' j (i + 1)) else 0) = sm k (fun i => if p' 15 (4 * j + i) ≠ -1 then WC p' f (Bs p' j i) (Bs p' j (i + 1)) else 0) := by
        intro s
        have : ∀ m, k + m ≤ 4 → sm (k + m) (fun i => if p' 15 (4 * j + i) ≠ -1 then WC p' f (Bs p' j i) (Bs p' j (i + 1)) else 0) = sm k (fun i => if p' 15 (4 * j + i) ≠ -1 then WC p' f (Bs p' j i) (Bs p' j (i + 1)) else 0) := by
          intro m
          induction m with
          | zero => intro _; rfl
          | succ m ih =>
            intro hm
            show sm (k + m) _ + (if p' 15 (4 * j + (k + m)) ≠ -1 then _ else 0) = _
            rw [ih (by omega), if_neg (fun z => z (by rw [h15]; exact h5 (k + m) (by omega) (by omega)))]
            rfl
        intro n hn hk2
        have := this (n - k) (by omega)
        rw [show k + (n - k) = n by omega] at this
        exact this
      rw [hs 0 4 rfl (by omega)]
      refine sm_same (fun i hi => ?_)
      show (if p' 15 (4 * j + i) ≠ -1 then WC p' f (Bs p' j i) (Bs p' j (i + 1)) else 0) = w i
      have g2 := (h4 i hi).2.1
      have hbi := (hI.le (k - i) i (by omega)).1
      rw [if_pos (by rw [h15, g2]; exact nI_m1 (by omega)), hB' i (by omega), hB' (i + 1) (by omega), (hch i hi).2]
theorem sm_tel {b w : Nat → Nat} {j : Nat} (h0 : b 0 = j) : ∀ k, (∀ i, i < k → b i < b (i + 1) ∧ w i ≤ b (i + 1) - b i) → sm k w + j ≤ b k
  | 0, _ => by rw [h0]; show 0 + j ≤ j; omega
  | k + 1, h => by
    have h1 := sm_tel h0 k (fun i hi => h i (by omega))
    have h2 := h k (by omega)
    show sm k w + w k + j ≤ b (k + 1)
    omega
end PA6
