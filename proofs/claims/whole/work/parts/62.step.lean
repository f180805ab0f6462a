/-! bodies of a choice and of parallels: a step, the start, the end -/
def lkM (ar x2 : Int32) (nn : Nat) (μ : Mem) : Mem := if x2 < 0 then (if ar < 0 then μ else up μ 1 ((1024 + ar.toNatClampNeg) * 9 + 5) (nI nn)) else up μ 1 ((1024 + x2.toNatClampNeg) * 9 + 6) (nI nn)
/-- a body has been read -/
def BdO (d : Nat) (ar : Int32) (its nn len : Nat) (nd : Nat → Nat) (t r p μ μl : Mem) (X : Option (Int32 × Mem × Mem)) (M : Option (Bool × Mem)) : Prop :=
  (∃ (r' p' μ' : Mem) (be nn' a' W : Nat) (nd' : Nat → Nat), X = some (nI W, r', p') ∧ M = some (true, μ') ∧ PS t r' p' μ' be nn' d a' len ∧ its < be ∧ nn' ≤ 2 * be ∧ PFr its p p' ∧ MFr nn μl μ' ∧ (∀ x, x < its → nd' x = nd x) ∧ nd' its = nn + 1 ∧ NR nd' (SvR μ') its be (nn + 1) nn' ∧ (∀ x, its ≤ x → x < be → SI p' nd' (SvR μ') x) ∧ SvR μ' nn 0 = 0 ∧ SvR μ' nn 5 = nI (nn + 1) ∧ SvR μ' nn 6 = -1 ∧ SvR μ' nn 8 = ar ∧ (∀ f, be ≤ its + f → Ch p' nd' (SvR μ') f d nn its be ∧ WC p' f its be = W) ∧ W ≤ be - its ∧ ∀ x, x < its → r' 1 x = r 1 x) ∨
  (∃ k r' p' μ', X = some (k, r', p') ∧ M = some (false, μ') ∧ BadO its len r p μ r' p' μ')
def BSim (t : Mem) (len d : Nat) (B : Int32 → Mem → Mem → Option (Int32 × Mem × Mem)) (Bm : Int32 → Int32 → Mem → Option (Bool × Mem)) : Prop :=
  ∀ (its nn a : Nat) (nd : Nat → Nat) (r p μ : Mem) (ar x2 : Int32), PS t r p μ its nn d a len → nn ≤ 2 * its → (x2 = -1 ∨ ∃ b : Nat, b < nn ∧ x2 = nI b) → (ar = -1 ∨ ∃ b : Nat, b < nn ∧ ar = nI b) → BdO d ar its nn len nd t r p μ (lkM ar x2 nn μ) (B (nI d) r p) (Bm ar x2 μ)
def BDead (B : Int32 → Mem → Mem → Option (Int32 × Mem × Mem)) : Prop := ∀ x r p, r 0 4 ≠ 0 → B x r p = some (0, r, p)
/-- between the bodies of an item -/
def BSt (t r0 p0 μ0 p2 μ2 : Mem) (nd0 : Nat → Nat) (its nn d len k : Nat) (r p μ : Mem) (a be nc : Nat) (nd b w : Nat → Nat) : Prop :=
  PS t r p μ be nc (d + 1) a len ∧ BIv p nd (SvR μ) d its nn k be nc b w ∧ PFr its p0 p ∧ MFr nn μ0 μ ∧ (∀ x, x < its → nd x = nd0 x) ∧ nc ≤ 2 * be ∧ (∀ x, x < its → r 1 x = r0 1 x) ∧ (∀ c, 7 ≤ c → c ≤ 13 → p c its = p2 c its) ∧ ∀ v, v < 9 → v ≠ 5 → SvR μ nn v = SvR μ2 nn v
def MFo (n : Nat) (μ μ' : Mem) : Prop := (∀ c, c ≠ 0 → c ≠ 1 → μ' c = μ c) ∧ (∀ k, k ≠ 12 → k ≠ 16 → k ≠ 18 → μ' 0 k = μ 0 k) ∧ ∀ x, ¬ ((1024 + n) * 9 + 1 ≤ x ∧ x < (1024 + n) * 9 + 5) → μ' 1 x = μ 1 x
def opnd (d : Nat) (μ1 : Mem) : Mem := up (up (up μ1 0 12 (μ1 0 12 + 1)) 0 16 (nI (d + 1))) 0 17 (if μ1 0 17 < nI (d + 1) then nI (d + 1) else μ1 0 17)
section PA7
variable {t r μ r1 μ1 p p1 r0 p0 μ0 p2 μ2 r3 p3 μ3 r' p' μ' : Mem} {a len N its nn d bn k be nc a' a3 wd : Nat} {nd nd0 b w : Nat → Nat} {B : Int32 → Mem → Mem → Option (Int32 × Mem × Mem)} {Bm : Int32 → Int32 → Mem → Option (Bool × Mem)}
theorem MFn.mo {n : Nat} (h : MFn n μ μ') : MFo n μ μ' := ⟨h.1, fun k a _ b => h.2.1 k a b, h.2.2⟩
theorem MFo.trans {n : Nat} {μb : Mem} (h1 : MFo n μ μ') (h2 : MFo n μ' μb) : MFo n μ μb := ⟨fun c x y => (h2.1 c x y).trans (h1.1 c x y), fun k x y z => (h2.2.1 k x y z).trans (h1.2.1 k x y z), fun x hx => (h2.2.2 x hx).trans (h1.2.2 x hx)⟩
theorem Sc.wid {x : Nat} {v : Int32} (h : Sc t r μ a len) : Sc t (up r 1 x v) μ a len := by
  obtain ⟨h1, h2, h3, h4⟩ := h
  exact ⟨by rw [up_cell (by decide)]; exact h1, by rw [up_cell (by decide)]; exact h2, by rw [up_cell (by decide)]; exact h3, h4⟩
theorem Sc.hi {x : Nat} {v : Int32} (h : Sc t r μ a len) (hx : x = 16 ∨ x = 17) : Sc t r (up μ 0 x v) a len := by
  obtain ⟨h1, h2, h3, h4, h5, h6, h7, h8, h9⟩ := h
  exact ⟨h1, h2, h3, by rw [up_in (by omega)]; exact h4, by rw [up_in (by omega)]; exact h5, h6, h7, by rw [up_in (by omega)]; exact h8, by rw [up_row (by decide)]; exact h9⟩
/-- signs are taken between the bodies -/
theorem BSt.scan (h : BSt t r0 p0 μ0 p2 μ2 nd0 its nn d len k r p μ a be nc nd b w) (hS : Sc t r' μ' a' len) (hr : RSf r r') (hm : MSf μ μ') : BSt t r0 p0 μ0 p2 μ2 nd0 its nn d len k r' p μ' a' be nc nd b w := by
  obtain ⟨⟨g1, g2, g3, g4, g5, g6, g7, g8⟩, h2, h3, h4, h5, h6, h7, h8, h9⟩ := h
  have e1 : μ' 1 = μ 1 := hm.1 1 (by decide)
  have es : SvR μ' = SvR μ := by funext n v; show μ' 1 _ = μ 1 _; rw [e1]
  refine ⟨⟨hS, g2, g3, by rw [hm.2 15 (by omega) (by omega)]; exact g4, by rw [hm.2 14 (by omega) (by omega)]; exact g5, by rw [hm.2 16 (by omega) (by omega)]; exact g6, by rw [hm.2 17 (by omega) (by omega)]; exact g7, g8⟩, by rw [es]; exact h2, h3, ⟨fun c c0 c1 => (hm.1 c c0).trans (h4.1 c c0 c1), fun x hx => (hm.2 x (by omega) (by omega)).trans (h4.2.1 x hx), fun x hx => by rw [e1]; exact h4.2.2 x hx⟩, h5, h6, fun x hx => by rw [hr 1 (by decide)]; exact h7 x hx, h8, fun v v1 v2 => by rw [es]; exact h9 v v1 v2⟩
theorem bod_step (hB : BSim t len (d + 1) B Bm) (hi : its < 24) (hk : k < 4) (h : BSt t r0 p0 μ0 p2 μ2 nd0 its nn d len k r p μ a be nc nd b w) :
    (∃ (r' p' μ' : Mem) (W a' be' nc' : Nat) (nd' b' w' : Nat → Nat), re_readBodyOf N t B (nI its) (nI k) (nI (d + 1)) r p = some (nI W, r', p') ∧ Bm (nI nn) (if k = 0 then -1 else nI (nd (b (k - 1)) - 1)) μ = some (true, μ') ∧ BSt t r0 p0 μ0 p2 μ2 nd0 its nn d len (k + 1) r' p' μ' a' be' nc' nd' b' w' ∧ nd' (b' k) - 1 = nc ∧ w' k = W ∧ ∀ i, i < k → w' i = w i) ∨
    (∃ k' r' p' μ', re_readBodyOf N t B (nI its) (nI k) (nI (d + 1)) r p = some (k', r', p') ∧ Bm (nI nn) (if k = 0 then -1 else nI (nd (b (k - 1)) - 1)) μ = some (false, μ') ∧ BadO its len r0 p0 μ0 r' p' μ') := by
  obtain ⟨⟨g1, g2, g3, g4, g5, g6, g7, g8⟩, h2, h3, h4, h5, h6, h7, h8, h9⟩ := h
  have hbd := h2.2.2.2.2.2.1.bd
  have hj : its < be := h2.2.2.2.2.2.1.1
  have hndj : nd its = nn := h2.2.2.1
  have hnn := (hbd its (Nat.le_refl _) hj).2
  rw [hndj] at hnn
  have hpb : k ≠ 0 → nn < nd (b (k - 1)) - 1 ∧ nd (b (k - 1)) < nc := fun hk0 => by
    have q := h2.2.2.2.1 (k - 1) (by omega)
    have q1 := (h2.le 1 (k - 1) (by omega)).2 (by decide)
    have q2 := h2.ge (k - 1) (by omega)
    have q3 := hbd (b (k - 1)) (by omega) q1
    have : nd its ≤ nd (b (k - 1) - 1) := by
      by_cases z : b (k - 1) - 1 = its
      · rw [z]; exact Nat.le_refl _
      · exact Nat.le_of_lt (h2.2.2.2.2.2.1.lt (Nat.le_refl _) (by omega) (by omega))
    omega
  have hPS : PS t r (up p 15 (4 * its + k) (nI be)) μ be nc (d + 1) a len := ⟨g1, by rw [up_cell (by decide)]; exact g2, g3, g4, g5, g6, by rw [up_cell (by decide)]; exact g7, by rw [up_cell (by decide), up_row (by decide)]; exact g8⟩
  have hbo := hB be nc a nd r (up p 15 (4 * its + k) (nI be)) μ (nI nn) (if k = 0 then -1 else nI (nd (b (k - 1)) - 1)) hPS h6 (by
    by_cases q : k = 0
    · rw [if_pos q]; exact Or.inl rfl
    · rw [if_neg q]; exact Or.inr ⟨_, by have := hpb q; omega, rfl⟩) (Or.inr ⟨nn, hnn, rfl⟩)
  have hlk : lkM (nI nn) (if k = 0 then -1 else nI (nd (b (k - 1)) - 1)) nc μ = up μ 1 (lkC nn k (nd (b (k - 1)) - 1)) (nI nc) := by
    unfold lkM lkC
    by_cases q : k = 0
    · rw [if_pos q, if_pos q, if_pos (by decide), if_neg (nI_pos (by omega)), nI_clamp (by omega)]
    · have := hpb q
      rw [if_neg q, if_neg q, if_neg (nI_pos (by omega)), nI_clamp (by omega)]
  have hX : re_readBodyOf N t B (nI its) (nI k) (nI (d + 1)) r p = B (nI (d + 1)) r (up p 15 (4 * its + k) (nI be)) := by
    unfold re_readBodyOf
    rw [show (4 : Int32) = nI 4 from rfl, pk_mul, nI_add, ck_nI (by omega) (by decide), nI_clamp (by omega), g2, show its * 4 + k = 4 * its + k by omega]
    cases B (nI (d + 1)) r (up p 15 (4 * its + k) (nI be)) with
    | none => rfl
    | some z => rfl
  rw [hX]
  rw [hlk] at hbo
  have hcell : (1024 + nn) * 9 ≤ lkC nn k (nd (b (k - 1)) - 1) := by
    unfold lkC
    by_cases q : k = 0
    · rw [if_pos q]; omega
    · have := hpb q
      rw [if_neg q]; omega
  rcases hbo with ⟨r', p', μ', be', nc', a', W, nd', y1, y2, y3, y4, y5, y6, y7, y8, y9, y10, y11, y12, y13, y14, y15, y16, y17, y18⟩ | ⟨k', r', p', μ', y1, y2, y3⟩
  · have hst := h2.step hk y3.2.2.1 rfl y4 y6 y7 y8 y9 y10 y11 y12 y13 y14 y15 y16 y17
    refine Or.inl ⟨r', p', μ', W, a', be', nc', nd', _, _, y1, y2, ⟨y3, hst, ?_, ?_, fun x hx => (y8 x (by omega)).trans (h5 x hx), y5, fun x hx => (y18 x (by omega)).trans (h7 x hx), fun c c1 c2 => ?_, fun v v1 v2 => ?_⟩, ?_, if_neg (by omega), fun i hi => if_pos hi⟩
    · exact ⟨fun c x c1 c2 hx => by rw [y6.1 c x c1 c2 (by omega), up_cell (by omega)]; exact h3.1 c x c1 c2 hx, fun x hx => by rw [y6.2.1 x (by omega), up_in (by omega)]; exact h3.2.1 x hx, fun x hx => by rw [y6.2.2 x hx, up_cell (by decide)]; exact h3.2.2 x hx⟩
    · exact ⟨fun c c0 c1 => by rw [y7.1 c c0 c1, up_row c1]; exact h4.1 c c0 c1, fun x hx => by rw [y7.2.1 x hx, up_cell (by decide)]; exact h4.2.1 x hx, fun x hx => by rw [y7.2.2 x (by omega), up_in (by omega)]; exact h4.2.2 x hx⟩
    · rw [y6.1 c its c1 (by omega) hj, up_cell (by omega)]; exact h8 c c1 c2
    · rw [← h9 v v1 v2]
      show μ' 1 _ = μ 1 _
      rw [y7.2.2 _ (by omega), up_in ?_]
      unfold lkC
      by_cases q : k = 0
      · rw [if_pos q]; omega
      · have := hpb q
        rw [if_neg q]; omega
    · show nd' (if k ≤ k then b k else be') - 1 = nc
      rw [if_pos (Nat.le_refl _), h2.2.1, y9]; omega
  · refine Or.inr ⟨k', r', p', μ', y1, y2, y3.1, fun x hx => ?_, fun c c0 c1 => (y3.2.2.1 c c0 c1).trans (h4.1 c c0 c1), fun x hx => (y3.2.2.2.1 x hx).trans (h4.2.1 x hx), fun x hx => (y3.2.2.2.2 x hx).trans (h4.2.2 x (by omega))⟩
    rw [y3.2.1 x hx, up_cell (by decide)]
    exact h3.2.2 x (by omega)
theorem bodyOf_dead (hBd : BDead B) (h : r 0 4 ≠ 0) (hi : its < 24) (hk : k < 4) {y : Int32} : re_readBodyOf N t B (nI its) (nI k) y r p = some (0, r, up p 15 (4 * its + k) (p 6 11)) := by
  unfold re_readBodyOf
  rw [show (4 : Int32) = nI 4 from rfl, pk_mul, nI_add, ck_nI (by omega) (by decide), nI_clamp (by omega), hBd _ _ _ h, show its * 4 + k = 4 * its + k by omega]; rfl
/-- before the first body -/
theorem bodst0 {kk kM : Int32} (hPS : PS t r p μ its nn d a len) (hd : d < 4) (hi : its < 24) (hnn : nn ≤ 2 * its + 1) (hA : AF t r p μ r1 p1 μ1 its nn d bn a len kk kM) (hS : Sc t r3 μ3 a3 len) (hr : RSf r1 r3) (hp : PFj its (up p1 6 13 (if p1 6 13 < nI d + 1 then nI d + 1 else p1 6 13)) p3) (hm : MFn nn (opnd d μ1) μ3) :
    BSt t r p μ p3 μ3 nd its nn d len 0 r3 p3 μ3 a3 (its + 1) (nn + 1) (fun x => if x = its then nn else nd x) (fun _ => its + 1) (fun _ => 0) := by
  obtain ⟨a1, a2, a3', a4, a5, a6, a7, a8, a9, a10, a11, a12, a13, a14, a15, a16⟩ := hA
  obtain ⟨dp, dp1, dp2, dp3⟩ := hPS.2.2.2.2.2.2.1
  have h6 : ∀ x, p3 6 x = up p1 6 13 (if p1 6 13 < nI d + 1 then nI d + 1 else p1 6 13) 6 x := fun x => hp 6 x (by omega)
  have h0 : ∀ x, x ≠ 12 → x ≠ 16 → x ≠ 17 → x ≠ 18 → μ3 0 x = μ1 0 x := fun x x1 x2 x3 x4 => by
    rw [hm.2.1 x x1 x4]
    unfold opnd
    rw [up_in x3, up_in x2, up_in x1]
  have hrow1 : (opnd d μ1) 1 = μ1 1 := by
    unfold opnd
    rw [up_row (by decide), up_row (by decide), up_row (by decide)]
  refine ⟨⟨hS, ?_, by omega, ?_, ?_, ?_, ⟨max dp (d + 1), by omega, ?_, ?_⟩, ?_⟩, ⟨rfl, rfl, if_pos rfl, fun i hi => absurd hi (by omega), fun i _ i4 => ?_, ⟨by omega, if_pos rfl, ?_, fun x x1 x2 => by omega⟩, fun x x1 x2 => by omega, fun h => absurd h (by omega)⟩, ?_, ?_, fun x hx => if_neg (by omega), by omega, fun x hx => ?_, fun c _ _ => rfl, fun v _ _ => rfl⟩
  · rw [h6, up_in (by omega)]; exact a9
  · rw [h0 15 (by omega) (by omega) (by omega) (by omega)]; exact a4
  · rw [h0 14 (by omega) (by omega) (by omega) (by omega)]; exact a3'
  · rw [hm.2.1 16 (by omega) (by omega)]
    unfold opnd
    rw [up_in (by omega), up_at]
  · rw [h6, up_at, a11, dp2, nI_1]
    by_cases q : dp < d + 1
    · rw [if_pos (nI_lt q (by omega)), Nat.max_eq_right (by omega)]
    · rw [if_neg (nI_nlt (by omega) (by omega)), Nat.max_eq_left (by omega)]
  · rw [hm.2.1 17 (by omega) (by omega)]
    unfold opnd
    rw [up_at, a6, dp3]
    by_cases q : dp < d + 1
    · rw [if_pos (nI_lt q (by omega)), Nat.max_eq_right (by omega)]
    · rw [if_neg (nI_nlt (by omega) (by omega)), Nat.max_eq_left (by omega)]
  · rw [h6, up_in (by omega), a10]
    congr 1
    exact sm_same (fun x _ => by
      show (if p1 7 x = 0 then 1 else 0) = if p3 7 x = 0 then 1 else 0
      rw [hp 7 x (by omega), up_cell (by decide)])
  · rw [hp 15 _ (by omega), up_cell (by decide)]; exact a12 i i4
  · show (if its + 1 - 1 = its then nn else nd (its + 1 - 1)) + 1 = nn + 1
    rw [if_pos (by omega)]
  · exact ⟨fun c x c1 c2 hx => by rw [hp c x (by omega), up_cell (by omega)]; exact a13.1 c x c1 c2 hx, fun x hx => by rw [hp 15 x (by omega), up_cell (by decide)]; exact a13.2.1 x hx, fun x hx => by rw [h6, up_in (by omega)]; exact a13.2.2 x hx⟩
  · exact ⟨fun c c0 c1 => by
      rw [hm.1 c c0 c1]
      unfold opnd
      rw [up_row c0, up_row c0, up_row c0]; exact a14.1 c c0 c1, fun x hx => by rw [h0 x (by omega) (by omega) (by omega) (by omega)]; exact a14.2.1 x hx, fun x hx => by rw [hm.2.2 x (by omega), hrow1]; exact a14.2.2 x hx⟩
  · rw [hr 1 (by decide)]; exact a16 x (by omega)
/-- behind the last body -/
theorem bod_end (h : BSt t r0 p0 μ0 p2 μ2 nd0 its nn d len k r p μ a be nc nd b w) (hd : d < 4) (hi : its < 24) (hk : (p2 7 its = 4 ∧ k = 2) ∨ (p2 7 its = 5 ∧ 1 ≤ k ∧ k ≤ 4))
    (hS : Sc t r' μ' a' len) (hr : r' 1 its = nI wd) (hr2 : ∀ x, x ≠ its → r' 1 x = r 1 x) (hp : PFj its p p') (hm : MFo nn μ μ') (h16 : μ' 0 16 = nI d) (hwd : wd = if p2 7 its = 4 then max (w 0) (w 1) else sm k w) (hsi : SI p' (fun _ => nn) (SvR μ') its) (s6 : SvR μ2 nn 6 = -1) (s8 : SvR μ2 nn 8 = nI bn) (s13 : p2 13 its = -1) :
    ItO d bn its nn len nd0 t r0 p0 μ0 (re_readItem_225 N t B (nI its) r' p') (some (true, μ')) := by
  obtain ⟨⟨g1, g2, g3, g4, g5, g6, g7, g8⟩, h2, h3, h4, h5, h6, h7, h8, h9⟩ := h
  have hNR := h2.2.2.2.2.2.1
  have hj : its < be := hNR.1
  have hndj : nd its = nn := h2.2.2.1
  have q6 : ∀ x, p' 6 x = p 6 x := fun x => hp 6 x (by omega)
  have q7 : ∀ x, p' 7 x = p 7 x := fun x => hp 7 x (by omega)
  have k7 : p' 7 its = p2 7 its := by rw [q7]; exact h8 7 (by omega) (by omega)
  have hsv : ∀ n v, v < 9 → (n ≠ nn ∨ v = 5) → SvR μ' n v = SvR μ n v := fun n v hv hn => hm.2.2 _ (by omega)
  have hfin : ∀ f, be ≤ its + 1 + f → ChI (up p' 14 its (nI be)) nd (SvR μ') f d its be ∧ WI (up p' 14 its (nI be)) f its = wd := fun f hf => by
    have := h2.fin (p' := up p' 14 its (nI be)) (μ' := μ') (f := f) (by rw [up_cell (by decide), k7]; exact hk) hd g3 up_at (fun x => by rw [up_cell (by decide)]; exact hp 15 x (by omega)) (fun x x1 x2 => ⟨by rw [up_other (by omega)]; exact q7 x, by rw [up_other (by omega)]; exact hp 13 x (by omega), by rw [up_other (by omega)]; exact hp 14 x (by omega), fun q _ => by rw [up_other (by omega)]; exact hp 15 _ (by omega)⟩) hsv hf
    rw [up_cell (by decide), k7, ← hwd] at this
    exact this
  refine Or.inl ⟨r', up p' 14 its (nI be), μ', be, nc, a', wd, nd, ?_, rfl, ⟨hS, ?_, g3, ?_, ?_, h16, ?_, ?_⟩, hj, h6, ?_, ?_, h5, hndj, hNR.ext (fun _ _ _ => rfl) (fun n _ _ => hm.2.2 _ (by omega)), fun x x1 x2 => ?_, ?_, ?_, ?_, hfin, ?_, hr, fun x hx => ?_⟩
  · unfold re_readItem_225
    rw [ck_nI hi (by decide), if_pos hS.2.2.1, q6, g2, nI_clamp (by omega)]
  · rw [up_cell (by decide), q6]; exact g2
  · rw [hm.2.1 15 (by omega) (by omega) (by omega)]; exact g4
  · rw [hm.2.1 14 (by omega) (by omega) (by omega)]; exact g5
  · rw [up_cell (by decide), q6, hm.2.1 17 (by omega) (by omega) (by omega)]; exact g7
  · rw [up_cell (by decide), q6, g8]
    congr 1
    exact sm_same (fun x _ => by
      show (if p 7 x = 0 then 1 else 0) = if up p' 14 its (nI be) 7 x = 0 then 1 else 0
      rw [up_cell (by decide), q7])
  · exact ⟨fun c x c1 c2 hx => by rw [up_other (by omega), hp c x (by omega)]; exact h3.1 c x c1 c2 hx, fun x hx => by rw [up_cell (by decide), hp 15 x (by omega)]; exact h3.2.1 x hx, fun x hx => by rw [up_cell (by decide), q6]; exact h3.2.2 x hx⟩
  · exact ⟨fun c c0 c1 => (hm.1 c c0 c1).trans (h4.1 c c0 c1), fun x hx => (hm.2.1 x (by omega) (by omega) (by omega)).trans (h4.2.1 x hx), fun x hx => (hm.2.2 x (by omega)).trans (h4.2.2 x hx)⟩
  · by_cases q : x = its
    · subst q
      exact hsi.ext hndj (fun c c1 c2 => up_other (by omega)) (fun w _ => rfl)
    · have hx : nn < nd x := by rw [← hndj]; exact hNR.lt (Nat.le_refl _) (by omega) x2
      exact (h2.2.2.2.2.2.2.1 x (by omega) x2).ext rfl (fun c c1 c2 => by rw [up_other (by omega)]; exact hp c x (by omega)) (fun w hw => hsv _ _ (by omega) (Or.inl (by omega)))
  · rw [show SvR μ' nn 6 = SvR μ nn 6 from hm.2.2 _ (by omega), h9 6 (by omega) (by omega)]; exact s6
  · rw [show SvR μ' nn 8 = SvR μ nn 8 from hm.2.2 _ (by omega), h9 8 (by omega) (by omega)]; exact s8
  · rw [up_other (by omega), hp 13 its (by omega), h8 13 (by omega) (by omega)]; exact s13
  · have ht := sm_tel (b := b) (w := w) h2.1 k (fun i hi => ⟨(h2.2.2.2.1 i hi).1, (h2.2.2.2.1 i hi).2.2.2.2.2.2.2.1⟩)
    rw [h2.2.1] at ht
    rcases hk with ⟨c1, c2⟩ | ⟨c1, c2, c3⟩
    · rw [hwd, if_pos c1]
      subst c2
      have : sm 2 w = w 0 + w 1 := by show (0 + w 0) + w 1 = _; omega
      omega
    · rw [hwd, if_neg (by rw [c1]; decide)]
      omega
  · rw [hr2 x (by omega)]; exact h7 x hx
/-- the class's reader, once the text is wrong -/
def Dd (r p : Mem) (X : Option (Mem × Mem)) : Prop := ∃ r' p', X = some (r', p') ∧ r' 0 = r 0 ∧ p' 6 = p 6
theorem dd_end {X : Option (Mem × Mem)} (hi : its < 24) (h : Dd r' p' X) (hb : Bad r' μ' len) (hp : ∀ x, (x < 11 ∨ 14 ≤ x) → p' 6 x = p 6 x) (hm : MFr nn μ μ') : ItO d bn its nn len nd t r p μ (X.bind fun z => re_readItem_225 N t B (nI its) z.1 z.2) (some (false, μ')) := by
  obtain ⟨r2, p2, x1, x2, x3⟩ := h
  rw [x1, Option.bind_some]
  refine Or.inr ⟨r2, up p2 14 its (p2 6 11), μ', ?_, rfl, ?_, fun x hx => ?_, hm.1, hm.2.1, fun x hx => hm.2.2 x (by omega)⟩
  · unfold re_readItem_225
    dsimp only
    rw [ck_nI hi (by decide), if_neg (by rw [x2]; exact hb.dead), nI_clamp (by omega)]
  · unfold Bad
    rw [x2]; exact hb
  · rw [up_cell (by decide), x3]; exact hp x hx
end PA7
