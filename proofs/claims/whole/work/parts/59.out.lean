/-! what reading comes to -/
/-- how many items can run at the same time: within an item, and from an item of a body on -/
def WC (p : Mem) : Nat → Nat → Nat → Nat
  | 0, _, _ => 0
  | f + 1, j, be => max (if p 7 j = 4 then max (WC p f (Bs p j 0) (Bs p j 1)) (WC p f (Bs p j 1) (Bs p j 2)) else if p 7 j = 5 then sm 4 (fun k => if p 15 (4 * j + k) ≠ -1 then WC p f (Bs p j k) (Bs p j (k + 1)) else 0) else 1) (if En p j < be then WC p f (En p j) be else 0)
def WI (p : Mem) (f j : Nat) : Nat := if p 7 j = 4 then max (WC p f (Bs p j 0) (Bs p j 1)) (WC p f (Bs p j 1) (Bs p j 2)) else if p 7 j = 5 then sm 4 (fun k => if p 15 (4 * j + k) ≠ -1 then WC p f (Bs p j k) (Bs p j (k + 1)) else 0) else 1
theorem WC_eq {p : Mem} {f j be : Nat} : WC p (f + 1) j be = max (WI p f j) (if En p j < be then WC p f (En p j) be else 0) := rfl
/-- an item with all that is in it, but for what stands behind it -/
def ChI (p : Mem) (nd : Nat → Nat) (sv : Nat → Nat → Int32) (f d j m : Nat) : Prop :=
  p 14 j = nI m ∧ ((Lf (p 7 j) ∧ m = j + 1 ∧ sv (nd j) 5 = -1) ∨
     ∃ nb : Nat, ((p 7 j = 4 ∧ nb = 2) ∨ (p 7 j = 5 ∧ 1 ≤ nb ∧ nb ≤ 4)) ∧ d < 4 ∧ sv (nd j) 5 = nI (nd (j + 1) - 1) ∧ Bs p j 0 = j + 1 ∧ (∀ k, nb ≤ k → k < 4 → p 15 (4 * j + k) = -1) ∧
      ∀ k, k < nb → p 15 (4 * j + k) = nI (Bs p j k) ∧ Bst nd (Bs p j k) ∧ sv (nd (Bs p j k) - 1) 0 = 0 ∧ sv (nd (Bs p j k) - 1) 5 = nI (nd (Bs p j k)) ∧
        sv (nd (Bs p j k) - 1) 6 = (if k + 1 < nb then nI (nd (Bs p j (k + 1)) - 1) else -1) ∧ sv (nd (Bs p j k) - 1) 8 = nI (nd j) ∧
        Ch p nd sv f (d + 1) (nd (Bs p j k) - 1) (Bs p j k) (Bs p j (k + 1)))
theorem ChI.ch {p : Mem} {nd : Nat → Nat} {sv : Nat → Nat → Int32} {f d bn j m be : Nat} (h : ChI p nd sv f d j m) (hj : j < m) (hm : m ≤ be) (h8 : sv (nd j) 8 = nI bn)
    (hx : (m = be ∧ p 13 j = -1 ∧ sv (nd j) 6 = -1) ∨ (m < be ∧ p 13 j = nI m ∧ sv (nd j) 6 = nI (nd m) ∧ Ch p nd sv f d bn m be)) : Ch p nd sv (f + 1) d bn j be := by
  obtain ⟨h1, h2⟩ := h
  rcases h2 with q | ⟨nb, q⟩
  · exact ⟨m, 0, hj, hm, h1, h8, hx, Or.inl q⟩
  · exact ⟨m, nb, hj, hm, h1, h8, hx, Or.inr q⟩
theorem NR.mono {nd : Nat → Nat} {sv : Nat → Nat → Int32} {a c n0 n1 : Nat} (h : NR nd sv a c n0 n1) : ∀ (s x : Nat), a ≤ x → x + s + 1 < c → nd x < nd (x + s + 1)
  | 0, x, h1, h2 => by
    have := h.2.2.2 x h1 (by omega)
    rw [show x + 0 + 1 = x + 1 by omega]
    omega
  | s + 1, x, h1, h2 => by
    have h3 := NR.mono h s x h1 (by omega)
    have h4 := h.2.2.2 (x + s + 1) (by omega) (by omega)
    rw [show x + (s + 1) + 1 = x + s + 1 + 1 by omega]
    omega
theorem NR.lt {nd : Nat → Nat} {sv : Nat → Nat → Int32} {a c n0 n1 x y : Nat} (h : NR nd sv a c n0 n1) (h1 : a ≤ x) (h2 : x < y) (h3 : y < c) : nd x < nd y := by
  have := h.mono (y - x - 1) x h1 (by omega)
  rw [show x + (y - x - 1) + 1 = y by omega] at this
  exact this
/-- the item alone keeps while others are read -/
theorem ChI.ext {p p' : Mem} {nd nd' : Nat → Nat} {sv sv' : Nat → Nat → Int32} {f d j m n0 n1 : Nat} (h : ChI p nd sv f d j m) (hN : NR nd sv j m n0 n1) (hm : m ≤ 24) (h7 : p' 7 j = p 7 j) (h14 : p' 14 j = p 14 j) (h15 : ∀ k, k < 4 → p' 15 (4 * j + k) = p 15 (4 * j + k)) (hp : PE p p' (j + 1) m) (hnd : ∀ x, j ≤ x → x < m → nd' x = nd x) (hv5 : sv' n0 5 = sv n0 5) (hv : ∀ n w, n0 < n → n < n1 → w < 9 → sv' n w = sv n w) : ChI p' nd' sv' f d j m := by
  obtain ⟨h1, h2⟩ := h
  have hj : j < m := hN.1
  have hn0 : nd j = n0 := hN.2.1
  have hb := hN.bd
  refine ⟨h14.trans h1, ?_⟩
  have hBs : ∀ k, Bs p' j k = Bs p j k := fun k => Bs_ext h14 (fun hk => h15 k hk)
  rcases h2 with ⟨q1, q2, q3⟩ | ⟨nb, r1, r2, r3, r4, r5, r6⟩
  · exact Or.inl ⟨by rw [h7]; exact q1, q2, by rw [hnd j (Nat.le_refl _) hj, hn0, hv5, ← hn0]; exact q3⟩
  · have hl : ¬ Lf (p 7 j) := by rcases r1 with w | w <;> rw [w.1] <;> unfold Lf <;> decide
    have hnb : 1 ≤ nb ∧ nb ≤ 4 := by rcases r1 with w | w <;> omega
    have hend : Bs p j nb = m := by
      by_cases w : nb < 4
      · exact Bs_end h1 (by omega) (fun ⟨_, z⟩ => z (r5 nb (Nat.le_refl _) w))
      · exact Bs_end h1 (by omega) (fun ⟨z, _⟩ => w z)
    have hmono : ∀ k, k < nb → Bs p j k < Bs p j (k + 1) := fun k hk => (r6 k hk).2.2.2.2.2.2.lt
    have hle : ∀ k, k ≤ nb → Bs p j k ≤ m ∧ j + 1 ≤ Bs p j k := fun k hk => by
      have a1 := Bs_mono hmono (nb - k) k (by omega)
      rw [show k + (nb - k) = nb by omega, hend] at a1
      have a2 := Bs_mono hmono k 0 (by omega)
      rw [show 0 + k = k by omega, r4] at a2
      exact ⟨a1, a2⟩
    have h0 : Bs p j 0 < Bs p j 1 := hmono 0 (by omega)
    have h1m := hle 1 (by omega)
    have hj1 : j + 1 < m := by rw [r4] at h0; omega
    refine Or.inr ⟨nb, by rw [h7]; exact r1, r2, by rw [hnd j (Nat.le_refl _) hj, hn0, hv5, hnd (j + 1) (by omega) hj1, ← hn0]; exact r3, by rw [hBs]; exact r4, fun k k1 k2 => by rw [h15 k k2]; exact r5 k k1 k2, fun k hk => ?_⟩
    obtain ⟨w1, w2, w3, w4, w5, w6, w7⟩ := r6 k hk
    have hb1 := hmono k hk
    obtain ⟨c1, c2⟩ := hle k (by omega)
    obtain ⟨c3, c4⟩ := hle (k + 1) (by omega)
    have hndb := hnd (Bs p j k) (by omega) (by omega)
    have hbb := hb (Bs p j k) (by omega) (by omega)
    have hgt : n0 < nd (Bs p j k) - 1 := by
      rcases w2 with z | z
      · omega
      · have := hb (Bs p j k - 1) (by omega) (by omega)
        omega
    have hvb : ∀ w, w < 9 → sv' (nd (Bs p j k) - 1) w = sv (nd (Bs p j k) - 1) w := fun w hw => hv _ w hgt (by omega) hw
    refine ⟨by rw [h15 k (by omega), hBs]; exact w1, ?_, ?_, ?_, ?_, ?_, ?_⟩
    · rw [hBs]
      unfold Bst at w2 ⊢
      rw [hndb, hnd (Bs p j k - 1) (by omega) (by omega)]; exact w2
    · rw [hBs, hndb, hvb 0 (by omega)]; exact w3
    · rw [hBs, hndb, hvb 5 (by omega)]; exact w4
    · rw [hBs, hBs, hndb, hvb 6 (by omega), w5]
      by_cases q : k + 1 < nb
      · rw [if_pos q, if_pos q]
        have := hmono (k + 1) q
        obtain ⟨c5, c6⟩ := hle (k + 1 + 1) (by omega)
        rw [hnd (Bs p j (k + 1)) (by omega) (by omega)]
      · rw [if_neg q, if_neg q]
    · rw [hBs, hndb, hvb 8 (by omega), hnd j (Nat.le_refl _) hj]; exact w6
    · rw [hBs, hBs, hndb]
      refine Ch.ext f (d + 1) _ _ _ w7 (by omega) (hp.sub (by omega) (by omega)) (fun x x1 x2 => ?_)
      have hx := hb x (by omega) (by omega)
      have hx0 := hN.lt (Nat.le_refl _) (show j < x by omega) (by omega)
      refine ⟨hnd x (by omega) (by omega), fun w hw => hv _ w (by omega) (by omega) hw, fun hx3 w hw => ?_⟩
      have := hN.lt (show j ≤ Bs p j k by omega) hx3 (by omega)
      exact hv _ w (by omega) (by omega) hw
theorem WC.ext {p p' : Mem} {nd : Nat → Nat} {sv : Nat → Nat → Int32} : ∀ (f d bn j be : Nat), Ch p nd sv f d bn j be → be ≤ 24 → PE p p' j be → WC p' f j be = WC p f j be ∧ (∀ f', f = f' + 1 → WI p' f' j = WI p f' j)
  | 0, _, _, _, _, h, _, _ => h.elim
  | f + 1, d, bn, j, be, h, hb, hp => by
    have hch := h
    have hjl := h.lt
    obtain ⟨m, nb, h1, h2, h3, h4, h5, h6⟩ := h
    have he : En p j = m := En_eq h3 (by omega)
    obtain ⟨p1, p2, p3, p4⟩ := hp j (Nat.le_refl _) hjl
    have hBs : ∀ k, Bs p' j k = Bs p j k := fun k => Bs_ext p3 (fun hk => p4 k hk)
    have he' : En p' j = m := by unfold En; rw [p3]; exact he
    have hbody : ¬ Lf (p 7 j) → ∀ k, k < 4 → p 15 (4 * j + k) ≠ -1 → WC p' f (Bs p j k) (Bs p j (k + 1)) = WC p f (Bs p j k) (Bs p j (k + 1)) := fun hl k hk hne => by
      obtain ⟨b1, b2, b3, b4, _⟩ := hch.body hb hk hne hl
      exact (WC.ext f _ _ _ _ b4 (by omega) (hp.sub (by omega) (by omega))).1
    have hI : WI p' f j = WI p f j := by
      unfold WI
      rw [p1]
      by_cases q4 : p 7 j = 4
      · have hl : ¬ Lf (p 7 j) := by rw [q4]; unfold Lf; decide
        obtain ⟨c1, c2⟩ := hch.choice q4
        rw [if_pos q4, if_pos q4, hBs, hBs, hBs, hbody hl 0 (by omega) (c1 0 (by omega)), hbody hl 1 (by omega) (c1 1 (by omega))]
      · rw [if_neg q4, if_neg q4]
        by_cases q5 : p 7 j = 5
        · have hl : ¬ Lf (p 7 j) := by rw [q5]; unfold Lf; decide
          rw [if_pos q5, if_pos q5]
          apply sm_same
          intro k hk
          show (if p' 15 (4 * j + k) ≠ -1 then WC p' f (Bs p' j k) (Bs p' j (k + 1)) else 0) = if p 15 (4 * j + k) ≠ -1 then WC p f (Bs p j k) (Bs p j (k + 1)) else 0
          rw [p4 k hk, hBs, hBs]
          by_cases z : p 15 (4 * j + k) ≠ -1
          · rw [if_pos z, if_pos z, hbody hl k hk z]
          · rw [if_neg z, if_neg z]
        · rw [if_neg q5, if_neg q5]
    refine ⟨?_, fun f' hf => by rw [show f' = f by omega]; exact hI⟩
    rw [WC_eq, WC_eq, hI, he, he']
    rcases h5 with ⟨r1, _⟩ | ⟨r1, r2, r3, r4⟩
    · rw [if_neg (by omega), if_neg (by omega)]
    · rw [if_pos r1, if_pos r1, (WC.ext f d bn m be r4 hb (hp.sub (by omega) (Nat.le_refl _))).1]
/-- both readers stand at the same sign, in bodies that lie equally deep, and have laid as much -/
def PS (t r p μ : Mem) (its nn d a len : Nat) : Prop := Sc t r μ a len ∧ p 6 11 = nI its ∧ its ≤ 24 ∧ μ 0 15 = nI its ∧ μ 0 14 = nI nn ∧ μ 0 16 = nI d ∧ (∃ dp : Nat, dp ≤ 4 ∧ p 6 13 = nI dp ∧ μ 0 17 = nI dp) ∧ p 6 12 = nI (sm its (fun x => if p 7 x = 0 then 1 else 0))
def PFr (its : Nat) (p p' : Mem) : Prop := (∀ c x, 7 ≤ c → c ≤ 14 → x < its → p' c x = p c x) ∧ (∀ x, x < 4 * its → p' 15 x = p 15 x) ∧ ∀ x, (x < 11 ∨ 14 ≤ x) → p' 6 x = p 6 x
def MFr (nn : Nat) (μ μ' : Mem) : Prop := (∀ c, c ≠ 0 → c ≠ 1 → μ' c = μ c) ∧ (∀ k, ¬ (12 ≤ k ∧ k ≤ 18) → μ' 0 k = μ 0 k) ∧ ∀ x, x < (1024 + nn) * 9 → μ' 1 x = μ 1 x
/-- both have found the text wrong -/
def BadO (its : Nat) (len : Nat) (r p μ r' p' μ' : Mem) : Prop := Bad r' μ' len ∧ (∀ x, (x < 11 ∨ 14 ≤ x) → p' 6 x = p 6 x) ∧ (∀ c, c ≠ 0 → c ≠ 1 → μ' c = μ c) ∧ (∀ k, ¬ (12 ≤ k ∧ k ≤ 18) → μ' 0 k = μ 0 k) ∧ ∀ x, x < 9216 → μ' 1 x = μ 1 x
/-- an item has been read -/
def ItO (d bn its nn len : Nat) (nd : Nat → Nat) (t r p μ : Mem) (X : Option (Int32 × Mem × Mem)) (M : Option (Bool × Mem)) : Prop :=
  (∃ (r' p' μ' : Mem) (m nn' a' w : Nat) (nd' : Nat → Nat), X = some (nI its, r', p') ∧ M = some (true, μ') ∧ PS t r' p' μ' m nn' d a' len ∧ its < m ∧ nn' ≤ 2 * m ∧ PFr its p p' ∧ MFr nn μ μ' ∧ (∀ x, x < its → nd' x = nd x) ∧ nd' its = nn ∧ NR nd' (SvR μ') its m nn nn' ∧ (∀ x, its ≤ x → x < m → SI p' nd' (SvR μ') x) ∧ SvR μ' nn 6 = -1 ∧ SvR μ' nn 8 = nI bn ∧ p' 13 its = -1 ∧ (∀ f, m ≤ its + 1 + f → ChI p' nd' (SvR μ') f d its m ∧ WI p' f its = w) ∧ w ≤ m - its ∧ r' 1 its = nI w ∧ ∀ x, x < its → r' 1 x = r 1 x) ∨
  (∃ r' p' μ', X = some (-1, r', p') ∧ M = some (false, μ') ∧ BadO its len r p μ r' p' μ')
