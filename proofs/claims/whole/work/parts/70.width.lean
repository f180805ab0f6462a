/-! the width of a version -/
def mxs : Nat → (Nat → Nat) → Nat
  | 0, _ => 0
  | n + 1, f => max (mxs n f) (f n)
section PB6
variable {μ p : Mem} {N D V its : Nat} {nd : Nat → Nat} {sv : Nat → Nat → Int32}
theorem part_ev {n w : Nat} : md_part (nI V) (nI n) (nI w) = some (nI ((64 * V + n) * 9 + w)) := by
  unfold md_part
  rw [show (64 : Int32) = nI 64 from rfl, show (9 : Int32) = nI 9 from rfl, pk_mul, nI_add, pk_mul, nI_add]
theorem kind_v {n : Nat} (hQ : ∀ n, n < 64 → ∀ w, w < 9 → μ 1 ((64 * V + n) * 9 + w) = sv n w) (hV : V < 16) (hn : n < 64) : md_kind μ (nI V) (nI n) = some (sv n 0) ∧ md_child μ (nI V) (nI n) = some (sv n 5) ∧ md_next μ (nI V) (nI n) = some (sv n 6) := by
  refine ⟨?_, ?_, ?_⟩
  · unfold md_kind
    rw [show (0 : Int32) = nI 0 from rfl, part_ev, Option.bind_some, rd_nI (by omega) (by decide), Option.bind_some, hQ n hn 0 (by decide)]
  · unfold md_child
    rw [show (5 : Int32) = nI 5 from rfl, part_ev, Option.bind_some, rd_nI (by omega) (by decide), Option.bind_some, hQ n hn 5 (by decide)]
  · unfold md_next
    rw [show (6 : Int32) = nI 6 from rfl, part_ev, Option.bind_some, rd_nI (by omega) (by decide), Option.bind_some, hQ n hn 6 (by decide)]
theorem max_if {a b : Nat} (ha : a ≤ 24) (hb : b ≤ 24) : (if nI a < nI b then nI b else nI a) = nI (max a b) := by
  by_cases q : a < b
  · rw [if_pos (nI_lt q (by omega)), Nat.max_eq_right (by omega)]
  · rw [if_neg (nI_nlt (by omega) (by omega)), Nat.max_eq_left (by omega)]
/-- the bodies of an item, one after the other -/
theorem bodies_w {kd : Int32} {nb : Nat} {w nodes : Nat → Nat} {B : Int32 → Int32 → Option Int32} (hQ : ∀ n, n < 64 → ∀ w, w < 9 → μ 1 ((64 * V + n) * 9 + w) = sv n w) (hV : V < 16) (hkd : kd = 5 ∨ kd = 6)
    (hb : ∀ k, k < nb → nodes k < 64 ∧ B (nI V) (nI (nodes k)) = some (nI (w k)) ∧ sv (nodes k) 6 = (if k + 1 < nb then nI (nodes (k + 1)) else -1)) (hm : ∀ k, k ≤ nb → mxs k w ≤ 24 ∧ (k < nb → w k ≤ 24)) :
    ∀ (s k n : Nat), k + s = nb → s < n → md_width_38 N μ B n (nI V) kd (nI (mxs k w)) (nI (sm k w)) (if k < nb then nI (nodes k) else -1) = some (if kd = 6 then nI (sm nb w) else nI (mxs nb w))
  | 0, k, n, hk, hn => by
    obtain ⟨n, rfl⟩ : ∃ x, n = x + 1 := ⟨n - 1, by omega⟩
    unfold md_width_38
    rw [if_neg (show ¬ k < nb by omega), if_pos (by decide), show k = nb by omega]
    rcases hkd with q | q
    · rw [q, if_neg (by decide), if_neg (by decide)]
    · rw [q, if_pos rfl, if_pos rfl]
  | s + 1, k, n, hk, hn => by
    obtain ⟨n, rfl⟩ : ∃ x, n = x + 1 := ⟨n - 1, by omega⟩
    obtain ⟨b1, b2, b3⟩ := hb k (by omega)
    have hr := bodies_w hQ hV hkd hb hm s (k + 1) n (by omega) (by omega)
    rw [if_pos (show k < nb by omega)]
    conv => lhs; unfold md_width_38
    rw [if_neg (nI_pos (by omega)), b2, Option.bind_some, (kind_v hQ hV b1).2.2, Option.bind_some, b3, max_if (hm k (by omega)).1 ((hm k (by omega)).2 (by omega)), nI_add]
    exact hr
theorem width_loop (hN : 40 ≤ N) (hQ : ∀ n, n < 64 → ∀ w, w < 9 → μ 1 ((64 * V + n) * 9 + w) = sv n w) (hV : V < 16) (hn : NdS nd its) (hS : ∀ j, j < its → SI p nd sv j) : ∀ (f d bn j be D : Nat), Ch p nd sv f d bn j be → be ≤ its → d ≤ 4 → 9 ≤ D + 2 * d → WC p f j be ≤ be - j ∧ ∀ (n W0 : Nat) (S : Int32), W0 ≤ 24 → be - j < n → md_width_38 N μ (kn_mwidth N μ D) n (nI V) 0 (nI W0) S (nI (nd j)) = some (nI (max W0 (WC p f j be)))
  | 0, _, _, _, _, _, h, _, _, _ => h.elim
  | f + 1, d, bn, j, be, D, h, hb, hd, hD => by
    have hch := h
    have hits := hn.2.1
    obtain ⟨m, nb, h1, h2, h3, h4, h5, h6⟩ := h
    have he : En p j = m := En_eq h3 (by omega)
    have hj : j < its := by omega
    have hj64 := hn.2.2.2.1 j hj
    obtain ⟨D, rfl⟩ : ∃ x, D = x + 1 := ⟨D - 1, by omega⟩
    obtain ⟨kv, cv, nv⟩ := kind_v (n := nd j) hQ hV hj64
    have item : WI p f j ≤ m - j ∧ kn_mwidth N μ (D + 1) (nI V) (nI (nd j)) = some (nI (WI p f j)) := by
      have hsi := hS j hj
      show _ ∧ md_width N μ (kn_mwidth N μ D) (nI V) (nI (nd j)) = _
      unfold md_width
      rw [kv, Option.bind_some]
      rcases h6 with ⟨r1, r2, r3⟩ | ⟨r1, r2, r3, r4, r5, r6⟩
      · have hwi : WI p f j = 1 := by
          unfold WI
          rw [if_neg (by rcases r1 with z | z | z | z <;> rw [z] <;> decide), if_neg (by rcases r1 with z | z | z | z <;> rw [z] <;> decide)]
        rw [hwi]
        refine ⟨by omega, ?_⟩
        obtain ⟨_, _, _, hk⟩ := hsi
        have hk0 : sv (nd j) 0 = 1 ∨ sv (nd j) 0 = 2 ∨ sv (nd j) 0 = 3 ∨ sv (nd j) 0 = 4 := by
          rcases hk with ⟨_, z, _⟩ | ⟨_, z, _⟩ | ⟨_, z, _⟩ | ⟨_, z, _⟩ | ⟨z0, _⟩ | ⟨z0, _⟩
          · exact Or.inl z
          · exact Or.inr (Or.inl z)
          · exact Or.inr (Or.inr (Or.inl z))
          · exact Or.inr (Or.inr (Or.inr z))
          · rcases r1 with y | y | y | y <;> rw [y] at z0 <;> exact absurd z0 (by decide)
          · rcases r1 with y | y | y | y <;> rw [y] at z0 <;> exact absurd z0 (by decide)
        rcases hk0 with z | z | z | z <;> rw [z] <;> rfl
      · have hnb : 1 ≤ nb ∧ nb ≤ 4 := by rcases r1 with w | w <;> omega
        have hend : Bs p j nb = m := by
          by_cases w : nb < 4
          · exact Bs_end h3 (by omega) (fun ⟨_, z⟩ => z (r5 nb (Nat.le_refl _) w))
          · exact Bs_end h3 (by omega) (fun ⟨z, _⟩ => w z)
        have hmono : ∀ k, k < nb → Bs p j k < Bs p j (k + 1) := fun k hk => (r6 k hk).2.2.2.2.2.2.lt
        have hle : ∀ k, k ≤ nb → Bs p j k ≤ m ∧ j + 1 ≤ Bs p j k := fun k hk => by
          have a1 := Bs_mono hmono (nb - k) k (by omega)
          rw [show k + (nb - k) = nb by omega, hend] at a1
          have a2 := Bs_mono hmono k 0 (by omega)
          rw [show 0 + k = k by omega, r4] at a2
          exact ⟨a1, a2⟩
        have hw : ∀ k, k < nb → WC p f (Bs p j k) (Bs p j (k + 1)) ≤ Bs p j (k + 1) - Bs p j k ∧ kn_mwidth N μ D (nI V) (nI (nd (Bs p j k) - 1)) = some (nI (WC p f (Bs p j k) (Bs p j (k + 1)))) := fun k hk => by
          obtain ⟨w1, w2, w3, w4, w5, w6, w7⟩ := r6 k hk
          obtain ⟨D, rfl⟩ : ∃ x, D = x + 1 := ⟨D - 1, by omega⟩
          have c1 := hle k (by omega)
          have c2 := hle (k + 1) (by omega)
          have c3 := hmono k hk
          have c4 := hn.2.2.2.1 (Bs p j k) (by omega)
          obtain ⟨l1, l2⟩ := width_loop hN hQ hV hn hS f (d + 1) _ _ _ D w7 (by omega) (by omega) (by omega)
          refine ⟨l1, ?_⟩
          obtain ⟨g1, g2, g3⟩ := kind_v (n := nd (Bs p j k) - 1) hQ hV (by omega)
          show md_width N μ (kn_mwidth N μ D) (nI V) (nI (nd (Bs p j k) - 1)) = _
          unfold md_width
          rw [g1, w3, Option.bind_some, if_pos rfl]
          unfold md_width_24
          rw [g2, w4, Option.bind_some]
          have := l2 N 0 0 (by omega) (by omega)
          rw [Nat.max_eq_right (Nat.zero_le _)] at this
          exact this
        have hmx : ∀ k, k ≤ nb → mxs k (fun k => WC p f (Bs p j k) (Bs p j (k + 1))) + (j + 1) ≤ Bs p j k := by
          intro k
          induction k with
          | zero => intro _; rw [r4]; show 0 + (j + 1) ≤ j + 1; omega
          | succ k ih =>
            intro hk
            have a1 := ih (by omega)
            have a2 := hmono k (by omega)
            have a3 := (hw k (by omega)).1
            have a4 := hle k (by omega)
            show max (mxs k (fun k => WC p f (Bs p j k) (Bs p j (k + 1)))) (WC p f (Bs p j k) (Bs p j (k + 1))) + (j + 1) ≤ Bs p j (k + 1)
            omega
        have hsm := sm_tel (b := Bs p j) (w := fun k => WC p f (Bs p j k) (Bs p j (k + 1))) r4 nb (fun i hi => ⟨hmono i hi, (hw i hi).1⟩)
        have hloop := fun (kd : Int32) (hkd : kd = 5 ∨ kd = 6) => bodies_w (N := N) (kd := kd) (nb := nb) (w := fun k => WC p f (Bs p j k) (Bs p j (k + 1))) (nodes := fun k => nd (Bs p j k) - 1) (B := kn_mwidth N μ D) hQ hV hkd (fun k hk => by
          have c1 := hle k (by omega)
          have c3 := hmono k hk
          have c5 := hle (k + 1) (by omega)
          have c4 := hn.2.2.2.1 (Bs p j k) (by omega)
          exact ⟨by show nd (Bs p j k) - 1 < 64; omega, (hw k hk).2, (r6 k hk).2.2.2.2.1⟩) (fun k hk => ⟨by have := hmx k hk; have := hle k hk; omega, fun hk2 => by
            have a3 := (hw k hk2).1
            have a4 := hle (k + 1) (by omega)
            show WC p f (Bs p j k) (Bs p j (k + 1)) ≤ 24
            omega⟩) nb 0 N (by omega) (by omega)
        obtain ⟨_, _, _, hk⟩ := hsi
        have hm1 := hmx nb (Nat.le_refl _)
        rw [hend] at hm1 hsm
        have h0n : ∀ (kd : Int32), md_width_24 N μ (kn_mwidth N μ D) (nI V) (nI (nd j)) kd = md_width_38 N μ (kn_mwidth N μ D) N (nI V) kd (nI (mxs 0 (fun k => WC p f (Bs p j k) (Bs p j (k + 1))))) (nI (sm 0 (fun k => WC p f (Bs p j k) (Bs p j (k + 1))))) (if 0 < nb then nI (nd (Bs p j 0) - 1) else -1) := fun kd => by
          unfold md_width_24
          rw [cv, r3, Option.bind_some, if_pos (by omega), r4]
          rfl
        rcases r1 with ⟨q1, q2⟩ | ⟨q1, q2, q3⟩
        · have hk0 : sv (nd j) 0 = 5 := by
            rcases hk with ⟨z, _⟩ | ⟨z, _⟩ | ⟨z, _⟩ | ⟨z, _⟩ | ⟨_, z, _⟩ | ⟨z, _⟩
            · rw [q1] at z; exact absurd z (by decide)
            · rw [q1] at z; exact absurd z (by decide)
            · rw [q1] at z; exact absurd z (by decide)
            · rw [q1] at z; exact absurd z (by decide)
            · exact z
            · rw [q1] at z; exact absurd z (by decide)
          have hwi : WI p f j = mxs nb (fun k => WC p f (Bs p j k) (Bs p j (k + 1))) := by
            unfold WI
            rw [if_pos q1, q2]
            show _ = max (max 0 (WC p f (Bs p j 0) (Bs p j (0 + 1)))) (WC p f (Bs p j 1) (Bs p j (1 + 1)))
            rw [Nat.max_eq_right (Nat.zero_le _)]
          rw [hwi, hk0, if_neg (by decide), if_pos rfl, h0n]
          exact ⟨by omega, hloop 5 (Or.inl rfl)⟩
        · have hk0 : sv (nd j) 0 = 6 := by
            rcases hk with ⟨z, _⟩ | ⟨z, _⟩ | ⟨z, _⟩ | ⟨z, _⟩ | ⟨z, _⟩ | ⟨_, z, _⟩
            · rw [q1] at z; exact absurd z (by decide)
            · rw [q1] at z; exact absurd z (by decide)
            · rw [q1] at z; exact absurd z (by decide)
            · rw [q1] at z; exact absurd z (by decide)
            · rw [q1] at z; exact absurd z (by decide)
            · exact z
          have hwi : WI p f j = sm nb (fun k => WC p f (Bs p j k) (Bs p j (k + 1))) := by
            unfold WI
            rw [if_neg (by rw [q1]; decide), if_pos q1]
            have ht : ∀ s, nb + s ≤ 4 → sm (nb + s) (fun k => if p 15 (4 * j + k) ≠ -1 then WC p f (Bs p j k) (Bs p j (k + 1)) else 0) = sm nb (fun k => if p 15 (4 * j + k) ≠ -1 then WC p f (Bs p j k) (Bs p j (k + 1)) else 0) := by
              intro s
              induction s with
              | zero => intro _; rfl
              | succ s ih =>
                intro hs
                show sm (nb + s) _ + (if p 15 (4 * j + (nb + s)) ≠ -1 then _ else 0) = _
                rw [ih (by omega), if_neg (fun z => z (r5 (nb + s) (by omega) (by omega)))]
                rfl
            have := ht (4 - nb) (by omega)
            rw [show nb + (4 - nb) = 4 by omega] at this
            rw [this]
            refine sm_same (fun k hk2 => ?_)
            show (if p 15 (4 * j + k) ≠ -1 then WC p f (Bs p j k) (Bs p j (k + 1)) else 0) = (WC p f (Bs p j k) (Bs p j (k + 1)))
            rw [if_pos (by rw [(r6 k hk2).1]; exact nI_m1 (by have := hle k (by omega); omega))]
          rw [hwi, hk0, if_neg (by decide), if_neg (by decide), if_pos rfl, h0n]
          exact ⟨by omega, hloop 6 (Or.inr rfl)⟩
    obtain ⟨i1, i2⟩ := item
    rcases h5 with ⟨r1, r2, r3⟩ | ⟨r1, r2, r3, r4⟩
    · have hwc : WC p (f + 1) j be = WI p f j := by
        rw [WC_eq, he, if_neg (by omega), Nat.max_eq_left (Nat.zero_le _)]
      rw [hwc]
      refine ⟨by omega, fun n W0 S hW hn2 => ?_⟩
      obtain ⟨n, rfl⟩ : ∃ x, n = x + 2 := ⟨n - 2, by omega⟩
      have hz : ∀ y4 y5, md_width_38 N μ (kn_mwidth N μ (D + 1)) (n + 1) (nI V) 0 y4 y5 (-1) = some y4 := fun y4 y5 => by
        unfold md_width_38
        rw [if_pos (by decide), if_neg (by decide)]
      conv => lhs; unfold md_width_38
      rw [if_neg (nI_pos (by omega)), i2, Option.bind_some, nv, r3, Option.bind_some, hz, max_if hW (by omega)]
    · obtain ⟨l1, l2⟩ := width_loop hN hQ hV hn hS f d bn m be (D + 1) r4 hb hd hD
      have hwc : WC p (f + 1) j be = max (WI p f j) (WC p f m be) := by
        rw [WC_eq, he, if_pos r1]
      rw [hwc]
      refine ⟨by omega, fun n W0 S hW hn2 => ?_⟩
      obtain ⟨n, rfl⟩ : ∃ x, n = x + 1 := ⟨n - 1, by omega⟩
      conv => lhs; unfold md_width_38
      rw [if_neg (nI_pos (by omega)), i2, Option.bind_some, nv, r3, Option.bind_some, max_if hW (by omega), l2 n (max W0 (WI p f j)) _ (by omega) (by omega), show max (max W0 (WI p f j)) (WC p f m be) = max W0 (max (WI p f j) (WC p f m be)) by omega]
end PB6
