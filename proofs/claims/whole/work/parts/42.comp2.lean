/-! the loop of a compensation -/
section RW
variable {p : Mem} {nd : Nat → Nat} {sv : Nat → Nat → Int32} {i V its rl B B' N : Nat} {o h e μ o' h' e' μ' : Mem}
def cn (o : Mem) : Nat := sm 24 (fun k => if o 18 k = 4 then 1 else 0)
theorem cn_le : cn o ≤ 24 := by
  have := sm_le (n := 24) (f := fun k => if o 18 k = 4 then 1 else 0) (g := fun _ => 1) (fun k _ => by
    show (if o 18 k = 4 then 1 else 0) ≤ 1
    by_cases q : o 18 k = 4
    · rw [if_pos q]; exact Nat.le_refl _
    · rw [if_neg q]; omega)
  rw [sm_const] at this
  exact this
theorem cn_same (h : o' 18 = o 18) : cn o' = cn o := by unfold cn; rw [h]
theorem cn_drop {t : Nat} (ht : t < 24) (h4 : o 18 t = 4) (h4' : o' 18 t ≠ 4) (h : ∀ k, k ≠ t → o' 18 k = o 18 k) : cn o' + 1 = cn o := by
  unfold cn
  have h1 := sm_upd (n := 24) (j := t) (f := fun k => if o 18 k = 4 then 1 else 0) (g := fun k => if o' 18 k = 4 then 1 else 0) ht (fun k _ hk => by
    show (if o' 18 k = 4 then 1 else 0) = if o 18 k = 4 then 1 else 0
    rw [h k hk])
  rw [if_pos h4, if_neg h4'] at h1
  omega
theorem cn_pos {t : Nat} (ht : t < 24) (h4 : o 18 t = 4) : 1 ≤ cn o := by
  have := sm_ge (n := 24) (j := t) (f := fun k => if o 18 k = 4 then 1 else 0) ht
  rw [if_pos h4] at this
  exact this
theorem wc_n {a : Nat} {t : Nat} (ha : a < 2 ^ 31) (ht : t < 2 ^ 31) : wc (nI a) (nI t) = 4 - a := by
  unfold wc
  rw [if_neg (nI_pos ht), nI_clamp ha]
theorem wc_m {a : Int32} : wc a (-1) = 5 := by unfold wc; rw [if_pos (by decide)]
theorem ttc_ev {n m cd : Nat} {μ1 : Mem} (hV : Vr i V sv μ) (hi : i < 6) (hn : n < 64) (hm : m < 64) (h7 : Fm μ i n 7 = nI m) (hcd : cd < 8) (h4 : sv m 4 = nI cd) (hnt : md_notes (nI i) 5 (nI cd) μ = some μ1) :
    md_triesToCompensate (nI i) (nI n) μ = some (up μ1 5 (643 + 1262 * i + 10 * n + 9) (μ1 5 0 + μ1 5 (1 + cd))) := by
  unfold md_triesToCompensate
  rw [at_7, Option.bind_some, rd_nI (by omega) (by decide), Option.bind_some, show μ 5 (643 + 1262 * i + 10 * n + 7) = nI m from h7, hV.np4 hi hm, Option.bind_some, h4, hnt, Option.bind_some, at_9, Option.bind_some, rd70, Option.bind_some, add1_nI, rd_nI (by omega) (by decide), Option.bind_some, ck_nI (by omega) (by decide), nI_clamp (by omega)]
/-- an attempt of a compensation begins -/
theorem att_sim {w n t cd f a c : Nat} {oo μμ : Mem} (H : R p nd sv i V its rl B o h e μ) (hB : B < 3700) (hi : i < 6) (hn : NdS nd its) (hs : SI p nd sv t) (hw : Own p nd its o w n) (ht : t < its) (hta : a ≤ t ∧ t < c) (h4 : o 18 t = 4) (htp : p 7 t = 0) (hcd : cd < 8) (h12 : p 12 t = nI cd) (hf : f ≤ 2)
    (ho1 : ∀ c' k, ¬ (k = w ∧ (c' = 23 ∨ c' = 24)) → oo c' k = o c' k) (ho2 : oo 24 w = nI t) (ho3 : oo 23 w = nI f)
    (hm0 : ∀ r, r ≠ 5 → μμ r = μ r) (hm1 : ∀ k, k ≠ 643 + 1262 * i + 10 * n + 7 → k ≠ 643 + 1262 * i + 10 * n + 8 → μμ 5 k = μ 5 k) (hm2 : Fm μμ i n 7 = nI (nd t)) (hm3 : Fm μμ i n 8 = nI f) (hwt : 1 + (4 - f) ≤ wc (o 23 w) (o 24 w)) :
    ∃ h' μ', hi_add rl e 5 (nI cd) h = some h' ∧ md_triesToCompensate (nI i) (nI n) μμ = some μ' ∧ R p nd sv i V its rl B (up oo 22 w (e 1 2 + e 2 cd)) h' e μ' ∧ RevX p nd i w n (up oo 22 w (e 1 2 + e 2 cd)) μ' a c ∧ CF nd its i w n a c o e μ (up oo 22 w (e 1 2 + e 2 cd)) e μ' := by
  obtain ⟨hw25, hn64⟩ := hw.w25 hn
  have ht64 := hn.l64 ht
  have hits := hn.2.1
  have htn : nd t ≠ n := by
    have := hn.pos ht
    rcases hw with ⟨_, z, _⟩ | ⟨z1, z2, z3, _⟩
    · omega
    · intro z
      have := hn.inj ht z1 (z.trans z2)
      subst this
      rw [z3] at htp; exact absurd htp (by decide)
  obtain ⟨tt, t1, t2, t3⟩ := H.t
  obtain ⟨d1, _, ⟨dd, d2, d3⟩, _⟩ := H.2.1.2.2 cd hcd
  obtain ⟨E, E1, E2⟩ := H.2.2.2.1
  have hE4 : E < 4000 := by unfold Pot at E2; omega
  obtain ⟨h', μ1, n1, n2, n3, n4⟩ := note_sim (kd := 5) (v := cd) (x1 := 5) (t := tt) (e := e) (μ := μμ) (x2 := nI cd) hi (by rw [hm1 0 (by omega) (by omega)]; exact H.2.1.1) t1 t2 (E1.fr (hm1 _ (by omega) (by omega)) (fun k _ _ => hm1 k (by omega) (by omega))) hE4 rfl (by decide) rfl hcd
  have hV : Vr i V sv μμ := H.1.fr (hm0 1 (by decide)) (hm0 3 (by decide)) (hm1 _ (by omega) (by omega)) (hm1 _ (by omega) (by omega))
  have eM : ∀ k, k ≠ 30 + 1262 * i → ¬ (43 + 1262 * i ≤ k ∧ k < 643 + 1262 * i) → k ≠ 643 + 1262 * i + 10 * n + 7 → k ≠ 643 + 1262 * i + 10 * n + 8 → μ1 5 k = μ 5 k := fun k q1 q2 q3 q4 => (n4.2 k q1 q2).trans (hm1 k q3 q4)
  have et : μ1 5 0 + μ1 5 (1 + cd) = nI (tt + dd) := by rw [eM 0 (by omega) (by omega) (by omega) (by omega), eM (1 + cd) (by omega) (by omega) (by omega) (by omega), t3, d1, d2, nI_add]
  have eu : e 1 2 + e 2 cd = nI (tt + dd) := by rw [t1, d2, nI_add]
  have hev := ttc_ev hV hi hn64 ht64 hm2 hcd (hs.2.1.trans h12) n2
  rw [et] at hev
  rw [eu]
  have ho' : ∀ c' k, ¬ (k = w ∧ (c' = 22 ∨ c' = 23 ∨ c' = 24)) → (up oo 22 w (nI (tt + dd))) c' k = o c' k := fun c' k q => by rw [up_other (by omega)]; exact ho1 c' k (by omega)
  have hm' : ∀ k, ¬ (643 + 1262 * i + 10 * n + 7 ≤ k ∧ k < 643 + 1262 * i + 10 * n + 10) → k ≠ 30 + 1262 * i → ¬ (43 + 1262 * i ≤ k ∧ k < 643 + 1262 * i) → (up μ1 5 (643 + 1262 * i + 10 * n + 9) (nI (tt + dd))) 5 k = μ 5 k := fun k q1 q2 q3 => by rw [up_in (by omega)]; exact eM k q2 q3 (by omega) (by omega)
  have f7 : Fm (up μ1 5 (643 + 1262 * i + 10 * n + 9) (nI (tt + dd))) i n 7 = nI (nd t) := by
    show up _ _ _ _ _ _ = _
    rw [up_in (by omega)]; exact (n4.2 _ (by omega) (by omega)).trans hm2
  have f8 : Fm (up μ1 5 (643 + 1262 * i + 10 * n + 9) (nI (tt + dd))) i n 8 = nI f := by
    show up _ _ _ _ _ _ = _
    rw [up_in (by omega)]; exact (n4.2 _ (by omega) (by omega)).trans hm3
  have f9 : Fm (up μ1 5 (643 + 1262 * i + 10 * n + 9) (nI (tt + dd))) i n 9 = nI (tt + dd) := up_at
  have e24 : (up oo 22 w (nI (tt + dd))) 24 w = nI t := by rw [up_other (by omega)]; exact ho2
  have e23 : (up oo 22 w (nI (tt + dd))) 23 w = nI f := by rw [up_other (by omega)]; exact ho3
  have htw : t ≠ w := fun q => by
    rcases hw with ⟨q1, _⟩ | ⟨q1, q2, q3, _⟩
    · omega
    · subst q; rw [q3] at htp; exact absurd htp (by decide)
  refine ⟨h', _, n1, hev, ?_, ?_, ?_⟩
  · refine H.comp (t := t) (E := E + 1) hi hn hw ht htp (fun c' k q => ho' c' k (by omega)) (fun r hr => by rw [up_row hr, n4.1 r hr, hm0 r hr]) (fun k q1 q2 q3 q4 q5 q6 => hm' k q1 q5 q6) ?_ ?_ (n3.fr (up_in (by omega)) (fun k _ _ => up_in (by omega))) ?_ (Or.inl ⟨ho' 18 t (by omega), hm' _ (by omega) (by omega) (by omega)⟩) (fun hwl => Or.inr ⟨by rw [e24]; exact nI_m1 (by omega), ⟨nd t, ht64, f7⟩, by rw [f9, up_at], ⟨tt + dd, by omega, up_at⟩⟩)
    · rw [hm' _ (by omega) (by omega) (by omega), ho' 0 7 (by omega)]; exact H.2.2.1.2.1
    · rw [hm' _ (by omega) (by omega) (by omega), ho' 0 8 (by omega)]; exact H.2.2.1.2.2.1
    · refine Nat.le_trans (Pot_comp (w := w) (n := n) (t := t) (E := E) hn hw ht htp (fun c' k q => ho' c' k (by omega)) ?_) E2
      rw [ho' 18 t (by omega), e23, e24, wc_n (by omega) (by omega)]
      omega
  · exact ⟨t, f, tt + dd, cd, hta.1, hta.2, e24, by rw [ho' 18 t (by omega)]; exact h4, htp, hcd, h12, f7, hf, e23, f8, by omega, up_at, f9⟩
  · exact CF.step (t := t) hi hn hw ht hta (fun c' k q => ho' c' k (by omega)) (fun _ _ => rfl) (fun r hr => by rw [up_row hr, n4.1 r hr, hm0 r hr]) (fun k q1 q2 q3 q4 q5 q6 _ => hm' k q1 q5 q6) (Or.inl (ho' 18 t (by omega))) htn
/-- a task is handled: compensated or stuck -/
theorem handle_sim {w n t a c kd q4 : Nat} {s x3 x4 : Int32} {oo μμ : Mem} (H : R p nd sv i V its rl B o h e μ) (hB : B < 3700) (hi : i < 6) (hn : NdS nd its) (hs : SI p nd sv t) (hw : Own p nd its o w n) (ht : t < its) (hta : a ≤ t ∧ t < c) (h4 : o 18 t = 4) (htp : p 7 t = 0)
    (hq : (x3 = 6 ∧ x4 = 7 ∧ s = 7 ∧ kd = 6 ∧ q4 = 7) ∨ (x3 = 7 ∧ x4 = 8 ∧ s = 8 ∧ kd = 7 ∧ q4 = 8))
    (ho1 : ∀ c' k, ¬ (k = w ∧ c' = 23) → oo c' k = o c' k) (hm0 : ∀ r, r ≠ 5 → μμ r = μ r) (hm1 : ∀ k, k ≠ 643 + 1262 * i + 10 * n + 8 → μμ 5 k = μ 5 k) (hm2 : Fm μ i n 7 = nI (nd t)) (hwt : 5 ≤ wc (o 23 w) (o 24 w) + 3) :
    ∃ c0 h' μ', c0 < 8 ∧ p 9 t = nI c0 ∧ hi_add rl e x3 (nI c0) h = some h' ∧ md_handles (nI i) (nI n) x3 x4 μμ = some μ' ∧ R p nd sv i V its rl B (up (up (up oo 18 t s) 0 q4 (o 0 q4 + 1)) 24 w (-1)) h' e μ' ∧ Fm μ' i n 7 = -1 ∧ CF nd its i w n a c o e μ (up (up (up oo 18 t s) 0 q4 (o 0 q4 + 1)) 24 w (-1)) e μ' := by
  obtain ⟨hw25, hn64⟩ := hw.w25 hn
  have ht64 := hn.l64 ht
  have hits := hn.2.1
  have htn : nd t ≠ n := by
    have := hn.pos ht
    rcases hw with ⟨_, z, _⟩ | ⟨z1, z2, z3, _⟩
    · omega
    · intro z
      have := hn.inj ht z1 (z.trans z2)
      subst this
      rw [z3] at htp; exact absurd htp (by decide)
  have htw : t ≠ w := fun q => by
    rcases hw with ⟨q1, _⟩ | ⟨q1, q2, q3, _⟩
    · omega
    · subst q; rw [q3] at htp; exact absurd htp (by decide)
  obtain ⟨_, ⟨c0, hc0, c1, c2⟩, _⟩ := hs.k0 htp
  obtain ⟨tt, t1, t2, t3⟩ := H.t
  obtain ⟨E, E1, E2⟩ := H.2.2.2.1
  have hE4 : E < 4000 := by unfold Pot at E2; omega
  have hq4 : q4 = 7 ∨ q4 = 8 := by rcases hq with z | z <;> omega
  have hx3 : x3 = nI kd ∧ kd < 16 := by
    rcases hq with ⟨z1, _, _, z4, _⟩ | ⟨z1, _, _, z4, _⟩
    · rw [z1, z4]; exact ⟨rfl, by decide⟩
    · rw [z1, z4]; exact ⟨rfl, by decide⟩
  have hs78 : s = 7 ∨ s = 8 := by
    rcases hq with z | z
    · exact Or.inl z.2.2.1
    · exact Or.inr z.2.2.1
  have hx30 : x3 ≠ 0 := by
    rcases hq with z | z <;> rw [z.1] <;> decide
  have hof : md_of (nI i) x4 = some (nI (21 + 1262 * i + q4)) := by
    rcases hq with ⟨_, z2, _, _, z5⟩ | ⟨_, z2, _, _, z5⟩
    · rw [z2, z5]; exact of_7 i
    · rw [z2, z5]; exact of_8 i
  obtain ⟨h', μ1, n1, n2, n3, n4⟩ := note_sim (kd := kd) (v := c0) (x1 := x3) (t := tt) (e := e) (μ := μμ) (x2 := nI c0) hi (by rw [hm1 0 (by omega)]; exact H.2.1.1) t1 t2 (E1.fr (hm1 _ (by omega)) (fun k _ _ => hm1 k (by omega))) hE4 hx3.1 hx3.2 rfl hc0
  have hV : Vr i V sv μμ := H.1.fr (hm0 1 (by decide)) (hm0 3 (by decide)) (hm1 _ (by omega)) (hm1 _ (by omega))
  have eM : ∀ k, k ≠ 30 + 1262 * i → ¬ (43 + 1262 * i ≤ k ∧ k < 643 + 1262 * i) → k ≠ 643 + 1262 * i + 10 * n + 8 → μ1 5 k = μ 5 k := fun k q1 q2 q3 => (n4.2 k q1 q2).trans (hm1 k q3)
  have g4 : μ1 5 (21 + 1262 * i + q4) = o 0 q4 := by
    rw [eM _ (by omega) (by omega) (by omega)]
    rcases hq4 with z | z <;> subst z
    · exact H.2.2.1.2.1
    · exact H.2.2.1.2.2.1
  have hev : md_handles (nI i) (nI n) x3 x4 μμ = some (up (up (up μ1 5 (643 + 1262 * i + 10 * nd t + 6) x3) 5 (21 + 1262 * i + q4) (o 0 q4 + 1)) 5 (643 + 1262 * i + 10 * n + 7) (-1)) := by
    unfold md_handles
    rw [at_7, Option.bind_some, rd_nI (by omega) (by decide), Option.bind_some, show μμ 5 (643 + 1262 * i + 10 * n + 7) = nI (nd t) from (hm1 _ (by omega)).trans hm2, hV.np1 hi ht64, Option.bind_some, c2, n2, Option.bind_some, at_6, Option.bind_some, ck_nI (by omega) (by decide), hof, Option.bind_some, rd_nI (by omega) (by decide), Option.bind_some, ck_nI (by omega) (by decide), Option.bind_some, ck_nI (by omega) (by decide), nI_clamp (by omega), nI_clamp (by omega), nI_clamp (by omega), up_in (by omega), g4]
  have ho' : ∀ c' k, ¬ ((c' = 18 ∧ k = t) ∨ (c' = 0 ∧ (k = 7 ∨ k = 8)) ∨ (k = w ∧ (c' = 22 ∨ c' = 23 ∨ c' = 24))) → (up (up (up oo 18 t s) 0 q4 (o 0 q4 + 1)) 24 w (-1)) c' k = o c' k := fun c' k q => by rw [up_other (by omega), up_other (by omega), up_other (by omega)]; exact ho1 c' k (by omega)
  have hm' : ∀ k, ¬ (643 + 1262 * i + 10 * n + 7 ≤ k ∧ k < 643 + 1262 * i + 10 * n + 10) → k ≠ 643 + 1262 * i + 10 * nd t + 6 → k ≠ 21 + 1262 * i + 7 → k ≠ 21 + 1262 * i + 8 → k ≠ 30 + 1262 * i → ¬ (43 + 1262 * i ≤ k ∧ k < 643 + 1262 * i) → (up (up (up μ1 5 (643 + 1262 * i + 10 * nd t + 6) x3) 5 (21 + 1262 * i + q4) (o 0 q4 + 1)) 5 (643 + 1262 * i + 10 * n + 7) (-1)) 5 k = μ 5 k := fun k q1 q2 q3 q4' q5 q6 => by rw [up_in (by omega), up_in (by omega), up_in (by omega)]; exact eM k q5 q6 (by omega)
  have e18 : (up (up (up oo 18 t s) 0 q4 (o 0 q4 + 1)) 24 w (-1)) 18 t = s := by rw [up_other (by omega), up_other (by omega), up_at]
  have e24 : (up (up (up oo 18 t s) 0 q4 (o 0 q4 + 1)) 24 w (-1)) 24 w = -1 := up_at
  have f6 : Fm (up (up (up μ1 5 (643 + 1262 * i + 10 * nd t + 6) x3) 5 (21 + 1262 * i + q4) (o 0 q4 + 1)) 5 (643 + 1262 * i + 10 * n + 7) (-1)) i (nd t) 6 = x3 := by
    show up _ _ _ _ _ _ = _
    rw [up_in (by omega), up_in (by omega), up_at]
  have f7 : Fm (up (up (up μ1 5 (643 + 1262 * i + 10 * nd t + 6) x3) 5 (21 + 1262 * i + q4) (o 0 q4 + 1)) 5 (643 + 1262 * i + 10 * n + 7) (-1)) i n 7 = -1 := up_at
  have hrr : ∀ r, r ≠ 5 → (up (up (up μ1 5 (643 + 1262 * i + 10 * nd t + 6) x3) 5 (21 + 1262 * i + q4) (o 0 q4 + 1)) 5 (643 + 1262 * i + 10 * n + 7) (-1)) r = μ r := fun r hr => by rw [up_row hr, up_row hr, up_row hr, n4.1 r hr, hm0 r hr]
  refine ⟨c0, h', _, hc0, c1, n1, hev, ?_, f7, ?_⟩
  · refine H.comp (t := t) (E := E + 1) hi hn hw ht htp ho' hrr hm' ?_ ?_ (n3.fr (by rw [up_in (by omega), up_in (by omega), up_in (by omega)]) (fun k _ _ => by rw [up_in (by omega), up_in (by omega), up_in (by omega)])) ?_ (Or.inr ⟨h4, by rw [e18]; exact hs78, by rw [f6]; exact hx30⟩) (fun _ => Or.inl ⟨e24, f7⟩)
    · rcases hq4 with z | z <;> subst z
      · rw [up_in (by omega), up_at, up_other (by omega), up_at]
      · rw [up_in (by omega), up_in (by omega), up_in (by omega), eM _ (by omega) (by omega) (by omega), up_other (by omega), up_other (by omega), up_other (by omega), ho1 0 7 (by omega)]; exact H.2.2.1.2.1
    · rcases hq4 with z | z <;> subst z
      · rw [up_in (by omega), up_in (by omega), up_in (by omega), eM _ (by omega) (by omega) (by omega), up_other (by omega), up_other (by omega), up_other (by omega), ho1 0 8 (by omega)]; exact H.2.2.1.2.2.1
      · rw [up_in (by omega), up_at, up_other (by omega), up_at]
    · refine Nat.le_trans (Pot_comp (w := w) (n := n) (t := t) (E := E) hn hw ht htp ho' ?_) E2
      rw [e18, e24, wc_m, h4, wt4]
      have : wt s (o 23 t) (o 24 t) = 0 := by
        rcases hs78 with z | z <;> rw [z] <;> unfold wt <;> rw [if_neg (by decide), if_neg (by decide), if_neg (by decide), if_neg (by decide), if_neg (by decide)]
      omega
  · exact CF.step (t := t) hi hn hw ht hta ho' (fun _ _ => rfl) hrr (fun k q1 q2 q3 q4' q5 q6 _ => hm' k q1 q2 q3 q4' q5 q6) (Or.inr ⟨h4, by rw [e18]; exact hs78⟩) htn
theorem Own.cf {w n a c : Nat} {o0 e0 μ0 : Mem} (h : Own p nd its o0 w n) (g : CF nd its i w n a c o0 e0 μ0 o e μ) (hwa : ¬ (a ≤ w ∧ w < c)) : Own p nd its o w n := by
  rcases h with ⟨q1, q2, q3⟩ | ⟨q1, q2, q3, q4⟩
  · exact Or.inl ⟨q1, q2, by rw [g.1 0 3 (by omega)]; exact q3⟩
  · exact Or.inr ⟨q1, q2, q3, by rw [g.1 18 w (by omega)]; exact q4⟩
/-- what a compensation comes to -/
def CRes (p : Mem) (nd : Nat → Nat) (sv : Nat → Nat → Int32) (i V its rl B w n a c : Nat) (o0 e0 μ0 : Mem) (b : Bool) (o' h' e' μ' : Mem) : Prop :=
  R p nd sv i V its rl B o' h' e' μ' ∧ CF nd its i w n a c o0 e0 μ0 o' e' μ' ∧ ((b = true ∧ o' 24 w = -1 ∧ Fm μ' i n 7 = -1) ∨ (b = false ∧ RevX p nd i w n o' μ' a c ∧ e' 1 2 < o' 22 w))
theorem comp_loop {w n a c : Nat} {con : Nat → Bool} {o0 e0 μ0 : Mem} (hN : 100 ≤ N) (hB : B < 3700) (hi : i < 6) (hS : ST p nd sv its) (hw : Own p nd its o0 w n) (hwa : ¬ (a ≤ w ∧ w < c)) (hc : c ≤ its) (hcon : ∀ t, con t = true → a ≤ t ∧ t < c)
    (hC : ∀ o e μ, CF nd its i w n a c o0 e0 μ0 o e μ → Vr i V sv μ → ∀ t, t < its → in_concerns N p o (nI w) (nI t) = some (con t) ∧ md_isFor N μ (nI i) (nI (nd t)) (nI n) = some (con t)) :
    ∀ m : Nat, (∀ (nx nm y : Nat) (o h e μ : Mem), R p nd sv i V its rl B o h e μ → CF nd its i w n a c o0 e0 μ0 o e μ → RevX p nd i w n o μ a c → (∀ f, o 23 w = nI f → f ≤ 2 → 3 * cn o ≤ m + f) → y + m ≤ 73 → m < nx → m + 1 < nm →
        ∃ b o' h' e' μ', in_reversesAll_2 N rl p nx (nI w) (nI y) o h e = some (b, o', h', e') ∧ md_compensates_60 N (md_compensates_0 N nm) (nI i) (nI n) μ = some (b, μ') ∧ CRes p nd sv i V its rl B w n a c o0 e0 μ0 b o' h' e' μ') ∧
      (∀ (nx nm y : Nat) (o h e μ : Mem), R p nd sv i V its rl B o h e μ → CF nd its i w n a c o0 e0 μ0 o e μ → o 24 w = -1 → Fm μ i n 7 = -1 → 3 * cn o ≤ m → y + 1 + m ≤ 73 → m < nx → m + 2 < nm →
        ∃ b o' h' e' μ', in_reversesAll_46 N rl p (in_reversesAll_2 N rl p nx) (nI w) (nI y) o h e = some (b, o', h', e') ∧ md_compensates_0 N nm (nI i) (nI n) μ = some (b, μ') ∧ CRes p nd sv i V its rl B w n a c o0 e0 μ0 b o' h' e' μ') := by
  have hn := hS.1
  have hits := hn.2.1
  obtain ⟨hw25, hn64⟩ := hw.w25 hn
  -- the part 'free' follows from the part 'on' of the same m
  have free : ∀ m : Nat, (∀ (nx nm y : Nat) (o h e μ : Mem), R p nd sv i V its rl B o h e μ → CF nd its i w n a c o0 e0 μ0 o e μ → RevX p nd i w n o μ a c → (∀ f, o 23 w = nI f → f ≤ 2 → 3 * cn o ≤ m + f) → y + m ≤ 73 → m < nx → m + 1 < nm →
        ∃ b o' h' e' μ', in_reversesAll_2 N rl p nx (nI w) (nI y) o h e = some (b, o', h', e') ∧ md_compensates_60 N (md_compensates_0 N nm) (nI i) (nI n) μ = some (b, μ') ∧ CRes p nd sv i V its rl B w n a c o0 e0 μ0 b o' h' e' μ') →
      (∀ (nx nm y : Nat) (o h e μ : Mem), R p nd sv i V its rl B o h e μ → CF nd its i w n a c o0 e0 μ0 o e μ → o 24 w = -1 → Fm μ i n 7 = -1 → 3 * cn o ≤ m → y + 1 + m ≤ 73 → m < nx → m + 2 < nm →
        ∃ b o' h' e' μ', in_reversesAll_46 N rl p (in_reversesAll_2 N rl p nx) (nI w) (nI y) o h e = some (b, o', h', e') ∧ md_compensates_0 N nm (nI i) (nI n) μ = some (b, μ') ∧ CRes p nd sv i V its rl B w n a c o0 e0 μ0 b o' h' e' μ') := by
    intro m On nx nm y o h e μ H hcf h24 h7 hcn hy hnx hnm
    have hwo := hw.cf hcf hwa
    have hcc := hC o e μ hcf H.1
    obtain ⟨nm, rfl⟩ : ∃ k, nm = k + 1 := ⟨nm - 1, by omega⟩
    have hM0 : md_compensates_0 N (nm + 1) (nI i) (nI n) μ = (md_nextToCompensate N μ (nI i) (nI n)).bind fun k18 => if k18 < 0 then some (true, μ) else (md_triesToCompensate (nI i) (nI n) (up (up μ 5 (643 + 1262 * i + 10 * n + 7) k18) 5 (643 + 1262 * i + 10 * n + 8) 0)).bind fun μ57 => md_compensates_60 N (md_compensates_0 N nm) (nI i) (nI n) μ57 := by
      conv => lhs; unfold md_compensates_0
      rw [at_7, Option.bind_some, rd_nI (by omega) (by decide), Option.bind_some, show μ 5 (643 + 1262 * i + 10 * n + 7) = -1 from h7, if_pos (by decide)]
      congr 1
      funext k18
      by_cases q : k18 < 0
      · rw [if_pos q, if_pos q]
      · rw [if_neg q, if_neg q, Option.bind_some, ck_nI (by omega) (by decide), at_8, Option.bind_some, ck_nI (by omega) (by decide), nI_clamp (by omega), nI_clamp (by omega)]
    have hX0 : in_reversesAll_46 N rl p (in_reversesAll_2 N rl p nx) (nI w) (nI y) o h e = (in_lastToReverse N p o (nI w)).bind fun k62 => in_reversesAll_73 N rl p (in_reversesAll_2 N rl p nx) (nI w) (nI y) (up (up o 24 w k62) 23 w 0) h e := by
      unfold in_reversesAll_46
      rw [rd_nI (by omega) (by decide), Option.bind_some, h24, if_pos (by decide)]
      congr 1
      funext k62
      rw [ck_nI (by omega) (by decide), ck_nI (by omega) (by decide), nI_clamp (by omega)]
    rcases pick_sim (con := con) (w := w) (w' := n) (by omega) hS H hi (fun t ht => (hcc t ht).1) (fun t ht => (hcc t ht).2) with ⟨x1, x2⟩ | ⟨j, hj, hjp, hel, x1, x2⟩
    · -- none is left
      have eo : (up (up o 24 w (-1)) 23 w 0) = up o 23 w 0 := by rw [up_self h24]
      refine ⟨true, up o 23 w 0, h, e, μ, ?_, ?_, ?_, ?_, Or.inl ⟨rfl, by rw [up_other (by omega)]; exact h24, h7⟩⟩
      · rw [hX0, x1, Option.bind_some, eo]
        unfold in_reversesAll_73
        rw [rd_nI (by omega) (by decide), Option.bind_some, up_other (by omega), h24, ins24m, Option.bind_some, if_neg (by decide)]
      · rw [hM0, x2, Option.bind_some, if_pos (by decide)]
      · have hirw : w < its → (up o 23 w 0) 24 w = -1 ∧ Fm μ i n 7 = -1 := fun _ => ⟨by rw [up_other (by omega)]; exact h24, h7⟩
        obtain ⟨E, E1, E2⟩ := H.2.2.2.1
        -- a task is wanted for the row 'comp': none changes; take any item that is one, or none at all
        refine ⟨H.1, H.2.1, H.2.2.1.fr (fun _ _ _ => up_other (by omega)) (up_row (by decide)) (up_row (by decide)) (fun _ _ _ _ => rfl), ⟨E, E1, ?_⟩, H.2.2.2.2.1.fr (up_other (by omega)) (fun _ _ => up_other (by omega)) (fun k _ _ => by rw [up_other (by omega)]) (fun _ _ _ _ => rfl), fun k hk => ?_, fun k q1 q2 => by rw [up_other (by omega)]; exact H.2.2.2.2.2.2.1 k q1 q2, H.2.2.2.2.2.2.2⟩
        · refine Nat.le_trans ?_ E2
          unfold Pot
          rcases hwo with ⟨z1, z2, z3⟩ | ⟨z1, z2, z3, z4⟩
          · subst z1
            rw [sm_same (f := fun j => wt (o 18 j) (o 23 j) (o 24 j)) (fun k hk => by
              show wt ((up o 23 24 0) 18 k) ((up o 23 24 0) 23 k) ((up o 23 24 0) 24 k) = _
              rw [up_other (by omega), up_other (by omega), up_other (by omega)])]
            rw [up_other (by omega), up_other (c' := 24) (by omega), h24, z3]
            exact Nat.le_refl _
          · have h1 := sm_upd (n := 24) (j := w) (f := fun j => wt (o 18 j) (o 23 j) (o 24 j)) (g := fun j => wt ((up o 23 w 0) 18 j) ((up o 23 w 0) 23 j) ((up o 23 w 0) 24 j)) (by omega) (fun k hk hkw => by
              show wt ((up o 23 w 0) 18 k) ((up o 23 w 0) 23 k) ((up o 23 w 0) 24 k) = wt (o 18 k) (o 23 k) (o 24 k)
              rw [up_other (by omega), up_other (by omega), up_other (by omega)])
            have e1 : wt ((up o 23 w 0) 18 w) ((up o 23 w 0) 23 w) ((up o 23 w 0) 24 w) = 5 := by rw [up_other (by omega), up_other (c' := 24) (by omega), z4, h24]; rfl
            have e2 : wt (o 18 w) (o 23 w) (o 24 w) = 5 := by rw [z4, h24]; rfl
            rw [e1, e2] at h1
            rw [up_other (c' := 0) (by omega), up_other (c' := 23) (i' := 24) (by omega), up_other (c' := 24) (by omega)]
            omega
        · by_cases q : k = w
          · subst q
            have z := hwo
            rcases z with ⟨z1, _⟩ | ⟨z1, z2, z3, z4⟩
            · omega
            · have := H.2.2.2.2.2.1 k hk
              unfold IR at this ⊢
              rw [up_other (by omega), up_other (c' := 22) (by omega), up_other (c' := 24) (by omega)]
              obtain ⟨r1, r2, r3, r4, r5, r6, r7, r8, r9, r10, r11, r12, r13, r14, r15⟩ := this
              exact ⟨r1, r2, r3, r4, r5, r6, fun _ q => absurd (z4.symm.trans q) (by decide), fun _ q => absurd (z4.symm.trans q) (by decide), r9, r10, r11, r12, r13, r14, fun _ q => absurd (z4.symm.trans q) (by decide)⟩
          · exact (H.2.2.2.2.2.1 k hk).fr (up_other (by omega)) (up_other (by omega)) (up_other (by omega)) (up_other (by omega)) (fun _ _ => rfl)
      · refine hcf.trans ⟨fun c' k hk => up_other (by omega), fun k => Or.inl (up_other (by omega)), fun _ _ => rfl, fun _ _ => rfl, fun _ _ _ => rfl, fun _ _ _ _ _ _ => rfl, fun _ _ _ _ _ _ => rfl, fun _ _ => rfl⟩
    · have hsj := hS.2.1 j hj
      have hj64 := hn.l64 hj
      obtain ⟨hel1, hel2, hel3⟩ := hel
      rcases hsj.2.2.1 with z | ⟨cd, hcd, h12⟩
      · exact absurd z hel2
      · obtain ⟨h', μ', a1, a2, a3, a4, a5⟩ := att_sim (f := 0) (a := a) (c := c) (oo := up (up o 24 w (nI j)) 23 w 0) (μμ := up (up μ 5 (643 + 1262 * i + 10 * n + 7) (nI (nd j))) 5 (643 + 1262 * i + 10 * n + 8) 0) H hB hi hn hsj hwo hj (hcon j hel3) hel1 hjp hcd h12 (by omega)
          (fun c' k q => by rw [up_other (by omega), up_other (by omega)]) (by rw [up_other (by omega), up_at]) up_at (fun r hr => by rw [up_row hr, up_row hr]) (fun k q1 q2 => by rw [up_in q2, up_in q1]) (by show up _ _ _ _ _ _ = _; rw [up_in (by omega), up_at]) (by show up _ _ _ _ _ _ = _; rw [up_at]; rfl) (by rw [h24, wc_m]; omega)
        obtain ⟨b, o2, h2, e2, μ2, y1, y2, y3⟩ := On nx nm (y + 1) _ _ _ _ a3 (hcf.trans a5) a4 (fun f q1 q2 => by
          rw [cn_same (o := o) (by rw [up_row (by decide), up_row (by decide), up_row (by decide)])]
          omega) (by omega) hnx (by omega)
        refine ⟨b, o2, h2, e2, μ2, ?_, ?_, y3⟩
        · rw [hX0, x1, Option.bind_some]
          unfold in_reversesAll_73
          rw [rd_nI (by omega) (by decide), Option.bind_some, up_other (by omega), up_at, ins24 (by omega), Option.bind_some, if_pos rfl, rd_nI (by omega) (by decide), Option.bind_some, h12, ends_eval hcd, Option.bind_some, ck_nI (by omega) (by decide), Option.bind_some, a1, Option.bind_some, nI_clamp (by omega), nI_1]
          exact y1
        · rw [hM0, x2, Option.bind_some, if_neg (nI_pos (by omega)), a2, Option.bind_some]
          exact y2
  intro m
  induction m with
  | zero =>
    have On0 : ∀ (nx nm y : Nat) (o h e μ : Mem), R p nd sv i V its rl B o h e μ → CF nd its i w n a c o0 e0 μ0 o e μ → RevX p nd i w n o μ a c → (∀ f, o 23 w = nI f → f ≤ 2 → 3 * cn o ≤ 0 + f) → y + 0 ≤ 73 → 0 < nx → 0 + 1 < nm → ∃ b o' h' e' μ', in_reversesAll_2 N rl p nx (nI w) (nI y) o h e = some (b, o', h', e') ∧ md_compensates_60 N (md_compensates_0 N nm) (nI i) (nI n) μ = some (b, μ') ∧ CRes p nd sv i V its rl B w n a c o0 e0 μ0 b o' h' e' μ' := by
      intro nx nm y o h e μ H hcf hrx hf
      obtain ⟨t, f, u, cd, q1, q2, q3, q4, q5, q6, q7, q8, q9, q10, _⟩ := hrx
      have := hf f q10 q9
      have := cn_pos (o := o) (t := t) (by omega) q4
      omega
    exact ⟨On0, free 0 On0⟩
  | succ m ih =>
    obtain ⟨ihOn, ihFr⟩ := ih
    have On1 : ∀ (nx nm y : Nat) (o h e μ : Mem), R p nd sv i V its rl B o h e μ → CF nd its i w n a c o0 e0 μ0 o e μ → RevX p nd i w n o μ a c → (∀ f, o 23 w = nI f → f ≤ 2 → 3 * cn o ≤ (m + 1) + f) → y + (m + 1) ≤ 73 → m + 1 < nx → (m + 1) + 1 < nm → ∃ b o' h' e' μ', in_reversesAll_2 N rl p nx (nI w) (nI y) o h e = some (b, o', h', e') ∧ md_compensates_60 N (md_compensates_0 N nm) (nI i) (nI n) μ = some (b, μ') ∧ CRes p nd sv i V its rl B w n a c o0 e0 μ0 b o' h' e' μ' := by
      intro nx nm y o h e μ H hcf hrx hf hy hnx hnm
      have hwo := hw.cf hcf hwa
      have hrx0 := hrx
      obtain ⟨t, f, u, cd, q1, q2, q3, q4, q5, q6, q7, q8, q9, q10, q11, q12, q13, q14⟩ := hrx
      have hcn := hf f q10 q9
      have ht : t < its := by omega
      have hst := hS.2.1 t ht
      have ht64 := hn.l64 ht
      obtain ⟨nx, rfl⟩ : ∃ k, nx = k + 1 := ⟨nx - 1, by omega⟩
      by_cases qt : e 1 2 < o 22 w
      · refine ⟨false, o, h, e, μ, ?_, ?_, H, hcf, Or.inr ⟨rfl, hrx0, qt⟩⟩
        · unfold in_reversesAll_2
          rw [if_neg (show ¬ 72 < nI y from nI_nlt (a := 72) (by omega) (by decide)), rd_nI (by omega) (by decide), Option.bind_some, q3, if_neg (nI_pos (by omega)), rd_nI (by omega) (by decide), Option.bind_some, if_pos qt]
        · unfold md_compensates_60
          rw [at_9, Option.bind_some, rd_nI (by omega) (by decide), Option.bind_some, rd70, Option.bind_some, H.2.1.1, show μ 5 (643 + 1262 * i + 10 * n + 9) = o 22 w from q14.trans q13.symm, if_pos qt]
      · obtain ⟨b, e1, μ1, b1, b2, b3, b4, b5⟩ := H.fails q6
        have hcf1 : CF nd its i w n a c o e μ o e1 μ1 := ⟨fun _ _ _ => rfl, fun _ => Or.inl rfl, (b5 0 0 0).2.1, (b5 0 0 0).2.2.1, (b5 0 0 0).2.2.2.1, fun j hj _ _ x hx => b4 _ (by omega), fun bb hb _ _ x hx => b4 _ (by omega), fun x hx => b4 _ (by omega)⟩
        have g7 : Fm μ1 i n 7 = nI (nd t) := (b4 _ (by omega)).trans q8
        have hX : in_reversesAll_2 N rl p (nx + 1) (nI w) (nI y) o h e = (in_endReversal rl p (nI w) (nI t) o h e).bind fun (o43, h43, e43) => in_reversesAll_46 N rl p (in_reversesAll_2 N rl p nx) (nI w) (nI y) o43 h43 e43 := by
          conv => lhs; unfold in_reversesAll_2
          rw [if_neg (show ¬ 72 < nI y from nI_nlt (a := 72) (by omega) (by decide)), rd_nI (by omega) (by decide), Option.bind_some, q3, if_neg (nI_pos (by omega)), rd_nI (by omega) (by decide), Option.bind_some, if_neg qt, Option.bind_some]
        have hM : md_compensates_60 N (md_compensates_0 N nm) (nI i) (nI n) μ = if (!b) = true then
            (if nI f + 1 = 3 then (md_handles (nI i) (nI n) 7 8 (up μ1 5 (643 + 1262 * i + 10 * n + 8) (nI (f + 1)))).bind fun μ160 => md_compensates_0 N nm (nI i) (nI n) μ160
             else (md_triesToCompensate (nI i) (nI n) (up μ1 5 (643 + 1262 * i + 10 * n + 8) (nI (f + 1)))).bind fun μ169 => md_compensates_0 N nm (nI i) (nI n) μ169)
          else (md_handles (nI i) (nI n) 6 7 μ1).bind fun μ115 => md_compensates_0 N nm (nI i) (nI n) μ115 := by
          unfold md_compensates_60
          rw [at_9, Option.bind_some, rd_nI (by omega) (by decide), Option.bind_some, rd70, Option.bind_some, H.2.1.1, show μ 5 (643 + 1262 * i + 10 * n + 9) = o 22 w from q14.trans q13.symm, if_neg qt, at_7, Option.bind_some, rd_nI (by omega) (by decide), Option.bind_some, show μ 5 (643 + 1262 * i + 10 * n + 7) = nI (nd t) from q8, H.1.np4 hi ht64, Option.bind_some, hst.2.1, q7, b2, Option.bind_some]
          cases b with
          | true => rfl
          | false =>
            dsimp only
            rw [if_pos (by decide), if_pos (by decide), at_8, Option.bind_some, rd_nI (by omega) (by decide), Option.bind_some, ck_nI (by omega) (by decide), Option.bind_some, nI_clamp (by omega), show μ1 5 (643 + 1262 * i + 10 * n + 8) = nI f from (b4 _ (by omega)).trans q11, rd_nI (by omega) (by decide), Option.bind_some, up_at, nI_1]
        cases b with
        | true =>
          obtain ⟨c0, h', μ', s1, s2, s3, s4, s5, s6, s7⟩ := handle_sim (a := a) (c := c) (x3 := 6) (x4 := 7) (s := 7) (kd := 6) (q4 := 7) (oo := o) (μμ := μ1) b3 hB hi hn hst hwo ht ⟨q1, q2⟩ q4 q5 (Or.inl ⟨rfl, rfl, rfl, rfl, rfl⟩) (fun _ _ _ => rfl) (fun _ _ => rfl) (fun _ _ => rfl) g7 (by rw [q10, q3, wc_n (by omega) (by omega)]; omega)
          have hcnd : cn (up (up (up o 18 t 7) 0 7 (o 0 7 + 1)) 24 w (-1)) + 1 = cn o := cn_drop (t := t) (by omega) q4 (by rw [up_other (by omega), up_other (by omega), up_at]; decide) (fun k hk => by rw [up_other (by omega), up_other (by omega), up_other (by omega)])
          obtain ⟨b', o2, h2, e2, μ2, y1, y2, y3⟩ := ihFr nx nm y _ _ _ _ s5 ((hcf.trans hcf1).trans s7) up_at s6 (by omega) (by omega) (by omega) (by omega)
          refine ⟨b', o2, h2, e2, μ2, ?_, ?_, y3⟩
          · rw [hX]
            unfold in_endReversal
            rw [ins24 (by omega), Option.bind_some, if_pos rfl, rd_nI (by omega) (by decide), Option.bind_some, q7, b1, Option.bind_some]
            dsimp only
            rw [if_pos rfl, ck_nI (by omega) (by decide), ck_nI (by omega) (by decide), rd_nI (by omega) (by decide), Option.bind_some, s2, s3, Option.bind_some, nI_clamp (by omega), nI_clamp (by omega), Option.bind_some]
            exact y1
          · rw [hM, if_neg (by decide), s4, Option.bind_some]
            exact y2
        | false =>
          by_cases q3f : f = 2
          · subst q3f
            obtain ⟨c0, h', μ', s1, s2, s3, s4, s5, s6, s7⟩ := handle_sim (a := a) (c := c) (x3 := 7) (x4 := 8) (s := 8) (kd := 7) (q4 := 8) (oo := up o 23 w (nI (2 + 1))) (μμ := up μ1 5 (643 + 1262 * i + 10 * n + 8) (nI (2 + 1))) b3 hB hi hn hst hwo ht ⟨q1, q2⟩ q4 q5 (Or.inr ⟨rfl, rfl, rfl, rfl, rfl⟩) (fun _ _ q => up_other (by omega)) (fun r hr => up_row hr) (fun k q => up_in q) g7 (by rw [q10, q3, wc_n (by omega) (by omega)]; omega)
            have hcnd : cn (up (up (up (up o 23 w (nI (2 + 1))) 18 t 8) 0 8 (o 0 8 + 1)) 24 w (-1)) + 1 = cn o := cn_drop (t := t) (by omega) q4 (by rw [up_other (by omega), up_other (by omega), up_at]; decide) (fun k hk => by rw [up_other (by omega), up_other (by omega), up_other (by omega), up_other (by omega)])
            obtain ⟨b', o2, h2, e2, μ2, y1, y2, y3⟩ := ihFr nx nm y _ _ _ _ s5 ((hcf.trans hcf1).trans s7) up_at s6 (by omega) (by omega) (by omega) (by omega)
            refine ⟨b', o2, h2, e2, μ2, ?_, ?_, y3⟩
            · rw [hX]
              unfold in_endReversal
              rw [ins24 (by omega), Option.bind_some, if_pos rfl, rd_nI (by omega) (by decide), Option.bind_some, q7, b1, Option.bind_some]
              dsimp only
              rw [if_neg (by decide), rd_nI (by omega) (by decide), Option.bind_some, ck_nI (by omega) (by decide), nI_clamp (by omega), rd_nI (by omega) (by decide), Option.bind_some, up_at, q10, nI_1, if_neg (by decide), ck_nI (by omega) (by decide), ck_nI (by omega) (by decide), rd_nI (by omega) (by decide), Option.bind_some, s2, s3, Option.bind_some, nI_clamp (by omega), Option.bind_some]
              exact y1
            · rw [hM, if_pos (by decide), if_pos (by decide), s4, Option.bind_some]
              exact y2
          · obtain ⟨h', μ', a1, a2, a3, a4, a5⟩ := att_sim (f := f + 1) (a := a) (c := c) (oo := up o 23 w (nI (f + 1))) (μμ := up μ1 5 (643 + 1262 * i + 10 * n + 8) (nI (f + 1))) b3 hB hi hn hst hwo ht ⟨q1, q2⟩ q4 q5 q6 q7 (by omega)
              (fun c' k q => up_other (by omega)) (by rw [up_other (by omega)]; exact q3) up_at (fun r hr => up_row hr) (fun k q1 q2 => up_in q2) (by show up _ _ _ _ _ _ = _; rw [up_in (by omega)]; exact g7) (by show up _ _ _ _ _ _ = _; rw [up_at]) (by rw [q10, q3, wc_n (by omega) (by omega)]; omega)
            obtain ⟨nm, rfl⟩ : ∃ k, nm = k + 1 := ⟨nm - 1, by omega⟩
            obtain ⟨b', o2, h2, e2, μ2, y1, y2, y3⟩ := ihOn nx nm (y + 1) _ _ _ _ a3 ((hcf.trans hcf1).trans a5) a4 (fun f' z1 z2 => by
              rw [up_other (by omega), up_at] at z1
              have := nI_inj (by omega) (by omega) z1
              rw [cn_same (o := o) (by rw [up_row (by decide), up_row (by decide)])]
              omega) (by omega) (by omega) (by omega)
            refine ⟨b', o2, h2, e2, μ2, ?_, ?_, y3⟩
            · rw [hX]
              unfold in_endReversal
              rw [ins24 (by omega), Option.bind_some, if_pos rfl, rd_nI (by omega) (by decide), Option.bind_some, q7, b1, Option.bind_some]
              dsimp only
              rw [if_neg (by decide), rd_nI (by omega) (by decide), Option.bind_some, ck_nI (by omega) (by decide), nI_clamp (by omega), rd_nI (by omega) (by decide), Option.bind_some, up_at, q10, nI_1, if_pos (show nI (f + 1) < 3 from nI_lt (b := 3) (by omega) (by decide)), Option.bind_some]
              dsimp only
              unfold in_reversesAll_46
              rw [rd_nI (by omega) (by decide), Option.bind_some, up_other (by omega), q3, if_neg (nI_pos (by omega))]
              unfold in_reversesAll_73
              rw [rd_nI (by omega) (by decide), Option.bind_some, up_other (by omega), q3, ins24 (by omega), Option.bind_some, if_pos rfl, rd_nI (by omega) (by decide), Option.bind_some, q7, ends_eval q6, Option.bind_some, ck_nI (by omega) (by decide), Option.bind_some, a1, Option.bind_some, nI_clamp (by omega), nI_1]
              exact y1
            · rw [hM, if_pos (by decide), if_neg (by rw [nI_1]; exact fun z => by have := nI_inj (a := f + 1) (b := 3) (by omega) (by decide) z; omega), a2, Option.bind_some]
              conv => lhs; unfold md_compensates_0
              obtain ⟨tt, ff, uu, cc, z1, z2, z3, z4, z5, z6, z7, x8, _⟩ := a4
              rw [at_7, Option.bind_some, rd_nI (by omega) (by decide), Option.bind_some]
              rw [show μ' 5 (643 + 1262 * i + 10 * n + 7) = nI (nd tt) from x8, if_neg (nI_pos (by have := hn.l64 (a := tt) (by omega); omega))]
              exact y2
    exact ⟨On1, free (m + 1) On1⟩
end RW
