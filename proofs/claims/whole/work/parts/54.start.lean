/-! an instance is started -/
section RS2
variable {p : Mem} {nd : Nat → Nat} {sv : Nat → Nat → Int32} {i V its rl B B' N D : Nat} {o h e μ o' h' e' μ' : Mem}
theorem zero_loop {y1 : Int32} (hi : i < 6) : ∀ (r n k : Nat) (μ : Mem), k + r = 1262 → r < n → ∃ μz, md_start_60 N D n y1 (nI i) (nI k) μ = md_start_60 N D 1 y1 (nI i) (nI 1262) μz ∧ (∀ c, c ≠ 5 → μz c = μ c) ∧ (∀ x, 21 + 1262 * i + k ≤ x → x < 21 + 1262 * i + 1262 → μz 5 x = 0) ∧ ∀ x, ¬ (21 + 1262 * i + k ≤ x ∧ x < 21 + 1262 * i + 1262) → μz 5 x = μ 5 x
  | 0, n, k, μ, hk, hn => by
    obtain ⟨n, rfl⟩ : ∃ m, n = m + 1 := ⟨n - 1, by omega⟩
    refine ⟨μ, ?_, fun _ _ => rfl, fun x x1 x2 => by omega, fun _ _ => rfl⟩
    have : k = 1262 := by omega
    subst this
    have hno : ¬ nI 1262 < 1262 := by decide
    conv => lhs; unfold md_start_60
    conv => rhs; unfold md_start_60
    rw [if_neg hno, if_neg hno]
  | r + 1, n, k, μ, hk, hn => by
    obtain ⟨n, rfl⟩ : ∃ m, n = m + 1 := ⟨n - 1, by omega⟩
    obtain ⟨μz, z1, z2, z3, z4⟩ := zero_loop hi r n (k + 1) (up μ 5 (21 + 1262 * i + k) 0) (by omega) (by omega)
    refine ⟨μz, ?_, fun c hc => (z2 c hc).trans (up_row hc), fun x x1 x2 => ?_, fun x hx => ?_⟩
    · rw [← z1]
      conv => lhs; unfold md_start_60
      rw [if_pos (show nI k < 1262 from nI_lt (b := 1262) (by omega) (by decide)), of_nI, Option.bind_some, ck_nI (by omega) (by decide), nI_clamp (by omega), nI_1]
    · by_cases q : x = 21 + 1262 * i + k
      · rw [z4 x (by omega), q, up_at]
      · exact z3 x (by omega) x2
    · rw [z4 x (by omega), up_in (by omega)]
theorem cur_loop (hi : i < 6) : ∀ (r n k : Nat) (μ : Mem), k + r = 64 → r < n → ∃ μz, md_start_157 N D n (nI i) (nI k) μ = ((md_looksAt N D (nI i) μz).bind fun μ184 => some (nI i, μ184)) ∧ (∀ c, c ≠ 5 → μz c = μ c) ∧ (∀ x, k ≤ x → x < 64 → μz 5 (643 + 1262 * i + 10 * x + 7) = -1) ∧ ∀ x, (∀ m, k ≤ m → m < 64 → x ≠ 643 + 1262 * i + 10 * m + 7) → μz 5 x = μ 5 x
  | 0, n, k, μ, hk, hn => by
    obtain ⟨n, rfl⟩ : ∃ m, n = m + 1 := ⟨n - 1, by omega⟩
    refine ⟨μ, ?_, fun _ _ => rfl, fun x x1 x2 => by omega, fun _ _ => rfl⟩
    have : k = 64 := by omega
    subst this
    unfold md_start_157
    rw [if_neg (by decide)]
  | r + 1, n, k, μ, hk, hn => by
    obtain ⟨n, rfl⟩ : ∃ m, n = m + 1 := ⟨n - 1, by omega⟩
    obtain ⟨μz, z1, z2, z3, z4⟩ := cur_loop hi r n (k + 1) (up μ 5 (643 + 1262 * i + 10 * k + 7) (-1)) (by omega) (by omega)
    refine ⟨μz, ?_, fun c hc => (z2 c hc).trans (up_row hc), fun x x1 x2 => ?_, fun x hx => ?_⟩
    · rw [← z1]
      conv => lhs; unfold md_start_157
      rw [if_pos (show nI k < 64 from nI_lt (b := 64) (by omega) (by decide)), at_7, Option.bind_some, ck_nI (by omega) (by decide), nI_clamp (by omega), nI_1]
    · by_cases q : x = k
      · subst q
        rw [z4 _ (fun m m1 m2 => by omega), up_at]
      · exact z3 x (by omega) x2
    · rw [z4 x (fun m m1 m2 => hx m (by omega) m2), up_in (hx k (Nat.le_refl _) (by omega))]
theorem start_sim {F wf ve : Nat} (hi : i < 6) (hS : ST p nd sv its) (hN : 1400 ≤ N) (hD : 16 ≤ D) (hF : Ch p nd sv F 0 0 0 its) (hrl : rl = 0 ∨ rl = 200) (hwf : wf < 4) (hve : ve < 4) (hV : V = 4 * wf + ve) (hsv : ∀ n, n < 64 → ∀ w, w < 9 → μ 1 ((64 * V + n) * 9 + w) = sv n w) (hsz : μ 3 (4 * V) = sv 64 0) (hE : EnvR e μ) (hdef : μ 5 (17 + wf) = nI (ve + 1)) :
    ∃ o' h' e' μ', in_begin N D rl p o h e = some (o', h', e') ∧ md_start_60 N D N (nI wf) (nI i) 0 μ = some (nI i, μ') ∧ LkR p nd sv i V its rl F o' h' e' μ' ∧ SetR p e' o' its ∧ (o' 0 4 = e 1 2 ∧ (o' 0 5 = -5 ∨ o' 0 5 = e 1 2)) ∧ (∀ r, r ≠ 3 → e' r = e r) ∧ (∀ r, r ≠ 5 → μ' r = μ r) ∧ (∀ k, (k < 9 ∨ 17 ≤ k) → ¬ (21 + 1262 * i ≤ k ∧ k < 21 + 1262 * i + 1262) → μ' 5 k = μ 5 k) ∧ Gm μ' i 0 = 1 ∧ Gm μ' i 2 = nI wf ∧ Gm μ' i 3 = nI ve := by
  have hn := hS.1
  have hits := hn.2.1
  have hp1 := hn.1
  obtain ⟨t, t1, t2⟩ := hE.2.1
  have t3 : μ 5 0 = nI t := hE.1.trans t1
  obtain ⟨μz, z1, z2, z3, z4⟩ := zero_loop (N := N) (D := D) (y1 := nI wf) hi 1262 N 0 μ (by omega) (by omega)
  have z0 : ∀ w, w < 1262 → μz 5 (21 + 1262 * i + w) = 0 := fun w hw => z3 _ (by omega) (by omega)
  obtain ⟨μ0, c1, c2, c3, c4⟩ := cur_loop (N := N) (D := D) hi 64 N 0 (up (up (up (up (up μz 5 (21 + 1262 * i + 0) 1) 5 (21 + 1262 * i + 2) (nI wf)) 5 (21 + 1262 * i + 3) (nI ve)) 5 (21 + 1262 * i + 4) (nI t)) 5 (21 + 1262 * i + 5) (-5)) (by omega) (by omega)
  have hM0 : md_start_60 N D N (nI wf) (nI i) 0 μ = (md_looksAt N D (nI i) μ0).bind fun μ184 => some (nI i, μ184) := by
    rw [show (0 : Int32) = nI 0 from rfl, z1, ← c1]
    unfold md_start_60
    rw [if_neg (by decide), of_0, Option.bind_some, ck_nI (by omega) (by decide), of_2, Option.bind_some, ck_nI (by omega) (by decide), of_3, Option.bind_some, add17_nI, rd_nI (by omega) (by decide), Option.bind_some, ck_nI (by omega) (by decide), of_4, Option.bind_some, rd70, Option.bind_some, ck_nI (by omega) (by decide), of_5, Option.bind_some, ck_nI (by omega) (by decide), nI_clamp (by omega), nI_clamp (by omega), nI_clamp (by omega), nI_clamp (by omega), nI_clamp (by omega)]
    rw [up_in (by omega), up_in (by omega), z4 (17 + wf) (by omega), hdef, show nI (ve + 1) - 1 = nI ve from nI_pred ve, up_in (by omega), up_in (by omega), up_in (by omega), z4 0 (by omega), t3]
    rfl
  have m0r : ∀ r, r ≠ 5 → μ0 r = μ r := fun r hr => by rw [c2 r hr, up_row hr, up_row hr, up_row hr, up_row hr, up_row hr, z2 r hr]
  have m0o : ∀ k, ¬ (21 + 1262 * i ≤ k ∧ k < 21 + 1262 * i + 1262) → μ0 5 k = μ 5 k := fun k hk => by
    rw [c4 k (fun m m1 m2 => by omega), up_in (by omega), up_in (by omega), up_in (by omega), up_in (by omega), up_in (by omega), z4 k (by omega)]
  have m0z : ∀ w, 6 ≤ w → w < 1262 → (∀ m, m < 64 → w ≠ 622 + 10 * m + 7) → μ0 5 (21 + 1262 * i + w) = 0 := fun w w1 w2 w3 => by
    rw [c4 _ (fun m m1 m2 => by have := w3 m m2; omega), up_in (by omega), up_in (by omega), up_in (by omega), up_in (by omega), up_in (by omega), z0 w w2]
  have g0 : Gm μ0 i 0 = 1 := by
    rw [show Gm μ0 i 0 = _ from c4 _ (fun m m1 m2 => by omega), up_in (by omega), up_in (by omega), up_in (by omega), up_in (by omega), up_at]
  have g1 : Gm μ0 i 1 = 0 := by
    rw [show Gm μ0 i 1 = _ from c4 _ (fun m m1 m2 => by omega), up_in (by omega), up_in (by omega), up_in (by omega), up_in (by omega), up_in (by omega), z0 1 (by omega)]
  have g2 : Gm μ0 i 2 = nI wf := by
    rw [show Gm μ0 i 2 = _ from c4 _ (fun m m1 m2 => by omega), up_in (by omega), up_in (by omega), up_in (by omega), up_at]
  have g3 : Gm μ0 i 3 = nI ve := by
    rw [show Gm μ0 i 3 = _ from c4 _ (fun m m1 m2 => by omega), up_in (by omega), up_in (by omega), up_at]
  have g4 : Gm μ0 i 4 = nI t := by
    rw [show Gm μ0 i 4 = _ from c4 _ (fun m m1 m2 => by omega), up_in (by omega), up_at]
  have g5 : Gm μ0 i 5 = -5 := by
    rw [show Gm μ0 i 5 = _ from c4 _ (fun m m1 m2 => by omega), up_at]
  have fz : ∀ n w, n < 64 → w < 10 → w ≠ 7 → Fm μ0 i n w = 0 := fun n w n1 n2 n3 => by
    have := m0z (622 + 10 * n + w) (by omega) (by omega) (fun m hm => by omega)
    rw [← this]
    show μ0 5 _ = μ0 5 _
    congr 1; omega
  have f7 : ∀ n, n < 64 → Fm μ0 i n 7 = -1 := fun n hn => c3 n (by omega) hn
  -- the class's instance before anything begins
  obtain ⟨oB, hoB⟩ : ∃ oB, oB = (upA (upA (upA (upA (up (up (up (up (up (up o 0 3 0) 0 4 (e 1 2)) 0 5 ((-5))) 0 6 0) 0 7 0) 0 8 0) 16 (fun q => if q < 4 then 0 else (o 16) q)) 17 (fun q => if q < 8 then 0 else (o 17) q)) 18 (fun q => if q < 24 then 0 else (o 18) q)) 19 (fun q => if q < 24 then 0 else (o 19) q)) := ⟨_, rfl⟩
  have b0 : oB 0 = (up (up (up (up (up (up o 0 3 0) 0 4 (e 1 2)) 0 5 ((-5))) 0 6 0) 0 7 0) 0 8 0) 0 := by rw [hoB, upA_row (by decide), upA_row (by decide), upA_row (by decide), upA_row (by decide)]
  have b16 : ∀ q, q < 4 → oB 16 q = 0 := fun q hq => by rw [hoB, upA_row (by decide), upA_row (by decide), upA_row (by decide), upA_at]; exact if_pos hq
  have b17 : ∀ q, q < 8 → oB 17 q = 0 := fun q hq => by rw [hoB, upA_row (by decide), upA_row (by decide), upA_at]; exact if_pos hq
  have b18 : ∀ q, q < 24 → oB 18 q = 0 := fun q hq => by rw [hoB, upA_row (by decide), upA_at]; exact if_pos hq
  have b19 : ∀ q, q < 24 → oB 19 q = 0 := fun q hq => by rw [hoB, upA_at]; exact if_pos hq
  have b03 : oB 0 3 = 0 := by rw [b0, up_in (by omega), up_in (by omega), up_in (by omega), up_in (by omega), up_in (by omega), up_at]
  have b04 : oB 0 4 = nI t := by rw [b0, up_in (by omega), up_in (by omega), up_in (by omega), up_in (by omega), up_at, t1]
  have b05 : oB 0 5 = -5 := by rw [b0, up_in (by omega), up_in (by omega), up_in (by omega), up_at]
  have b06 : oB 0 6 = 0 := by rw [b0, up_in (by omega), up_in (by omega), up_at]
  have b07 : oB 0 7 = 0 := by rw [b0, up_in (by omega), up_at]
  have b08 : oB 0 8 = 0 := by rw [b0, up_at]
  have hRB : R p nd sv i V its rl 2000 oB (up h 4 2 0) e μ0 := by
    refine ⟨⟨⟨wf, ve, hwf, hve, hV, g2, g3⟩, by rw [m0r 1 (by decide)]; exact hsv, by rw [m0r 3 (by decide)]; exact hsz⟩, hE.fr (fun k hk => m0o k (by omega)), ⟨by rw [b06]; exact m0z 6 (by omega) (by omega) (fun m _ => by omega), by rw [b07]; exact m0z 7 (by omega) (by omega) (fun m _ => by omega), by rw [b08]; exact m0z 8 (by omega) (by omega) (fun m _ => by omega), fun v hv => by rw [b16 v hv]; exact m0z (10 + v) (by omega) (by omega) (fun m _ => by omega), fun v hv => by rw [b17 v hv]; exact ⟨m0z (14 + v) (by omega) (by omega) (fun m _ => by omega), by decide⟩⟩, ⟨0, ⟨hrl, up_at, m0z 9 (by omega) (by omega) (fun m _ => by omega), fun _ k hk => by omega⟩, ?_⟩, ⟨0, by omega, b06, fun k hk => by omega, fun j hj _ hd => by rw [b18 j (by omega)] at hd; exact absurd hd nDn0⟩, fun j hj => ?_, fun j j1 j2 => b18 j j2, fun b hb hs _ => ?_⟩
    · unfold Pot
      rw [sm_same (f := fun _ => 40) (fun k hk => by
        show wt (oB 18 k) (oB 23 k) (oB 24 k) = 40
        rw [b18 k hk, wt0]), sm_const, b03]
      show 0 + 24 * 40 + wW 0 (oB 23 24) (oB 24 24) ≤ 2000
      unfold wW
      rw [if_pos rfl]
      decide
    · have h64 := hn.l64 hj
      unfold IR
      rw [b18 j (by omega), fz _ 0 h64 (by omega) (by omega), fz _ 2 h64 (by omega) (by omega), fz _ 6 h64 (by omega) (by omega), f7 _ h64]
      exact ⟨rfl, ⟨0, by omega, rfl⟩, fun _ => rfl, fun _ => rfl, fun q => absurd q (by decide), fun _ _ => rfl, fun _ q => absurd q (by decide), fun _ q => absurd q (by decide), fun q => absurd q (by decide), fun q => absurd q (by decide), fun _ q => absurd q (by decide), fun _ q => absurd q (by decide), fun _ q => absurd q (by decide), fun q => absurd q (by decide), fun _ q => absurd q (by decide)⟩
    · have := hn.l64 hb
      exact f7 _ (by omega)
  have hid : IdleR nd i oB μ0 0 its := fun j _ j2 => ⟨b18 j (by omega), b19 j (by omega), fun _ => fz _ 0 (by have := hn.l64 j2; omega) (by omega) (by omega)⟩
  have e0 : nd 0 - 1 = 0 := by rw [hn.2.2.1]
  obtain ⟨o1, h1, e1, μ1, r, x1, x2, ⟨x3, x4, x5, x6, x7⟩, x8⟩ := (go_all (B := 2000) (N := N) (D := D) hi hS (by omega) (by omega) (by omega) F).2 0 0 its D D oB (up h 4 2 0) e μ0 (hS.ch0 hF) (Nat.le_refl _) (by omega) bst0 (by rw [e0, hn.2.2.1]; exact hS.2.2.2.2.1) hRB hid (by omega) (by omega)
  rw [e0] at x2 x6 x8
  have eG : ∀ w, w < 6 → Gm μ1 i w = Gm μ0 i w := fun w hw => x4.2.2.2.1 _ (by omega) (by omega)
  have q0 : o1 0 3 = 0 := by rw [x4.1.1 3 (by omega)]; exact b03
  obtain ⟨o2, h2, e2, μ2, y1, y2, y3, y4, y5⟩ := tail_sim (N := N) (D := D) hi hS (by omega) x3 (by rw [eG 1 (by omega), g1, q0]) (by rw [eG 4 (by omega), g4, x4.1.1 4 (by omega), b04]) (by rw [eG 5 (by omega), g5, x4.1.1 5 (by omega), b05]) q0 (by rw [x4.1.1 5 (by omega)]; exact b05) (by rw [x8 7 (by omega) (by omega)]; exact f7 0 (by omega)) x6 x7
  have hsame : in_goOn N rl p (kn_igo N rl p D) (nI 0) (nI 0) o1 h1 e1 = some (o1, h1, e1) := by
    rcases x7 with ⟨q1, cu, q2, q3, q4⟩ | ⟨q1, _⟩
    · exact idem_go hi hS (by omega) F 0 0 0 its cu D hF (Nat.le_refl _) (by omega) x3 q1 q2 q3 q4 (by omega)
    · exact goOn_not (by omega) (by rcases q1 with q | q <;> rw [q] <;> decide)
  have hlk := x4.lk.trans y5
  refine ⟨o2, h2, e2, μ2, ?_, ?_, y3, y4, ?_, hlk.2.1, fun r hr => (hlk.2.2.1 r hr).trans (m0r r hr), fun k k1 k2 => ?_, ?_, ?_, ?_⟩
  · unfold in_begin
    have hx1 : in_beginBody N rl p (kn_igo N rl p D) 0 0 oB (up h 4 2 0) e = some (o1, h1, e1) := x1
    rw [← hoB, hx1, Option.bind_some]
    dsimp only
    have hl : in_look N D rl p o1 h1 e1 = some (o2, h2, e2) := by
      unfold in_look
      rw [if_pos q0, show (0 : Int32) = nI 0 from rfl, hsame, Option.bind_some]
      exact y1
    rw [hl]; rfl
  · rw [hM0, looksAt_ev hi g1, show (0 : Int32) = nI 0 from rfl, x2, Option.bind_some]
    dsimp only
    rw [x5]
    have y2' := y2
    rw [show (0 : Int32) = nI 0 from rfl] at y2'
    rw [y2', Option.bind_some]
  · refine ⟨by rw [y5.1.1, x4.1.1 4 (by omega), b04, t1], ?_⟩
    rcases hlk.1.2 with z | z
    · exact Or.inl (z.trans b05)
    · exact Or.inr z
  · rw [hlk.2.2.2 k k1 (by omega) (by omega) (by omega)]; exact m0o k k2
  · rw [show Gm μ2 i 0 = _ from hlk.2.2.2 _ (by omega) (by omega) (by omega) (by omega)]; exact g0
  · rw [show Gm μ2 i 2 = _ from hlk.2.2.2 _ (by omega) (by omega) (by omega) (by omega)]; exact g2
  · rw [show Gm μ2 i 3 = _ from hlk.2.2.2 _ (by omega) (by omega) (by omega) (by omega)]; exact g3
end RS2
