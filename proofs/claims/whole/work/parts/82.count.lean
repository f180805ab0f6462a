/-! how many there are of a kind -/
section PD8
variable {N D T rl : Nat} {x w e μ : Mem} {I H : Fam} {pl : Nat → Nat} {vs : Fam} {st : Prop}
theorem sm_add {f g : Nat → Nat} : ∀ n, sm n f + sm n g = sm n (fun k => f k + g k)
  | 0 => rfl
  | n + 1 => by
    have := sm_add (f := f) (g := g) n
    show sm n f + f n + (sm n g + g n) = sm n (fun k => f k + g k) + (f n + g n)
    omega
/-- how many of a workflow have a status, in the class -/
def cX (pl : Nat → Nat) (vs I : Fam) (x1 x2 : Int32) (k : Nat) : Nat := sm k (fun j => if I j 0 3 = x2 ∧ vs (pl j) 6 0 = x1 then 1 else 0)
theorem ofX_loop (hp : ∀ j, j < 6 → pl j < 17) (x1 x2 : Int32) : ∀ (s k n : Nat), k + s = 6 → s < n → wo_instancesOf_5 N pl vs I n x1 x2 (nI (cX pl vs I x1 x2 k)) (nI k) = some (nI (cX pl vs I x1 x2 6))
  | 0, k, n, hk, hn => by
    obtain ⟨n, rfl⟩ : ∃ x, n = x + 1 := ⟨n - 1, by omega⟩
    unfold wo_instancesOf_5
    rw [show k = 6 by omega]
    rfl
  | s + 1, k, n, hk, hn => by
    obtain ⟨n, rfl⟩ : ∃ x, n = x + 1 := ⟨n - 1, by omega⟩
    have ih := ofX_loop hp x1 x2 s (k + 1) n (by omega) (by omega)
    have e1 : cX pl vs I x1 x2 (k + 1) = cX pl vs I x1 x2 k + (if I k 0 3 = x2 ∧ vs (pl k) 6 0 = x1 then 1 else 0) := rfl
    conv => lhs; unfold wo_instancesOf_5
    rw [if_pos (show nI k < 6 from nI_lt (b := 6) (by omega) (by decide)), rx_nI (by omega) (by decide), Option.bind_some, Option.bind_some, gd_pos (hp k (by omega)), nI_1, nI_1, ← ih, e1]
    by_cases q : I k 0 3 = x2
    · rw [if_pos q]
      by_cases q2 : vs (pl k) 6 0 = x1
      · rw [if_pos q2, if_pos ⟨q, q2⟩]
      · rw [if_neg q2, if_neg (fun z => q2 z.2)]; rfl
    · rw [if_neg q, if_neg (fun z => q z.1)]; rfl
theorem ofX_ev (hN : 10 ≤ N) (hp : ∀ j, j < 6 → pl j < 17) (x1 x2 : Int32) : wo_instancesOf N pl vs I x1 x2 = some (nI (cX pl vs I x1 x2 6)) := ofX_loop hp x1 x2 6 0 N (by omega) (by omega)
/-- the same in the reference -/
def cM (μ : Mem) (x1 x2 : Int32) (k : Nat) : Nat := sm k (fun j => if Gm μ j 0 = 1 ∧ Gm μ j 2 = x1 ∧ (x2 < 0 ∨ Gm μ j 1 = x2) then 1 else 0)
theorem isInst_ev {k : Nat} (hk : k < 6) : md_isInstance μ (nI k) = if Gm μ k 0 = 1 then some true else some false := by
  unfold md_isInstance
  rw [show md_isIn (nI k) 0 5 = some true from isIn_nI (b := 0) (c := 5) (Nat.zero_le _) (by omega) (by decide), Option.bind_some, if_pos rfl, of_0, Option.bind_some, rd_nI (by omega) (by decide), Option.bind_some]
theorem ofM_loop (x1 x2 : Int32) : ∀ (s k n : Nat), k + s = 6 → s < n → md_instancesOf_5 N μ n x1 x2 (nI (cM μ x1 x2 k)) (nI k) = some (nI (cM μ x1 x2 6))
  | 0, k, n, hk, hn => by
    obtain ⟨n, rfl⟩ : ∃ x, n = x + 1 := ⟨n - 1, by omega⟩
    unfold md_instancesOf_5
    rw [show k = 6 by omega]
    rfl
  | s + 1, k, n, hk, hn => by
    obtain ⟨n, rfl⟩ : ∃ x, n = x + 1 := ⟨n - 1, by omega⟩
    have ih := ofM_loop x1 x2 s (k + 1) n (by omega) (by omega)
    have e1 : cM μ x1 x2 (k + 1) = cM μ x1 x2 k + (if Gm μ k 0 = 1 ∧ Gm μ k 2 = x1 ∧ (x2 < 0 ∨ Gm μ k 1 = x2) then 1 else 0) := rfl
    conv => lhs; unfold md_instancesOf_5
    rw [if_pos (show nI k < 6 from nI_lt (b := 6) (by omega) (by decide)), isInst_ev (by omega), of_2, of_1, Int32.add_zero, nI_1, nI_1, ← ih, e1]
    by_cases q0 : Gm μ k 0 = 1
    · rw [if_pos q0]
      simp only [Option.bind_some]
      rw [if_pos trivial, rd_nI (by omega) (by decide), rd_nI (by omega) (by decide)]
      simp only [Option.bind_some]
      by_cases q : Gm μ k 2 = x1
      · rw [if_pos q]
        by_cases q2 : x2 < 0
        · rw [if_pos q2, if_pos ⟨q0, q, Or.inl q2⟩]
        · rw [if_neg q2]
          by_cases q3 : Gm μ k 1 = x2
          · rw [if_pos q3, if_pos ⟨q0, q, Or.inr q3⟩]
          · rw [if_neg q3, if_neg (fun z => z.2.2.elim q2 q3)]; rfl
      · rw [if_neg q, if_neg (fun z => q z.2.1)]; rfl
    · rw [if_neg q0, Option.bind_some, if_neg (show ¬ (false = true) by decide), if_neg (fun z => q0 z.1)]; rfl
theorem ofM_ev (hN : 10 ≤ N) (x1 x2 : Int32) : md_instancesOf N μ x1 x2 = some (nI (cM μ x1 x2 6)) := ofM_loop x1 x2 6 0 N (by omega) (by omega)
/-- what stands of an instance, short -/
theorem IW.short {j pv : Nat} {o h : Mem} (hW : IW st rl j pv vs o h e μ w) (hv : VsR vs) : (o 0 3 = -1 ∧ Gm μ j 0 = 0) ∨ (Gm μ j 0 = 1 ∧ o 0 3 = Gm μ j 1 ∧ vs pv 6 0 = Gm μ j 2 ∧ (o 0 3 = 0 ∨ o 0 3 = 2 ∨ o 0 3 = 1 ∨ o 0 3 = 3 ∨ o 0 3 = 4)) := by
  rcases hW.live with z | ⟨z1, z2⟩
  · exact Or.inl z
  · obtain ⟨pw, _, _⟩ := hW.plan hv z2
    obtain ⟨p17, hl⟩ := hW
    rcases hl with ⟨z, _⟩ | ⟨g0, tm, hvv, nd, sv, its, hV, hL, hs⟩
    · exact absurd z z1
    · exact Or.inr ⟨z2, hL.2.1.symm, pw, hL.st⟩
theorem count_same (hI : ∀ j, j < 6 → IW st rl j (pl j) vs (I j) (H j) e μ w) (hv : VsR vs) (x1 x2 : Int32) (h2 : ¬ x2 < 0) : cX pl vs I x1 x2 6 = cM μ x1 x2 6 := by
  refine sm_same (fun j hj => ?_)
  rcases (hI j hj).short hv with ⟨z1, z2⟩ | ⟨z1, z2, z3, z4⟩
  · rw [if_neg (fun q => h2 (by rw [← q.1, z1]; decide)), if_neg (fun q => by rw [z2] at q; exact absurd q.1 (by decide))]
  · rw [z2, z3]
    by_cases q : Gm μ j 1 = x2 ∧ Gm μ j 2 = x1
    · rw [if_pos q, if_pos ⟨z1, q.2, Or.inr q.1⟩]
    · rw [if_neg q, if_neg (fun z => z.2.2.elim h2 (fun z5 => q ⟨z5, z.2.1⟩))]
theorem plan17 (hI : ∀ j, j < 6 → IW st rl j (pl j) vs (I j) (H j) e μ w) : ∀ j, j < 6 → pl j < 17 := fun j hj => (hI j hj).1
/-- all statuses together -/
theorem count_all (hI : ∀ j, j < 6 → IW st rl j (pl j) vs (I j) (H j) e μ w) (hv : VsR vs) (x1 : Int32) : cX pl vs I x1 1 6 + (cX pl vs I x1 3 6 + cX pl vs I x1 4 6) + cX pl vs I x1 0 6 + cX pl vs I x1 2 6 = cM μ x1 (-1) 6 := by
  unfold cX cM
  rw [sm_add, sm_add, sm_add, sm_add]
  refine sm_same (fun j hj => ?_)
  rcases (hI j hj).short hv with ⟨z1, z2⟩ | ⟨z1, z2, z3, z4⟩
  · rw [z1, z2]
    by_cases q : vs (pl j) 6 0 = x1
    · simp
    · simp
  · rw [z1, z3]
    rcases z4 with z | z | z | z | z <;> rw [z] <;> by_cases q : Gm μ j 2 = x1 <;> simp [q] <;> decide
/-- how many have a status -/
def cW (pl : Nat → Nat) (vs I : Fam) (x2 : Int32) (k : Nat) : Nat := sm k (fun wf => cX pl vs I (nI wf) x2 6)
theorem withX_loop (hN : 10 ≤ N) (hp : ∀ j, j < 6 → pl j < 17) (x2 : Int32) : ∀ (s k n : Nat), k + s = 4 → s < n → wo_instancesWith_4 N pl vs I n x2 (nI (cW pl vs I x2 k)) (nI k) = some (nI (cW pl vs I x2 4))
  | 0, k, n, hk, hn => by
    obtain ⟨n, rfl⟩ : ∃ x, n = x + 1 := ⟨n - 1, by omega⟩
    unfold wo_instancesWith_4
    rw [show k = 4 by omega]
    rfl
  | s + 1, k, n, hk, hn => by
    obtain ⟨n, rfl⟩ : ∃ x, n = x + 1 := ⟨n - 1, by omega⟩
    have ih := withX_loop hN hp x2 s (k + 1) n (by omega) (by omega)
    have e1 : cW pl vs I x2 (k + 1) = cW pl vs I x2 k + cX pl vs I (nI k) x2 6 := rfl
    conv => lhs; unfold wo_instancesWith_4
    rw [if_pos (show nI k < 4 from nI_lt (b := 4) (by omega) (by decide)), ofX_ev hN hp, Option.bind_some, nI_1, nI_add, ← ih, e1]
theorem withX_ev (hN : 10 ≤ N) (hp : ∀ j, j < 6 → pl j < 17) (x2 : Int32) : wo_instancesWith N pl vs I x2 = some (nI (cW pl vs I x2 4)) := withX_loop hN hp x2 4 0 N (by omega) (by omega)
theorem withM_loop (hN : 10 ≤ N) (hI : ∀ j, j < 6 → IW st rl j (pl j) vs (I j) (H j) e μ w) (hv : VsR vs) (x2 : Int32) (h2 : ¬ x2 < 0) : ∀ (s k n : Nat), k + s = 4 → s < n → md_withStatus_4 N μ n x2 (nI (cW pl vs I x2 k)) (nI k) = some (nI (cW pl vs I x2 4))
  | 0, k, n, hk, hn => by
    obtain ⟨n, rfl⟩ : ∃ x, n = x + 1 := ⟨n - 1, by omega⟩
    unfold md_withStatus_4
    rw [show k = 4 by omega]
    rfl
  | s + 1, k, n, hk, hn => by
    obtain ⟨n, rfl⟩ : ∃ x, n = x + 1 := ⟨n - 1, by omega⟩
    have ih := withM_loop hN hI hv x2 h2 s (k + 1) n (by omega) (by omega)
    have e1 : cW pl vs I x2 (k + 1) = cW pl vs I x2 k + cX pl vs I (nI k) x2 6 := rfl
    conv => lhs; unfold md_withStatus_4
    rw [if_pos (show nI k < 4 from nI_lt (b := 4) (by omega) (by decide)), ofM_ev hN, Option.bind_some, nI_1, nI_add, ← ih, e1, count_same hI hv (nI k) x2 h2]
theorem withM_ev (hN : 10 ≤ N) (hI : ∀ j, j < 6 → IW st rl j (pl j) vs (I j) (H j) e μ w) (hv : VsR vs) (x2 : Int32) (h2 : ¬ x2 < 0) : md_withStatus N μ x2 = some (nI (cW pl vs I x2 4)) := withM_loop hN hI hv x2 h2 4 0 N (by omega) (by omega)
/-- the free places -/
theorem count_free (hI : ∀ j, j < 6 → IW st rl j (pl j) vs (I j) (H j) e μ w) (hv : VsR vs) : cW pl vs I (-1) 4 + cnt μ 6 = 6 := by
  have e0 : cW pl vs I (-1) 4 = 0 + cX pl vs I (nI 0) (-1) 6 + cX pl vs I (nI 1) (-1) 6 + cX pl vs I (nI 2) (-1) 6 + cX pl vs I (nI 3) (-1) 6 := rfl
  rw [e0, Nat.zero_add]
  unfold cX cnt
  rw [sm_add, sm_add, sm_add, sm_add, sm_same (f := fun _ => 1) (fun j hj => ?_), sm_const]
  show _ = 1
  obtain ⟨a, b, a1, b1, a2, _, _⟩ := hv (pl j) (hI j hj).1
  rcases (hI j hj).short hv with ⟨z1, z2⟩ | ⟨z1, z2, z3, z4⟩
  · rw [z1, z2, a2]
    have ha : a = 0 ∨ a = 1 ∨ a = 2 ∨ a = 3 := by omega
    rcases ha with q | q | q | q <;> subst q <;> decide
  · rw [z1]
    have hne : ¬ I j 0 3 = -1 := by rcases z4 with z | z | z | z | z <;> rw [z] <;> decide
    rw [if_neg (fun q => hne q.1), if_neg (fun q => hne q.1), if_neg (fun q => hne q.1), if_neg (fun q => hne q.1), if_pos rfl]
theorem started_ev (hN : 10 ≤ N) (hI : ∀ j, j < 6 → IW st rl j (pl j) vs (I j) (H j) e μ w) (hv : VsR vs) : wo_started N pl vs I = some (nI (cnt μ 6)) := by
  unfold wo_started
  rw [withX_ev hN (plan17 hI), Option.bind_some]
  have := count_free hI hv
  rw [show (6 : Int32) = nI 6 from rfl, pk_sub (by omega)]
  congr 2; omega
/-- the minutes that instances took -/
theorem min_loop {t wf : Nat} (hwf : wf < 4) (hI : ∀ j, j < 6 → IW st rl j (pl j) vs (I j) (H j) e μ w) (hv : VsR vs) (ht : e 1 2 = nI t) (htt : t ≤ 99999) (y2 y3 : Int32) : ∀ (s k n m acc : Nat), k + s = 6 → s < n → s < m → acc ≤ 99999 * k → ∃ tot : Nat, tot ≤ 599994 ∧ wo_minutesOf_4 N pl vs I n (nI wf) (nI acc) (nI k) = some (nI tot) ∧ md_statistic_75 N μ m (nI wf) y2 y3 (nI acc) (nI k) = (if y2 = 6 then md_statistic_187 N μ y3 (nI tot) else ((md_instancesOf N μ (nI wf) 1).bind fun k184 => md_statistic_187 N μ y3 k184))
  | 0, k, n, m, acc, hk, hn, hm, ha => by
    obtain ⟨n, rfl⟩ : ∃ x, n = x + 1 := ⟨n - 1, by omega⟩
    obtain ⟨m, rfl⟩ : ∃ x, m = x + 1 := ⟨m - 1, by omega⟩
    have hk6 : k = 6 := by omega
    subst hk6
    refine ⟨acc, by omega, ?_, ?_⟩
    · unfold wo_minutesOf_4
      rw [if_neg (show ¬ nI 6 < 6 by decide)]
    · unfold md_statistic_75
      rw [if_neg (show ¬ nI 6 < 6 by decide)]
  | s + 1, k, n, m, acc, hk, hn, hm, ha => by
    obtain ⟨n, rfl⟩ : ∃ x, n = x + 1 := ⟨n - 1, by omega⟩
    obtain ⟨m, rfl⟩ : ∃ x, m = x + 1 := ⟨m - 1, by omega⟩
    have hk6 : k < 6 := by omega
    have p17 := (hI k hk6).1
    have eX : wo_minutesOf_4 N pl vs I (n + 1) (nI wf) (nI acc) (nI k) = (in_hasEnded (I k)).bind fun k16 => if k16 = true then (if vs (pl k) 6 0 = nI wf then wo_minutesOf_4 N pl vs I n (nI wf) (nI acc + ((I k 0 5) - (I k 0 4))) (nI (k + 1)) else wo_minutesOf_4 N pl vs I n (nI wf) (nI acc) (nI (k + 1))) else wo_minutesOf_4 N pl vs I n (nI wf) (nI acc) (nI (k + 1)) := by
      conv => lhs; unfold wo_minutesOf_4
      rw [if_pos (show nI k < 6 from nI_lt (b := 6) (by omega) (by decide)), rx_nI hk6 (by decide)]
      simp only [Option.bind_some]
      rw [gd_pos p17, gd_pos p17, nI_1]
    have eM : md_statistic_75 N μ (m + 1) (nI wf) y2 y3 (nI acc) (nI k) = if Gm μ k 0 = 1 then (if Gm μ k 2 = nI wf then (if Gm μ k 5 < 0 then md_statistic_75 N μ m (nI wf) y2 y3 (nI acc) (nI (k + 1)) else md_statistic_75 N μ m (nI wf) y2 y3 (nI acc + (Gm μ k 5 - Gm μ k 4)) (nI (k + 1))) else md_statistic_75 N μ m (nI wf) y2 y3 (nI acc) (nI (k + 1))) else md_statistic_75 N μ m (nI wf) y2 y3 (nI acc) (nI (k + 1)) := by
      have e0 : md_statistic_125 N μ (md_statistic_75 N μ m) (nI wf) y2 y3 (nI acc) (nI k) 0 = md_statistic_75 N μ m (nI wf) y2 y3 (nI acc) (nI (k + 1)) := by
        unfold md_statistic_125
        rw [if_pos rfl, Int32.add_zero, nI_1]
      have e1 : md_statistic_125 N μ (md_statistic_75 N μ m) (nI wf) y2 y3 (nI acc) (nI k) 1 = md_statistic_75 N μ m (nI wf) y2 y3 (nI acc + (Gm μ k 5 - Gm μ k 4)) (nI (k + 1)) := by
        unfold md_statistic_125
        rw [if_neg (by decide), of_5, Option.bind_some, rd_nI (by omega) (by decide), Option.bind_some, of_4, Option.bind_some, rd_nI (by omega) (by decide), Option.bind_some, nI_1]
      conv => lhs; unfold md_statistic_75
      rw [if_pos (show nI k < 6 from nI_lt (b := 6) (by omega) (by decide)), isInst_ev hk6, e0, e1, of_2, of_5]
      by_cases q : Gm μ k 0 = 1
      · rw [if_pos q, if_pos q]
        simp only [Option.bind_some]
        rw [if_pos trivial, rd_nI (by omega) (by decide), rd_nI (by omega) (by decide)]
        simp only [Option.bind_some]
      · rw [if_neg q, if_neg q, Option.bind_some, if_neg (show ¬ (false = true) by decide)]
    rw [eX, eM]
    have skip : ∃ tot : Nat, tot ≤ 599994 ∧ wo_minutesOf_4 N pl vs I n (nI wf) (nI acc) (nI (k + 1)) = some (nI tot) ∧ md_statistic_75 N μ m (nI wf) y2 y3 (nI acc) (nI (k + 1)) = (if y2 = 6 then md_statistic_187 N μ y3 (nI tot) else ((md_instancesOf N μ (nI wf) 1).bind fun k184 => md_statistic_187 N μ y3 k184)) := min_loop hwf hI hv ht htt y2 y3 s (k + 1) n m acc (by omega) (by omega) (by omega) (by omega)
    rcases (hI k hk6).short hv with ⟨z1, z2⟩ | ⟨z1, z2, z3, z4⟩
    · rw [ended_f (Or.inr (Or.inr z1)), Option.bind_some, if_neg (show ¬ (false = true) by decide), if_neg (show ¬ Gm μ k 0 = 1 by rw [z2]; decide)]
      exact skip
    · obtain ⟨_, hl⟩ := hI k hk6
      rcases hl with ⟨_, z, _⟩ | ⟨g0, ⟨t', s', u1, u2, u3, u4, u5⟩, hvv, nd, sv, its, hV, hL, hs⟩
      · exact absurd (z1.symm.trans z) (by decide)
      have htt' : t' = t := nI_inj (by omega) (by omega) (u1.symm.trans ht)
      subst htt'
      rw [z3, if_pos z1, hL.2.2.1, hL.2.2.2.1]
      obtain ⟨_, _, _, _, G⟩ := hL
      have go : ∀ q : I k 0 3 = 0 ∨ I k 0 3 = 2 ∨ I k 0 3 = -1, I k 0 5 = -5 → ∃ tot : Nat, tot ≤ 599994 ∧ ((in_hasEnded (I k)).bind fun k16 => if k16 = true then (if Gm μ k 2 = nI wf then wo_minutesOf_4 N pl vs I n (nI wf) (nI acc + ((I k 0 5) - (I k 0 4))) (nI (k + 1)) else wo_minutesOf_4 N pl vs I n (nI wf) (nI acc) (nI (k + 1))) else wo_minutesOf_4 N pl vs I n (nI wf) (nI acc) (nI (k + 1))) = some (nI tot) ∧ (if Gm μ k 2 = nI wf then (if I k 0 5 < 0 then md_statistic_75 N μ m (nI wf) y2 y3 (nI acc) (nI (k + 1)) else md_statistic_75 N μ m (nI wf) y2 y3 (nI acc + (I k 0 5 - I k 0 4)) (nI (k + 1))) else md_statistic_75 N μ m (nI wf) y2 y3 (nI acc) (nI (k + 1))) = (if y2 = 6 then md_statistic_187 N μ y3 (nI tot) else ((md_instancesOf N μ (nI wf) 1).bind fun k184 => md_statistic_187 N μ y3 k184)) := fun q q5 => by
        rw [ended_f q, Option.bind_some, if_neg (show ¬ (false = true) by decide), q5, if_pos (show (-5 : Int32) < 0 by decide)]
        by_cases c : Gm μ k 2 = nI wf
        · rw [if_pos c]; exact skip
        · rw [if_neg c]; exact skip
      rcases G with ⟨q, _, _, _, q5, _⟩ | ⟨q, _, q5, _⟩ | ⟨q, _, _, qt, q5, q6⟩
      · exact go (Or.inl q) q5
      · exact go (Or.inr (Or.inl q)) q5
      · rw [ended_t q, Option.bind_some, if_pos rfl]
        have hpos : ¬ I k 0 5 < 0 := by rw [q5]; exact nI_pos (by omega)
        rw [if_neg hpos]
        by_cases c : Gm μ k 2 = nI wf
        · rw [if_pos c, if_pos c]
          rcases u5 with z | ⟨q7, w1, w2, w3⟩
          · rw [z] at hpos; exact absurd (by decide) hpos
          · rw [w1, u3, pk_sub w2, nI_add]
            exact min_loop hwf hI hv ht htt y2 y3 s (k + 1) n m (acc + (q7 - s')) (by omega) (by omega) (by omega) (by omega)
        · rw [if_neg c, if_neg c]; exact skip
end PD8
