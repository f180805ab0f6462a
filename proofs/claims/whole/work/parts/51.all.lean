/-! bodies: the whole recursion -/
section RZ
variable {p : Mem} {nd : Nat → Nat} {sv : Nat → Nat → Int32} {i V its rl B B' N D : Nat} {o h e μ o' h' e' μ' : Mem}
/-- what the rest of a body comes to -/
def CPost (p : Mem) (nd : Nat → Nat) (sv : Nat → Nat → Int32) (i V its rl B F : Nat) (o e μ : Mem) (b j be : Nat) (o' h' e' μ' : Mem) (r : Int32) : Prop :=
  R p nd sv i V its rl B o' h' e' μ' ∧ Fr nd its i j b be o e μ o' e' μ' ∧ (∀ x, x < 10 → x ≠ 0 → Fm μ' i (nd b - 1) x = Fm μ i (nd b - 1) x) ∧ r = mS (o' 19 b) ∧ Fm μ' i (nd b - 1) 0 = mS (o' 19 b) ∧ BodyS p nd i F o' e' μ' b be
/-- an item has been looked at: how the loops go on -/
def After (p : Mem) (nd : Nat → Nat) (sv : Nat → Nat → Int32) (i V its rl B N D F : Nat) (d b be n2 nm : Nat) (f : Nat) : Prop :=
  ∀ (j nx mm y n1 : Nat) (o h e μ : Mem), 8 ≤ n1 + 2 * d → Ch p nd sv f d (nd b - 1) j be → b ≤ j → R p nd sv i V its rl B o h e μ → o 18 j = 0 → IdleR nd i o μ (j + 1) be → o 19 b = 1 → o 20 b = nI j → Fm μ i (nd b - 1) 0 = 1 → Qt o b j → y ≤ j → 30 ≤ nx + y → 30 ≤ mm + j →
    (∀ (o' μ' : Mem) (cur : Nat), (∀ x, b ≤ x → x < j → o' 18 x = o 18 x) → RunC p nd i o' μ' f j be cur → RunC p nd i o' μ' F b be cur) →
    ∃ o1 h1 e1, in_beginItem N rl p (kn_igo N rl p n1) (nI j) (nI d) o h e = some (o1, h1, e1) ∧ o1 19 b = 1 ∧ o1 20 b = nI j ∧
      ∃ o' h' e' μ' r, in_goOn_35 N rl p (kn_igo N rl p n2) nx (nI b) (nI d) (nI j) (nI y) o1 h1 e1 = some (o', h', e') ∧ md_looksAtBody_20 N D (kn_mlook N D nm) mm (nI i) (nI (nd b - 1)) (nI (nd j)) μ = some (r, μ') ∧ CPost p nd sv i V its rl B F o e μ b j be o' h' e' μ' r
/-- from a look at an item on -/
theorem after_look {F f d b be n1 n2 nm j nx mm y : Nat} {o1 h1 e1 μ1 : Mem} {r : Int32} (hi : i < 6) (hS : ST p nd sv its) (hN : 100 ≤ N) (hn1 : 8 ≤ n1 + 2 * d) (hn1e : n2 = n1 + 1) (hA : After p nd sv i V its rl B N D F d b be n2 nm f) (hc : Ch p nd sv (f + 1) d (nd b - 1) j be) (hb : be ≤ its) (hbj : b ≤ j) (hbs : Bst nd b)
    (hid : IdleR nd i o μ (En p j) be) (h19 : o 19 b = 1) (h20 : o 20 b = nI j) (hF1 : Fm μ i (nd b - 1) 0 = 1) (hq : Qt o b j) (hy : y ≤ j) (hnx : 30 ≤ nx + (y + 1)) (hmm : 30 ≤ mm + (j + 1)) (hpre : ∀ (o' μ' : Mem) (cur : Nat), (∀ x, b ≤ x → x < j → o' 18 x = o 18 x) → RunC p nd i o' μ' (f + 1) j be cur → RunC p nd i o' μ' F b be cur) (hI : IPost p nd sv i V its rl B f o e μ j o1 h1 e1 μ1 r) :
    ∃ o' h' e' μ' r', ((in_goesOn o1 (nI j)).bind fun k59 => if k59 = true then some (o1, h1, e1) else
          ((rd 24 (p 13) (nI j)).bind fun v74 => (rd 24 (o1 18) (nI j)).bind fun v82 => if v82 = 5 then (in_goOn_92 N rl p (kn_igo N rl p n2) (nI b) (nI j) o1 h1 e1) else
            (if v74 < 0 then (in_goOn_92 N rl p (kn_igo N rl p n2) (nI b) (nI j) o1 h1 e1) else
              (ck 24 (nI b) <| (kn_igo N rl p n2 false v74 (nI d) (up o1 20 (nI b).toNatClampNeg v74) h1 e1).bind fun (o126, h126, e126) => in_goOn_35 N rl p (kn_igo N rl p n2) nx (nI b) (nI d) v74 (nI (y + 1)) o126 h126 e126)))) = some (o', h', e') ∧
      md_looksAtBody_73 N D (kn_mlook N D nm) (md_looksAtBody_20 N D (kn_mlook N D nm) mm) (nI i) (nI (nd b - 1)) (nI (nd j)) r μ1 = some (r', μ') ∧ CPost p nd sv i V its rl B F o e μ b j be o' h' e' μ' r' := by
  have hnd := hS.1
  have hits := hnd.2.1
  have hjl := hc.lt
  have hj : j < its := by omega
  have h64 := hnd.l64 hj
  have hb64 := hnd.l64 (a := b) (by omega)
  have hbp := hnd.pos (a := b) (by omega)
  have hch := hc
  obtain ⟨m, nb, g1, g2, g3, g4, g5, g6⟩ := hc
  have he : En p j = m := En_eq g3 (by omega)
  obtain ⟨i1, i2, i3, i4⟩ := hI
  rw [he] at hid i2 i4
  have a19 := i2.1.2.2.1 b (by omega)
  have e19 : o1 19 b = 1 := a19.1.trans h19
  have e20 : o1 20 b = nI j := a19.2.trans h20
  have eF : Fm μ1 i (nd b - 1) 0 = 1 := (i2.2.2.2.2.2 b (by omega) hbs (by omega) 0 (by omega)).trans hF1
  have hq1 : Qt o1 b j := fun x x1 x2 => by rw [(i2.1.2.1 x (by omega)).1]; exact hq x x1 x2
  have hag : Ag nd i m m be o μ o1 μ1 := i2.ag hb (by omega) _ (by omega)
  have hid1 := hid.ag hag
  have fr : Fr nd its i j b be o e μ o1 e1 μ1 := i2.mono (Nat.le_refl _) (by omega) (by omega)
  have frb : ∀ x, x < 10 → x ≠ 0 → Fm μ1 i (nd b - 1) x = Fm μ i (nd b - 1) x := fun x hx _ => i2.2.2.2.2.2 b (by omega) hbs (by omega) x hx
  -- the body comes to an end
  have fin : ∀ (s : Int32), (s = 4 ∨ s = 5) → Qt o1 b be → R p nd sv i V its rl B (up o1 19 b s) h1 e1 (up μ1 5 (643 + 1262 * i + 10 * (nd b - 1) + 0) (mS s)) ∧ CPost p nd sv i V its rl B F o e μ b j be (up o1 19 b s) h1 e1 (up μ1 5 (643 + 1262 * i + 10 * (nd b - 1) + 0) (mS s)) (mS s) := by
    intro s hs hqt
    obtain ⟨z1, z2⟩ := i1.bnode (x := mS s) hi hnd (b := b) (by omega) hbs
    have z3 : R p nd sv i V its rl B (up o1 19 b s) h1 e1 (up μ1 5 (643 + 1262 * i + 10 * (nd b - 1) + 0) (mS s)) := z1.c19 (fun c x q1 q2 => up_other (by omega))
    refine ⟨z3, z3, fr.trans ⟨⟨fun w _ => up_other (by omega), fun x _ => ⟨up_other (by omega), up_other (by omega), up_other (by omega), up_other (by omega)⟩, fun x hx => ⟨up_other (by omega), up_other (by omega)⟩, fun v _ => up_other (by omega)⟩, fun _ _ => rfl, ⟨z2.1, z2.2.1, fun x hx _ w hw => ?_, fun x hx hxs hx2 w hw => z2.2.2.2 x hx hxs (by omega) w hw⟩⟩, fun x hx hx0 => (up_in (by omega)).trans (frb x hx hx0), by rw [up_at], by rw [up_at]; exact up_at, Or.inr ⟨by rw [up_at]; exact hs, fun x x1 x2 => by rw [up_other (by omega)]; exact hqt x x1 x2⟩⟩
    have := hnd.bst hx (show b < its by omega) hbs
    exact up_in (by omega)
  rcases i4 with ⟨k1, k2, k3⟩ | ⟨k1, k2⟩
  · -- it goes on
    refine ⟨o1, h1, e1, μ1, 1, ?_, ?_, i1, fr, frb, by rw [e19]; rfl, by rw [e19]; exact eF, Or.inl ⟨e19, j, e20, ?_, ?_⟩⟩
    · rw [goesOn_t (by omega) k1, Option.bind_some, if_pos rfl]
    · unfold md_looksAtBody_73
      have : r = 1 ∨ r = 5 := by
        rw [i3]
        rcases k1 with z | z | z <;> rw [z]
        · exact Or.inl rfl
        · exact Or.inl rfl
        · exact Or.inr rfl
      rcases this with z | z
      · rw [if_neg (by rw [z]; decide), if_neg (by rw [z]; decide)]
      · rw [if_neg (by rw [z]; decide), if_neg (by rw [z]; decide)]
    · refine hpre o1 μ1 j (fun x x1 x2 => (i2.1.2.1 x (by omega)).1) (Or.inl ⟨rfl, k1, by rw [he]; exact hid1, by rw [he]; exact k2⟩)
    · exact (StR.qt hq1).app (k3.app (StR.qt hid1.qt))
  · have hng : ¬ Gi (o1 18 j) := k2 j (Nat.le_refl _) g1
    rw [goesOn_f (by omega) hng, Option.bind_some, if_neg (by decide), rd_nI (by omega) (by decide), Option.bind_some, rd_nI (by omega) (by decide), Option.bind_some]
    have h92 : in_goOn_92 N rl p (kn_igo N rl p n2) (nI b) (nI j) o1 h1 e1 = if o1 18 j = 5 then some (up o1 19 b 5, h1, e1) else some (up o1 19 b 4, h1, e1) := by
      unfold in_goOn_92
      rw [rd_nI (by omega) (by decide), Option.bind_some]
      by_cases z : o1 18 j = 5
      · rw [if_pos z, if_pos z, ck_nI (by omega) (by decide), nI_clamp (by omega)]
      · rw [if_neg z, if_neg z, ck_nI (by omega) (by decide), nI_clamp (by omega)]
    by_cases q5 : o1 18 j = 5
    · -- failed
      have hqt : Qt o1 b be := hq1.app (k2.app hid1.qt)
      obtain ⟨z1, z2⟩ := fin 5 (Or.inr rfl) hqt
      refine ⟨_, h1, e1, _, _, ?_, ?_, z2⟩
      · rw [if_pos q5, h92, if_pos q5]
      · unfold md_looksAtBody_73
        rw [i3, q5, if_pos (show mS 5 = 3 by decide), comesTo_ev hi (by omega)]
        rfl
    · have q4 : o1 18 j = 4 := by rcases k1 with z | z; exact z; exact absurd z q5
      have hr : r = 2 := by rw [i3, q4]; rfl
      rw [if_neg q5]
      rcases g5 with ⟨w1, w2, w3⟩ | ⟨w1, w2, w3, w4⟩
      · -- the last item
        have hqt : Qt o1 b be := hq1.app (by rw [← w1]; exact k2)
        obtain ⟨z1, z2⟩ := fin 4 (Or.inl rfl) hqt
        refine ⟨_, h1, e1, _, _, ?_, ?_, z2⟩
        · rw [w2, if_pos (by decide), h92, if_neg q5]
        · unfold md_looksAtBody_73
          rw [hr, if_neg (by decide), if_pos rfl, i1.1.np6 hi h64, Option.bind_some, w3]
          obtain ⟨mm, rfl⟩ : ∃ x, mm = x + 1 := ⟨mm - 1, by omega⟩
          unfold md_looksAtBody_20
          rw [if_pos (by decide), show (2 : Int32) = mS 4 from rfl, comesTo_ev hi (by omega)]
          rfl
      · -- the next one
        have hR3 : R p nd sv i V its rl B (up o1 20 b (nI m)) h1 e1 μ1 := i1.c19 (fun c x x1 x2 => up_other (by omega))
        have hid3 : IdleR nd i (up o1 20 b (nI m)) μ1 m be := fun x x1 x2 => by
          rw [up_other (by omega), up_other (by omega)]; exact hid1 x x1 x2
        obtain ⟨o4, h4, e4, y1, y2, y3, o5, h5, e5, μ5, r5, y4, y5, y6, y7, y8, y9⟩ := hA m nx mm (y + 1) n1 (up o1 20 b (nI m)) h1 e1 μ1 hn1 w4 (by omega) hR3 (hid3 m (Nat.le_refl _) w1).1 (hid3.sub (by omega) (Nat.le_refl _)) (by rw [up_other (by omega)]; exact e19) up_at eF (fun x x1 x2 => by
            rw [up_other (by omega)]
            by_cases z : x < j
            · exact hq1 x x1 z
            · exact k2 x (by omega) x2) (by omega) hnx (by omega)
          (fun o' μ' cur hx hr' => hpre o' μ' cur (fun x x1 x2 => by rw [hx x x1 (by omega), up_other (by omega)]; exact (i2.1.2.1 x (by omega)).1) (Or.inr ⟨by rw [hx j (by omega) g1, up_other (by omega), q4]; exact Dn4, fun x x1 x2 => by
              rw [he] at x2
              rw [hx x (by omega) x2, up_other (by omega)]; exact k2 x x1 x2, by rw [he]; exact w1, by rw [he]; exact hr'⟩))
        refine ⟨o5, h5, e5, μ5, r5, ?_, ?_, y6, fr.trans (Fr.trans ⟨⟨fun w _ => up_other (by omega), fun x _ => ⟨up_other (by omega), up_other (by omega), up_other (by omega), up_other (by omega)⟩, fun x hx => ⟨up_other (by omega), up_other (by omega)⟩, fun v _ => up_other (by omega)⟩, fun _ _ => rfl, FrM.refl⟩ (y7.mono (by omega) (Nat.le_refl _) (Nat.le_refl _))), fun x hx hx0 => (y8 x hx hx0).trans (frb x hx hx0), y9⟩
        · rw [w2, if_neg (nI_pos (by omega)), ck_nI (by omega) (by decide), nI_clamp (by omega), hn1e, igo_f]
          rw [y1, Option.bind_some]
          dsimp only
          rw [← hn1e]
          exact y4
        · unfold md_looksAtBody_73
          rw [hr, if_neg (by decide), if_pos rfl, i1.1.np6 hi h64, Option.bind_some, w3]
          exact y5
/-- the loop of a body, an item being looked at -/
theorem goOn35_ev {b d j nx y n2 : Nat} (hj : j < 24) (hy : y < 24) : in_goOn_35 N rl p (kn_igo N rl p n2) (nx + 1) (nI b) (nI d) (nI j) (nI y) o h e = (in_lookAt N rl p (kn_igo N rl p n2) (nI j) (nI d) o h e).bind fun (o54, h54, e54) =>
      ((in_goesOn o54 (nI j)).bind fun k59 => if k59 = true then some (o54, h54, e54) else
          ((rd 24 (p 13) (nI j)).bind fun v74 => (rd 24 (o54 18) (nI j)).bind fun v82 => if v82 = 5 then (in_goOn_92 N rl p (kn_igo N rl p n2) (nI b) (nI j) o54 h54 e54) else
            (if v74 < 0 then (in_goOn_92 N rl p (kn_igo N rl p n2) (nI b) (nI j) o54 h54 e54) else
              (ck 24 (nI b) <| (kn_igo N rl p n2 false v74 (nI d) (up o54 20 (nI b).toNatClampNeg v74) h54 e54).bind fun (o126, h126, e126) => in_goOn_35 N rl p (kn_igo N rl p n2) nx (nI b) (nI d) v74 (nI (y + 1)) o126 h126 e126)))) := by
  conv => lhs; unfold in_goOn_35
  rw [if_pos (show nI y < 24 from nI_lt (b := 24) hy (by decide)), ins24 hj, Option.bind_some, if_pos rfl, nI_1]
theorem look20_ev {b j mm nm : Nat} {s : Int32} (hi : i < 6) (hj : nd j < 64) (hs : Fm μ i (nd j) 0 = s) : md_looksAtBody_20 N D (kn_mlook N D nm) (mm + 1) (nI i) (nI b) (nI (nd j)) μ =
    if s = 0 then ((md_begins N D (kn_mlook N D nm) (nI i) (nI (nd j)) μ).bind fun (k45, μ45) => md_looksAtBody_73 N D (kn_mlook N D nm) (md_looksAtBody_20 N D (kn_mlook N D nm) mm) (nI i) (nI b) (nI (nd j)) k45 μ45)
    else if s = 1 ∨ s = 5 then ((md_looks N D (kn_mlook N D nm) (nI i) (nI (nd j)) μ).bind fun (k68, μ68) => md_looksAtBody_73 N D (kn_mlook N D nm) (md_looksAtBody_20 N D (kn_mlook N D nm) mm) (nI i) (nI b) (nI (nd j)) k68 μ68)
    else md_looksAtBody_73 N D (kn_mlook N D nm) (md_looksAtBody_20 N D (kn_mlook N D nm) mm) (nI i) (nI b) (nI (nd j)) s μ := by
  conv => lhs; unfold md_looksAtBody_20
  unfold md_looksAtBody_65
  rw [if_neg (nI_pos (by omega)), at_0, Option.bind_some, rd_nI (by omega) (by decide), Option.bind_some, show μ 5 (643 + 1262 * i + 10 * nd j + 0) = s from hs]
  by_cases q0 : s = 0
  · rw [if_pos q0, if_pos q0]
  · rw [if_neg q0, if_neg q0]
    by_cases q1 : s = 1
    · rw [if_pos q1, if_pos (Or.inl q1)]
    · rw [if_neg q1]
      by_cases q5 : s = 5
      · rw [if_pos q5, if_pos (Or.inr q5)]
      · rw [if_neg q5, if_neg (fun z => z.elim q1 q5)]
/-- an item of a body is begun, and all behind it as far as it goes -/
theorem after_all {F d b be n2 nm : Nat} (hi : i < 6) (hS : ST p nd sv its) (hN : 100 ≤ N) (hD : 9 ≤ D) (hB : B < 3600) (hIH : ∀ f, f < F → GoS p nd sv i V its rl B N D f ∧ BgS p nd sv i V its rl B N D f) (hb : be ≤ its) (hbs : Bst nd b) (hn2 : 9 ≤ n2 + 2 * d) (hn20 : 1 ≤ n2) (hnm : 4 ≤ nm + d) :
    ∀ f, f ≤ F → After p nd sv i V its rl B N D F d b be n2 nm f
  | 0, _ => fun j nx mm y n1 o h e μ _ hc => hc.elim
  | f + 1, hf => fun j nx mm y n1 o h e μ hn1 hc hbj H x1 hid h19 h20 hF1 hq hy hnx hmm hpre => by
    have hnd := hS.1
    have hits := hnd.2.1
    have hjl := hc.lt
    have hj : j < its := by omega
    have h64 := hnd.l64 hj
    have hjm : j < En p j ∧ En p j ≤ be := by
      obtain ⟨m, nb, z1, z2, z3, _⟩ := hc
      rw [En_eq z3 (by omega)]; omega
    obtain ⟨hG, hBg⟩ := hIH f (by omega)
    obtain ⟨o1, h1, e1, o2, h2, e2, μ2, r, y1, y2, y3, y4, y5⟩ := begin_item (n1 := n1) (n2 := n2) (nm := nm) hi hS hN hD hB hBg hG hc hb H (hid.sub (by omega) (by omega)) x1 hn1 hn2 hnm
    obtain ⟨nx, rfl⟩ : ∃ x, nx = x + 1 := ⟨nx - 1, by omega⟩
    obtain ⟨mm, rfl⟩ : ∃ x, mm = x + 1 := ⟨mm - 1, by omega⟩
    obtain ⟨o5, h5, e5, μ5, r5, z1, z2, z3⟩ := after_look (nx := nx) (mm := mm) (y := y) (n1 := n2 - 1) hi hS hN (by omega) (by omega) (after_all hi hS hN hD hB hIH hb hbs hn2 hn20 hnm f (by omega)) hc hb hbj hbs (hid.sub (by omega) (Nat.le_refl _)) h19 h20 hF1 hq hy (by omega) (by omega) hpre y5
    obtain ⟨b1, b2⟩ := y4 b (by omega)
    refine ⟨o1, h1, e1, y1, b1.trans h19, b2.trans h20, o5, h5, e5, μ5, r5, ?_, ?_, z3⟩
    · rw [goOn35_ev (by omega) (by omega), y2, Option.bind_some]
      exact z1
    · rw [look20_ev hi h64 (s := 0) (by rw [(H.2.2.2.2.2.1 j hj).1, x1]; rfl), if_pos rfl, y3, Option.bind_some]
      exact z2
/-- the reference passes over the items that are done -/
theorem skip_done (hi : i < 6) (hn : NdS nd its) (H : R p nd sv i V its rl B o h e μ) {bn nm be : Nat} (hb : be ≤ its) : ∀ (f d j cur mm : Nat), Ch p nd sv f d bn j be → RunC p nd i o μ f j be cur → 30 ≤ mm + j →
    ∃ f' mm', f' + 1 ≤ f ∧ 30 ≤ mm' + cur ∧ j ≤ cur ∧ cur < be ∧ Ch p nd sv (f' + 1) d bn cur be ∧ Gi (o 18 cur) ∧ IdleR nd i o μ (En p cur) be ∧ GoI p nd i o μ (RunC p nd i o μ f') cur (En p cur) ∧ Qt o j cur ∧
      md_looksAtBody_20 N D (kn_mlook N D nm) mm (nI i) (nI bn) (nI (nd j)) μ = md_looksAtBody_20 N D (kn_mlook N D nm) mm' (nI i) (nI bn) (nI (nd cur)) μ ∧
      ∀ (o' μ' : Mem) (c : Nat), (∀ x, j ≤ x → x < cur → o' 18 x = o 18 x) → RunC p nd i o' μ' (f' + 1) cur be c → RunC p nd i o' μ' f j be c
  | 0, _, _, _, _, h, _, _ => h.elim
  | f + 1, d, j, cur, mm, h, hr, hmm => by
    have hch := h
    have hjl := h.lt
    have hits := hn.2.1
    rcases hr with ⟨q1, q2, q3, q4⟩ | ⟨q1, q2, q3, q4⟩
    · subst q1
      exact ⟨f, mm, Nat.le_refl _, hmm, Nat.le_refl _, hjl, hch, q2, q3, q4, fun k k1 k2 => by omega, rfl, fun _ _ _ _ z => z⟩
    · obtain ⟨m, nb, h1, h2, h3, h4, h5, h6⟩ := h
      have he : En p j = m := En_eq h3 (by omega)
      rw [he] at q2 q3 q4
      rcases h5 with ⟨r1, _⟩ | ⟨r1, r2, r3, r4⟩
      · omega
      · obtain ⟨mm, rfl⟩ : ∃ x, mm = x + 1 := ⟨mm - 1, by omega⟩
        obtain ⟨f', mm', w0, w1, w2, w3, w4, w5, w6, w7, w8, w9, w10⟩ := skip_done hi hn H hb f d m cur mm r4 q4 (by omega)
        have h64 := hn.l64 (a := j) (by omega)
        have hs2 : Fm μ i (nd j) 0 = 2 := by
          rw [(H.2.2.2.2.2.1 j (by omega)).1]
          rcases q1 with z | z | z <;> rw [z] <;> rfl
        refine ⟨f', mm', by omega, w1, by omega, w3, w4, w5, w6, w7, q2.app w8, ?_, fun o' μ' c hx hr' => ?_⟩
        · rw [look20_ev hi h64 hs2, if_neg (by decide), if_neg (by decide)]
          unfold md_looksAtBody_73
          rw [if_neg (by decide), if_pos rfl, H.1.np6 hi h64, Option.bind_some, r3]
          exact w9
        · refine Or.inr ⟨by rw [hx j (Nat.le_refl _) (by omega)]; exact q1, fun x x1 x2 => by
            rw [he] at x2
            rw [hx x x1 (by omega)]; exact q2 x x1 x2, by rw [he]; exact q3, by rw [he]; exact w10 o' μ' c (fun x x1 x2 => hx x (by omega) x2) hr'⟩
theorem lab_ev {b nm : Nat} (hV : Vr i V sv μ) (hi : i < 6) (hb : nd b < 64) (h5 : sv (nd b - 1) 5 = nI (nd b)) : md_looksAtBody N D (kn_mlook N D nm) (nI i) (nI (nd b - 1)) μ = md_looksAtBody_20 N D (kn_mlook N D nm) N (nI i) (nI (nd b - 1)) (nI (nd b)) (up μ 5 (643 + 1262 * i + 10 * (nd b - 1) + 0) 1) := by
  unfold md_looksAtBody
  rw [at_0, Option.bind_some, ck_nI (by omega) (by decide), nI_clamp (by omega)]
  have hV2 : Vr i V sv (up μ 5 (643 + 1262 * i + 10 * (nd b - 1) + 0) 1) := hV.fr (up_row (by decide)) (up_row (by decide)) (up_in (by omega)) (up_in (by omega))
  rw [hV2.np5 hi (by omega), Option.bind_some, h5]
/-- the same, and of the body's node nothing but its state changes -/
def GoX (p : Mem) (nd : Nat → Nat) (sv : Nat → Nat → Int32) (i V its rl B N D f : Nat) : Prop :=
  ∀ (d b be n nm cu : Nat) (o h e μ : Mem), Ch p nd sv f d (nd b - 1) b be → be ≤ its → d ≤ 4 → Bst nd b → sv (nd b - 1) 5 = nI (nd b) → R p nd sv i V its rl B o h e μ → o 19 b = 1 → Fm μ i (nd b - 1) 0 = 1 → o 20 b = nI cu → RunC p nd i o μ f b be cu → 9 ≤ n + 2 * d → 4 ≤ nm + d →
    ∃ o' h' e' μ' r, in_goOn N rl p (kn_igo N rl p n) (nI b) (nI d) o h e = some (o', h', e') ∧ md_looksAtBody N D (kn_mlook N D nm) (nI i) (nI (nd b - 1)) μ = some (r, μ') ∧ BPost p nd sv i V its rl B f o e μ b be o' h' e' μ' r ∧ ∀ x, x < 10 → x ≠ 0 → Fm μ' i (nd b - 1) x = Fm μ i (nd b - 1) x
def BgX (p : Mem) (nd : Nat → Nat) (sv : Nat → Nat → Int32) (i V its rl B N D f : Nat) : Prop :=
  ∀ (d b be n nm : Nat) (o h e μ : Mem), Ch p nd sv f d (nd b - 1) b be → be ≤ its → d ≤ 4 → Bst nd b → sv (nd b - 1) 5 = nI (nd b) → R p nd sv i V its rl B o h e μ → IdleR nd i o μ b be → 10 ≤ n + 2 * d → 4 ≤ nm + d →
    ∃ o' h' e' μ' r, in_beginBody N rl p (kn_igo N rl p n) (nI b) (nI d) o h e = some (o', h', e') ∧ md_looksAtBody N D (kn_mlook N D nm) (nI i) (nI (nd b - 1)) μ = some (r, μ') ∧ BPost p nd sv i V its rl B f o e μ b be o' h' e' μ' r ∧ ∀ x, x < 10 → x ≠ 0 → Fm μ' i (nd b - 1) x = Fm μ i (nd b - 1) x
theorem GoX.go {f : Nat} (h : GoX p nd sv i V its rl B N D f) : GoS p nd sv i V its rl B N D f := fun d b be n nm cu o h' e μ a1 a2 a3 a4 a5 a6 a7 a8 a9 a10 a11 a12 => by
  obtain ⟨o', h2, e', μ', r, x1, x2, x3, _⟩ := h d b be n nm cu o h' e μ a1 a2 a3 a4 a5 a6 a7 a8 a9 a10 a11 a12
  exact ⟨o', h2, e', μ', r, x1, x2, x3⟩
theorem BgX.bg {f : Nat} (h : BgX p nd sv i V its rl B N D f) : BgS p nd sv i V its rl B N D f := fun d b be n nm o h' e μ a1 a2 a3 a4 a5 a6 a7 a8 a9 => by
  obtain ⟨o', h2, e', μ', r, x1, x2, x3, _⟩ := h d b be n nm o h' e μ a1 a2 a3 a4 a5 a6 a7 a8 a9
  exact ⟨o', h2, e', μ', r, x1, x2, x3⟩
theorem go_all (hi : i < 6) (hS : ST p nd sv its) (hN : 100 ≤ N) (hD : 9 ≤ D) (hB : B < 3600) : ∀ F, GoX p nd sv i V its rl B N D F ∧ BgX p nd sv i V its rl B N D F := by
  intro F
  induction F using Nat.strongRecOn with
  | _ F hIX =>
    have hIH : ∀ f, f < F → GoS p nd sv i V its rl B N D f ∧ BgS p nd sv i V its rl B N D f := fun f hf => ⟨(hIX f hf).1.go, (hIX f hf).2.bg⟩
    have hnd := hS.1
    have hits := hnd.2.1
    refine ⟨?_, ?_⟩
    · intro d b be n nm cu o h e μ hc hb hd hbs h5 H h19 hF1 h20 hr hn hnm
      have hbl := hc.lt
      have hb64 := hnd.l64 (a := b) (by omega)
      obtain ⟨f', mm', w0, w1, w2, w3, w4, w5, w6, w7, w8, w9, w10⟩ := skip_done (nm := nm) (N := N) (D := D) hi hnd H hb F d b cu N hc hr (by omega)
      obtain ⟨n1, rfl⟩ : ∃ x, n = x + 1 := ⟨n - 1, by omega⟩
      obtain ⟨mm', rfl⟩ : ∃ x, mm' = x + 1 := ⟨mm' - 1, by omega⟩
      obtain ⟨hG, hBg⟩ := hIH f' (by omega)
      obtain ⟨o2, h2, e2, μ2, r, y1, y2, y3⟩ := look_item (n := n1 + 1) (nm := nm) hi hS hN hD hB hG w4 hb H w5 w7 hn hnm
      obtain ⟨M, hM⟩ : ∃ M, N = M + 1 := ⟨N - 1, by omega⟩
      obtain ⟨o5, h5', e5, μ5, r5, z1, z2, z3⟩ := after_look (F := F) (nx := M) (mm := mm') (y := 0) (n1 := n1) (n2 := n1 + 1) (nm := nm) hi hS hN (by omega) rfl (after_all hi hS hN hD hB hIH hb hbs hn (by omega) hnm f' (by omega)) w4 hb w2 hbs w6 h19 h20 hF1 w8 (by omega) (by omega) (by omega) (fun o' μ' c hx hr' => w10 o' μ' c hx hr') y3
      refine ⟨o5, h5', e5, μ5, r5, ?_, ?_, ⟨z3.1, z3.2.1.mono w2 (Nat.le_refl _) (Nat.le_refl _), z3.2.2.2⟩, z3.2.2.1⟩
      · unfold in_goOn
        rw [ins24 (by omega), Option.bind_some, if_pos rfl, rd_nI (by omega) (by decide), Option.bind_some, h19, if_pos rfl, if_neg (show ¬ 4 < nI d from nI_nlt (a := 4) hd (by decide)), rd_nI (by omega) (by decide), Option.bind_some, h20]
        have key : in_goOn_35 N rl p (kn_igo N rl p (n1 + 1)) (M + 1) (nI b) (nI d) (nI cu) (nI 0) o h e = some (o5, h5', e5) := by
          rw [goOn35_ev (by omega) (by omega), y1, Option.bind_some]
          exact z1
        rw [← hM] at key
        exact key
      · rw [lab_ev H.1 hi hb64 h5, up_self (show μ 5 (643 + 1262 * i + 10 * (nd b - 1) + 0) = 1 from hF1), w9]
        have h15 : mS (o 18 cu) = 1 ∨ mS (o 18 cu) = 5 := by
          rcases w5 with z | z | z <;> rw [z]
          · exact Or.inl rfl
          · exact Or.inl rfl
          · exact Or.inr rfl
        rw [look20_ev hi (hnd.l64 (by omega)) (H.2.2.2.2.2.1 cu (by omega)).1, if_neg (by rcases h15 with z | z <;> rw [z] <;> decide), if_pos h15, y2, Option.bind_some]
        exact z2
    · intro d b be n nm o h e μ hc hb hd hbs h5 H hid hn hnm
      have hbl := hc.lt
      have hb64 := hnd.l64 (a := b) (by omega)
      have hbp := hnd.pos (a := b) (by omega)
      obtain ⟨n2, rfl⟩ : ∃ x, n = x + 1 := ⟨n - 1, by omega⟩
      obtain ⟨z1, z2⟩ := H.bnode (x := 1) hi hnd (b := b) (by omega) hbs
      have hR1 : R p nd sv i V its rl B (up (up o 19 b 1) 20 b (nI b)) h e (up μ 5 (643 + 1262 * i + 10 * (nd b - 1) + 0) 1) := z1.c19 (fun c x q1 q2 => by rw [up_other (by omega), up_other (by omega)])
      have hid1 : IdleR nd i (up (up o 19 b 1) 20 b (nI b)) (up μ 5 (643 + 1262 * i + 10 * (nd b - 1) + 0) 1) (b + 1) be := fun x x1 x2 => by
        obtain ⟨w1, w2, w3⟩ := hid x (by omega) x2
        refine ⟨by rw [up_other (by omega), up_other (by omega)]; exact w1, by rw [up_other (by omega), up_other (by omega)]; exact w2, fun hs => ?_⟩
        rw [z2.2.2.2 x (by omega) hs (by omega) 0 (by omega)]; exact w3 hs
      obtain ⟨o1, h1, e1, y1, y2, y3, o5, h5', e5, μ5, r5, y4, y5, y6, y7, y8, y9⟩ := after_all (F := F) (d := d) (b := b) (be := be) (n2 := n2) (nm := nm) hi hS hN hD hB hIH hb hbs (by omega) (by omega) hnm F (Nat.le_refl _) b N N 0 n2 _ h e _ (by omega) hc (Nat.le_refl _) hR1 (by rw [up_other (by omega), up_other (by omega)]; exact (hid b (Nat.le_refl _) hbl).1) hid1 (by rw [up_other (by omega), up_at]) up_at up_at (fun x x1 x2 => by omega) (by omega) (by omega) (by omega) (fun _ _ _ _ z => z)
      refine ⟨o5, h5', e5, μ5, r5, ?_, ?_, ⟨y6, Fr.trans ⟨⟨fun w _ => ?_, fun x hx => ⟨?_, ?_, ?_, ?_⟩, fun x hx => ⟨?_, ?_⟩, fun v _ => ?_⟩, fun _ _ => rfl, z2.1, z2.2.1, fun x hx _ w hw => z2.2.2.1 x hx ?_ w hw, fun x hx hs hx2 w hw => z2.2.2.2 x hx hs (by omega) w hw⟩ y7, y9⟩, fun x hx hx0 => (y8 x hx hx0).trans (up_in (by omega))⟩
      · unfold in_beginBody
        rw [ins24 (by omega), Option.bind_some, if_pos rfl, if_neg (show ¬ 4 < nI d from nI_nlt (a := 4) hd (by decide)), ck_nI (by omega) (by decide), ck_nI (by omega) (by decide), nI_clamp (by omega), igo_f, y1, Option.bind_some]
        dsimp only
        rw [igo_t]
        have hgo : in_goOn N rl p (kn_igo N rl p n2) (nI b) (nI d) o1 h1 e1 = some (o5, h5', e5) := by
          unfold in_goOn
          rw [ins24 (by omega), Option.bind_some, if_pos rfl, rd_nI (by omega) (by decide), Option.bind_some, y2, if_pos rfl, if_neg (show ¬ 4 < nI d from nI_nlt (a := 4) hd (by decide)), rd_nI (by omega) (by decide), Option.bind_some, y3]
          exact y4
        rw [hgo]; rfl
      · rw [lab_ev H.1 hi hb64 h5]
        exact y5
      · rw [up_other (by omega), up_other (by omega)]
      · rw [up_other (by omega), up_other (by omega)]
      · rw [up_other (by omega), up_other (by omega)]
      · rw [up_other (by omega), up_other (by omega)]
      · rw [up_other (by omega), up_other (by omega)]
      · rw [up_other (by omega), up_other (by omega)]
      · rw [up_other (by omega), up_other (by omega)]
      · rw [up_other (by omega), up_other (by omega)]
      · omega
end RZ
