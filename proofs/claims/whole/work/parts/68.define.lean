/-! what has been read becomes a version -/
section PB4
variable {μ p p' μ' : Mem} {len N D its nn W V : Nat} {nd : Nat → Nat}
def svT (μ : Mem) (nn n w : Nat) : Int32 := if n = 64 then nI nn else SvR μ n w
theorem NR.cover {sv : Nat → Nat → Int32} (h : NR nd sv 0 its 1 nn) (h0 : nd 0 = 1) (s0 : sv 0 0 = 0) : ∀ k, k < its → ∀ t, t < nd k + 1 → (∃ j, j < its ∧ t = nd j) ∨ (sv t 0 = 0 ∧ ∃ b, b < its ∧ Bst nd b ∧ t = nd b - 1)
  | 0, hk, t, ht => by
    rw [h0] at ht
    by_cases q : t = 0
    · subst q
      exact Or.inr ⟨s0, 0, hk, Or.inl rfl, by rw [h0]⟩
    · exact Or.inl ⟨0, hk, by omega⟩
  | k + 1, hk, t, ht => by
    by_cases q : t < nd k + 1
    · exact NR.cover h h0 s0 k (by omega) t q
    · rcases h.2.2.2 k (Nat.zero_le _) hk with z | ⟨z, z2⟩
      · exact Or.inl ⟨k + 1, hk, by omega⟩
      · by_cases q2 : t = nd k + 1
        · subst q2
          exact Or.inr ⟨z2, k + 1, hk, Or.inr (by rw [show k + 1 - 1 = k from rfl]; exact z), by omega⟩
        · exact Or.inl ⟨k + 1, hk, by omega⟩
theorem TxO.st (h : TxO len p μ p' μ' its nn W nd) : ST p' nd (svT μ' nn) its ∧ (∀ f, its ≤ f → Ch p' nd (svT μ' nn) f 0 0 0 its) ∧ nn ≤ 48 := by
  obtain ⟨h1, h2, h3, h4, h5, h6, h7, h8, h9, h10, h11, h12, h13, h14, h15, h16, h17, h18, h19, h20⟩ := h
  have hbd := h5.bd
  have hsv : ∀ n w, n ≠ 64 → svT μ' nn n w = SvR μ' n w := fun n w hn => if_neg hn
  have hch : ∀ f, its ≤ f → Ch p' nd (svT μ' nn) f 0 0 0 its := fun f hf => by
    refine Ch.ext _ _ _ _ _ (h11 f hf).1 h2 (fun x _ _ => ⟨rfl, rfl, rfl, fun _ _ => rfl⟩) (fun x x1 x2 => ?_)
    have hb := hbd x x1 x2
    exact ⟨rfl, fun w _ => hsv _ _ (by omega), fun _ w _ => hsv _ _ (by omega)⟩
  have hlast : nd (its - 1) + 1 = nn := h5.2.2.1
  refine ⟨⟨⟨h1, h2, h4, fun j hj => by have := hbd j (Nat.zero_le _) hj; omega, fun j hj => ?_⟩, fun j hj => ?_, ⟨its, hch its (Nat.le_refl _)⟩, ?_, ?_, ?_, ?_, nn, if_pos rfl, by omega, by omega, fun j hj => (hbd j (Nat.zero_le _) hj).2, fun t ht => ?_⟩, hch, by omega⟩
  · rcases h5.2.2.2 j (Nat.zero_le _) hj with z | ⟨z, _⟩
    · exact Or.inl z
    · exact Or.inr z
  · have hb := hbd j (Nat.zero_le _) hj
    exact (h6 j hj).ext rfl (fun _ _ _ => rfl) (fun w _ => hsv _ _ (by omega))
  · rw [hsv 0 0 (by decide)]; exact h7
  · rw [hsv 0 5 (by decide)]; exact h8
  · rw [hsv 0 6 (by decide)]; exact h9
  · rw [hsv 0 8 (by decide)]; exact h10
  · have := h5.cover h4 h7 (its - 1) (by omega) t (by omega)
    rcases this with z | ⟨z1, z2⟩
    · exact Or.inl z
    · exact Or.inr ⟨by rw [hsv t 0 (by omega)]; exact z1, z2⟩
/-- the nodes are copied to the version's place -/
theorem copy_loop {y1 y3 y4 : Int32} (hV : V < 16) : ∀ (s k n : Nat) (μ : Mem), k + s = 576 → s < n → ∃ (μc : Mem) (n' : Nat), md_define_149 N D n y1 y3 y4 (nI V) (nI k) μ = md_define_149 N D (n' + 1) y1 y3 y4 (nI V) (nI 576) μc ∧ (∀ c, c ≠ 1 → μc c = μ c) ∧ (∀ x, k ≤ x → x < 576 → μc 1 (576 * V + x) = μ 1 (9216 + x)) ∧ ∀ x, ¬ (576 * V + k ≤ x ∧ x < 576 * V + 576) → μc 1 x = μ 1 x
  | 0, k, n, μ, hk, hn => by
    obtain ⟨n, rfl⟩ : ∃ x, n = x + 1 := ⟨n - 1, by omega⟩
    refine ⟨μ, n, by rw [show k = 576 by omega], fun _ _ => rfl, fun x x1 x2 => by omega, fun _ _ => rfl⟩
  | s + 1, k, n, μ, hk, hn => by
    obtain ⟨n, rfl⟩ : ∃ x, n = x + 1 := ⟨n - 1, by omega⟩
    obtain ⟨μc, n', z1, z2, z3, z4⟩ := copy_loop (y1 := y1) (y3 := y3) (y4 := y4) hV s (k + 1) n (up μ 1 (576 * V + k) (μ 1 (9216 + k))) (by omega) (by omega)
    refine ⟨μc, n', ?_, fun c hc => (z2 c hc).trans (up_row hc), fun x x1 x2 => ?_, fun x hx => ?_⟩
    · rw [← z1]
      conv => lhs; unfold md_define_149
      have e1 : md_part (nI V) 0 0 = some (nI (576 * V)) := by
        unfold md_part
        rw [show (64 : Int32) = nI 64 from rfl, show (9 : Int32) = nI 9 from rfl, show (0 : Int32) = nI 0 from rfl, pk_mul, nI_add, pk_mul, nI_add]
        congr 2; omega
      have e2 : md_part 16 0 0 = some (nI 9216) := by decide
      rw [if_pos (show nI k < 576 from nI_lt (b := 576) (by omega) (by decide)), e1, e2, Option.bind_some, Option.bind_some, nI_add, nI_add, rd_nI (by omega) (by decide), Option.bind_some, ck_nI (by omega) (by decide), nI_clamp (by omega), nI_1]
    · by_cases q : x = k
      · subst q
        rw [z4 _ (by omega), up_at]
      · rw [z3 x (by omega) x2, up_in (by omega)]
    · rw [z4 x (by omega), up_in (by omega)]
end PB4
