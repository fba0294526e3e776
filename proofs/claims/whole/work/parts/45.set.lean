/-! groups -/
def sub (a b : Nat) : Prop := ∀ i, a.testBit i = true → b.testBit i = true
theorem sub_nd {a b : Nat} : nd a b = 0 ↔ sub a b := by
  constructor
  · intro h i hi
    exact nd_0 h hi
  · intro h
    apply Nat.eq_of_testBit_eq
    intro i
    rw [nd_tb, Nat.zero_testBit]
    cases e : a.testBit i
    · rfl
    · rw [h i e]; rfl
theorem sub_le {a b : Nat} (h : sub a b) : a ≤ b := by
  have e : a &&& b = a := by
    apply Nat.eq_of_testBit_eq
    intro i
    rw [Nat.testBit_and]
    cases q : a.testBit i
    · rfl
    · rw [h i q]; rfl
  rw [← e]
  exact Nat.and_le_right
theorem sub_refl (a : Nat) : sub a a := fun _ h => h
theorem sub_trans {a b c : Nat} (h : sub a b) (k : sub b c) : sub a c := fun i q => k i (h i q)
theorem sub_eq {a b : Nat} (h : sub a b) (k : sub b a) : a = b := Nat.le_antisymm (sub_le h) (sub_le k)
theorem nd_sub (a b : Nat) : sub (nd a b) a := fun i h => by
  rw [nd_tb] at h
  cases e : a.testBit i
  · rw [e] at h; cases h
  · rfl
theorem tb_ne {a : Nat} (h : a ≠ 0) : ∃ i, a.testBit i = true := Nat.exists_testBit_of_ne_zero h
theorem tb_6 {a i : Nat} (h : a < 64) (hi : a.testBit i = true) : i < 6 := by
  rcases Nat.lt_or_ge i 6 with q | q
  · exact q
  · have : a.testBit i = false := Nat.testBit_lt_two_pow (Nat.lt_of_lt_of_le (show a < 2 ^ 6 by omega) (Nat.pow_le_pow_right (by decide) q))
    rw [this] at hi
    cases hi
theorem tb_p (p i : Nat) : (2 ^ p).testBit i = decide (p = i) := Nat.testBit_two_pow
theorem sub_p {p a : Nat} : sub (2 ^ p) a ↔ a.testBit p = true := by
  constructor
  · intro h
    exact h p (by rw [tb_p]; simp)
  · intro h i hi
    rw [tb_p] at hi
    have := of_decide_eq_true hi
    subst this
    exact h
/-- two ways to say that a set is what another leaves -/
theorem nd_nd {a b : Nat} (h : sub b a) : nd a (nd a b) = b := by
  apply Nat.eq_of_testBit_eq
  intro i
  rw [nd_tb, nd_tb]
  cases e : b.testBit i
  · cases a.testBit i <;> rfl
  · rw [h i e]; rfl
theorem nd_lt' {a b : Nat} (h0 : b ≠ 0) (h : sub b a) : nd a b < a := by
  have h1 := sub_le (nd_sub a b)
  have h2 : nd a b ≠ a := nd_ne (sub_nd.mpr h) h0
  omega
theorem nd_64 {a b : Nat} (h : a < 64) : nd a b < 64 := nd_lt (k := 6) h
theorem nd_clr {a p : Nat} : nd a (2 ^ p) = nd a (2 ^ p) := rfl
theorem evS_nd {b : Nat → Int32} {c t v : Nat} (h : sub t v) : evS b c v = evS b c t + evS b c (nd v t) := by
  unfold evS
  rw [← sumN_add]
  refine sumN_c c (fun i _ => ?_)
  rw [nd_tb]
  cases e : t.testBit i
  · cases v.testBit i <;> simp
  · rw [h i e]; simp
theorem evS_6 {b : Nat → Int32} {c : Nat} (hc : c ≤ 6) (hb : ∀ p, c ≤ p → p < 6 → b p = 0) (s : Nat) : evS b c s = evS b 6 s := by
  unfold evS
  refine (sumN_6 hc (fun i h1 h2 => ?_)).symm
  rw [hb i h1 h2]
  exact ite_self _
theorem evS_0 (b : Nat → Int32) : ∀ c, evS b c 0 = 0
  | 0 => rfl
  | c + 1 => by
    have := evS_0 b c
    unfold evS at this ⊢
    rw [sumN, this, Nat.zero_testBit]
    rfl
theorem sz_sub : ∀ a b : Fin 64, nd a.1 b.1 = 0 → szN 6 a.1 ≤ szN 6 b.1 ∧ (a.1 ≠ b.1 → szN 6 a.1 < szN 6 b.1) := by decide +kernel
theorem sz_clr {s p : Nat} (hs : s < 64) (hp : s.testBit p = true) : szN 6 (nd s (2 ^ p)) + 1 = szN 6 s := sz_d ⟨s, hs⟩ ⟨p, tb_6 hs hp⟩ hp
theorem sz_6 {s : Nat} (hs : s < 64) : szN 6 s ≤ 6 := (sz_0 ⟨s, hs⟩).1
/-- the one's table: a set's row hangs on rows of lesser sets -/
theorem gpN_st {g b : Nat → Int32} {k j : Nat} (h : j ≤ k) : ∀ d, gpN g b (k + d) j = gpN g b k j
  | 0 => rfl
  | d + 1 => by
    show upd (gpN g b (k + d)) (k + d + 1) _ j = _
    rw [show ∀ v, upd (gpN g b (k + d)) (k + d + 1) v j = gpN g b (k + d) j from fun v => if_neg (by omega), gpN_st h d]
theorem gpN_at {g b : Nat → Int32} {k n : Nat} (h : k ≤ n) : gpN g b n k = gpN g b k k := by
  have := gpN_st (g := g) (b := b) (Nat.le_refl k) (n - k)
  rw [show k + (n - k) = n by omega] at this
  exact this
theorem mg_2 {g b : Nat → Int32} {s : Nat} (hs : s < 64) : ∀ j, j ≤ 6 → (mgN g b (nI s) j).2 = evS b j s
  | 0, _ => rfl
  | j + 1, h => by
    have ih := mg_2 (g := g) (b := b) hs j (by omega)
    unfold evS at ih ⊢
    rw [mgN, sumN, has_tb (by omega) (by omega), ← ih]
    cases s.testBit j
    · simp
    · rfl
theorem mg_1 {g b : Nat → Int32} {s : Nat} {v : Nat → Nat} (hs : s < 64) (hv : ∀ p, p < 6 → s.testBit p = true → g (nd s (2 ^ p)) = nI (v p) ∧ v p ≤ 6) : ∀ j, j ≤ 6 → ∃ m, m ≤ 6 ∧ (mgN g b (nI s) j).1 = nI m ∧ (∀ p, p < j → s.testBit p = true → v p ≤ m) ∧ (m = 0 ∨ ∃ p, p < j ∧ s.testBit p = true ∧ m = v p)
  | 0, _ => ⟨0, by omega, rfl, fun p h => absurd h (by omega), Or.inl rfl⟩
  | j + 1, h => by
    obtain ⟨m, h1, h2, h3, h4⟩ := mg_1 (b := b) hs hv j (by omega)
    rw [mgN, has_tb (by omega) (by omega)]
    cases e : s.testBit j
    · refine ⟨m, h1, h2, fun p hp hb => ?_, ?_⟩
      · have : p ≠ j := fun q => by
          rw [q, e] at hb
          cases hb
        exact h3 p (by omega) hb
      · rcases h4 with h4 | ⟨p, q1, q2, q3⟩
        · exact Or.inl h4
        · exact Or.inr ⟨p, by omega, q2, q3⟩
    · obtain ⟨g1, g2⟩ := hv j (by omega) e
      have hn := nd_64 (b := 2 ^ j) hs
      simp only [↓reduceIte]
      rw [clr_n (by omega) (by omega), nI_clamp (by omega), g1, h2]
      by_cases q : m < v j
      · rw [if_pos (nI_lt q (by omega))]
        refine ⟨v j, g2, rfl, fun p hp hb => ?_, Or.inr ⟨j, by omega, e, rfl⟩⟩
        by_cases w : p = j
        · rw [w]; exact Nat.le_refl _
        · have := h3 p (by omega) hb
          omega
      · rw [if_neg (nI_nlt (by omega) (by omega))]
        refine ⟨m, h1, rfl, fun p hp hb => ?_, ?_⟩
        · by_cases w : p = j
          · rw [w]; omega
          · exact h3 p (by omega) hb
        · rcases h4 with h4 | ⟨p, q1, q2, q3⟩
          · exact Or.inl h4
          · exact Or.inr ⟨p, by omega, q2, q3⟩
def zz (b : Nat → Int32) (s : Nat) : Nat := if evS b 6 s = 0 then 1 else 0
/-- what the one's table says of a set -/
def GS (b : Nat → Int32) (f : Nat → Nat) : Prop := f 0 = 0 ∧ ∀ s, s < 64 → s ≠ 0 → (∀ p, p < 6 → s.testBit p = true → f (nd s (2 ^ p)) + zz b s ≤ f s) ∧ ∃ p, p < 6 ∧ s.testBit p = true ∧ f s = f (nd s (2 ^ p)) + zz b s
theorem gp_all (g b : Nat → Int32) : ∀ s, s < 64 → gpN g b 63 s = nI (gpN g b 63 s).toNatClampNeg ∧ (gpN g b 63 s).toNatClampNeg ≤ szN 6 s ∧ (s = 0 → (gpN g b 63 s).toNatClampNeg = 0) ∧ (s ≠ 0 → (∀ p, p < 6 → s.testBit p = true → (gpN g b 63 (nd s (2 ^ p))).toNatClampNeg + zz b s ≤ (gpN g b 63 s).toNatClampNeg) ∧ ∃ p, p < 6 ∧ s.testBit p = true ∧ (gpN g b 63 s).toNatClampNeg = (gpN g b 63 (nd s (2 ^ p))).toNatClampNeg + zz b s) := by
  intro s
  induction s using Nat.strongRecOn with
  | _ s ih =>
    intro hs
    by_cases h0 : s = 0
    · subst h0
      have e : gpN g b 63 0 = 0 := gpN_at (k := 0) (by omega)
      rw [e]
      refine ⟨rfl, Nat.zero_le _, fun _ => rfl, fun q => absurd rfl q⟩
    · obtain ⟨k, rfl⟩ : ∃ k, s = k + 1 := ⟨s - 1, by omega⟩
      have e : gpN g b 63 (k + 1) = sMg (gpN g b k) b (nI (k + 1)) := by
        rw [gpN_at (by omega)]
        exact if_pos rfl
      have hv : ∀ p, p < 6 → (k + 1).testBit p = true → gpN g b k (nd (k + 1) (2 ^ p)) = nI (gpN g b 63 (nd (k + 1) (2 ^ p))).toNatClampNeg ∧ (gpN g b 63 (nd (k + 1) (2 ^ p))).toNatClampNeg ≤ 6 := by
        intro p hp hb
        have hl : nd (k + 1) (2 ^ p) < k + 1 := nd_lt' (by have := Nat.pow_pos (n := p) (show 0 < 2 by decide); omega) (sub_p.mpr hb)
        obtain ⟨i1, i2, _⟩ := ih _ hl (by omega)
        have := sz_6 (s := nd (k + 1) (2 ^ p)) (by omega)
        refine ⟨?_, by omega⟩
        rw [← i1, gpN_at (n := 63) (by omega), gpN_at (n := k) (by omega)]
      obtain ⟨m, h1, h2, h3, h4⟩ := mg_1 (b := b) hs hv 6 (Nat.le_refl _)
      have h5 := mg_2 (g := gpN g b k) (b := b) hs 6 (Nat.le_refl _)
      -- the greatest is some one's
      have h6 : ∃ p, p < 6 ∧ (k + 1).testBit p = true ∧ m = (gpN g b 63 (nd (k + 1) (2 ^ p))).toNatClampNeg := by
        rcases h4 with h4 | h4
        · obtain ⟨p, hp⟩ := tb_ne h0
          have := h3 p (tb_6 hs hp) hp
          exact ⟨p, tb_6 hs hp, hp, by omega⟩
        · exact h4
      have hz : sMg (gpN g b k) b (nI (k + 1)) = nI (m + zz b (k + 1)) := by
        unfold sMg zz
        rw [h5, h2]
        by_cases q : evS b 6 (k + 1) = 0
        · rw [if_pos q, if_pos q, nI_1]
        · rw [if_neg q, if_neg q]; rfl
      have hzz : zz b (k + 1) ≤ 1 := by
        unfold zz
        split <;> omega
      rw [e, hz, nI_clamp (by omega)]
      refine ⟨rfl, ?_, fun q => absurd q h0, fun _ => ⟨fun p hp hb => ?_, ?_⟩⟩
      · obtain ⟨p, hp, hb, rfl⟩ := h6
        have hl : nd (k + 1) (2 ^ p) < k + 1 := nd_lt' (by have := Nat.pow_pos (n := p) (show 0 < 2 by decide); omega) (sub_p.mpr hb)
        have i2 := (ih _ hl (by omega)).2.1
        have := sz_clr hs hb
        omega
      · have := h3 p hp hb
        omega
      · obtain ⟨p, hp, hb, em⟩ := h6
        exact ⟨p, hp, hb, by rw [em]⟩
theorem gp_GS (g b : Nat → Int32) : GS b (fun s => (gpN g b 63 s).toNatClampNeg) := ⟨(gp_all g b 0 (by decide)).2.2.1 rfl, fun s hs h0 => (gp_all g b s hs).2.2.2 h0⟩

