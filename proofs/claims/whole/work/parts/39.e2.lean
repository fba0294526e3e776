theorem Rel_tr {pk : Nat → Nat} {G : Nat → Option Nat} {I F : Nat → Nat → Int32} {n c : Nat} {g : Nat → Nat} {x r : Nat} {J H : Nat → Nat → Int32} (h : Rel pk G I F n c g x r J H) (v : Int32) : Rel pk G (tr I v) F n c g x r (trM J v) H := by
  obtain ⟨b1, b2, b3, b4, b5, b6, b7, b8, b9, b10, b11, b12⟩ := id h.2.1
  refine Rel_I h (fun a ha => st_Ia (by omega)) ⟨b1, b2, b3, b4, b5, b6, b7, b8, ?_, b10, b11, b12⟩ (Nat.le_refl _)
  show 31 * I 21 0 + v = 31 * J 0 1 + v
  rw [b9]
theorem Rel_ft {pk : Nat → Nat} {G : Nat → Option Nat} {I F : Nat → Nat → Int32} {n c : Nat} {g : Nat → Nat} {x r : Nat} {J H : Nat → Nat → Int32} (h : Rel pk G I F n c g x r J H) (v : Int32) : Rel pk G (st_I I 0 11 v) F n c g x r (st_I J 0 0 v) H := by
  obtain ⟨b1, b2, b3, b4, b5, b6, b7, b8, b9, b10, b11, b12⟩ := id h.2.1
  exact Rel_I h (fun a ha => st_Ia (by omega)) ⟨b1, b2, b3, b4, b5, b6, b7, rfl, b9, b10, b11, b12⟩ (Nat.le_refl _)
theorem tell_1 : ∀ a : Fin 10, nI a.1 + 100 + nI a.1 = 2 * nI a.1 + 100 := by decide +kernel
theorem one_eq : ∀ w : Fin 3, (sOne 1 (nI w.1) = 0 ↔ kd 1 < nI w.1) ∧ (sOne 3 (nI w.1) = 0 ↔ kd 3 < nI w.1) ∧ (sOne 4 (nI w.1) = 0 ↔ kd 4 < nI w.1) := by decide +kernel
theorem rd_eq {my my' wh fa on wh' fa' on' : Nat → Int32} : ∀ r, (∀ k, k < r → wh k = wh' k ∧ fa k = fa' k ∧ on k = on' k ∧ my (wh' k).toNatClampNeg = my' (wh' k).toNatClampNeg) → rdAll my wh fa on r = rdAll my' wh' fa' on' r
  | 0, _ => rfl
  | r + 1, h => by
    obtain ⟨h1, h2, h3, h4⟩ := h r (by omega)
    rw [rdAll, rdAll, rd_eq r (fun k hk => h k (by omega)), rdSo, rdSo, h1, h2, h3, h4]
theorem bsN_c {t t' : Nat → Bool} : ∀ m, (∀ v, v < m → t v = t' v) → bsN t m = bsN t' m
  | 0, _ => rfl
  | m + 1, h => by rw [bsN, bsN, bsN_c m (fun v hv => h v (by omega)), h m (by omega)]
theorem rR_in {F H : Nat → Nat → Int32} {c r : Nat} (hc : c ≤ 6) (h : rR F H c r) : (∀ k, k < r → vp_in (F 18 k) 6) ∧ ∀ k, k < r → vp_in (H 12 k) 6 := by
  constructor
  · intro k hk
    obtain ⟨h1, _, _, w, hw, e⟩ := h k hk
    rw [h1, e]
    exact vp_in_nI (by omega) (by decide)
  · intro k hk
    obtain ⟨_, _, _, w, hw, e⟩ := h k hk
    rw [e]
    exact vp_in_nI (by omega) (by decide)

theorem e_tell {l : Launch} {D : va_G} {tc : Nat → ClassId} {pk : Nat → Nat} {G : Nat → Option Nat} {I F : Nat → Nat → Int32} {n c : Nat} {g : Nat → Nat} {x r : Nat} {J H : Nat → Nat → Int32} (hn : 30 ≤ n) (hR : Rel pk G I F n c g x r J H) (y : Int32) : EQ l D tc yX8_tell cX8_tell 3 (some .int) 4 85 0 0 yX9_tell cX9_tell 3 1 21 [.int y] pk G I F n J H := by
  obtain ⟨hP, hN, hO, hD, hS⟩ := id hR
  obtain ⟨b1, b2, b3, b4, b5, b6, b7, b8, b9, b10, b11, b12⟩ := id hN
  have hW := hP.1
  have hc := hW.1
  have h64 : x < 64 := by
    have h6 : 2 ^ c ≤ 2 ^ 6 := Nat.pow_le_pow_right (by decide) hc
    omega
  have hmy := my_eq (J := J) hP b3
  have hH := rP_HH hP
  rcases perC hc y with hy | ⟨p, hp, rfl⟩
  · refine eq_pp (c := c) (g := g) (x := x) (r := r) (c_X8_tell_no pk G I F n hn b1 hy) (c_X9_tell_no J H hc b2 hy) ?_ ?_
    · rfl
    · exact hR
  · refine eq_pp (c := c) (g := g) (x := x) (r := r) (c_X8_tell pk G I F n hn hW b1 hp) (c_X9_tell J H hc b2 hp) ?_ ?_
    · obtain ⟨d1, d2, d3, d4, a, ha, d5⟩ := hP.2.2.2 p hp
      rw [d3, ← d1, d5]
      rcases (hW.2 p hp).2.2 with e | e | e <;> rw [e]
      · show Value.int (nI a + 100 + nI a) = Value.int (2 * nI a + 100)
        rw [tell_1 ⟨a, by omega⟩]
      · rfl
      · rfl
    · obtain ⟨d1, d2, d3, d4, a, ha, d5⟩ := hP.2.2.2 p hp
      rw [← d1]
      rcases (hW.2 p hp).2.2 with e | e | e <;> rw [e]
      · exact Rel_tr (Rel_tr (Rel_tr (Rel_tr hR 3) 2) 1) 1
      · exact Rel_tr hR 1
      · exact Rel_tr (Rel_tr hR 2) 1
theorem e_hear {l : Launch} {D : va_G} {tc : Nat → ClassId} {pk : Nat → Nat} {G : Nat → Option Nat} {I F : Nat → Nat → Int32} {n c : Nat} {g : Nat → Nat} {x r : Nat} {J H : Nat → Nat → Int32} (hn : 30 ≤ n) (hR : Rel pk G I F n c g x r J H) (y : Int32) : EQ l D tc yX8_hear cX8_hear 3 (some .int) 2 42 0 0 yX9_hear cX9_hear 2 1 21 [.int y] pk G I F n J H := by
  obtain ⟨hP, hN, hO, hD, hS⟩ := id hR
  obtain ⟨b1, b2, b3, b4, b5, b6, b7, b8, b9, b10, b11, b12⟩ := id hN
  have hW := hP.1
  have hc := hW.1
  have h64 : x < 64 := by
    have h6 : 2 ^ c ≤ 2 ^ 6 := Nat.pow_le_pow_right (by decide) hc
    omega
  have hmy := my_eq (J := J) hP b3
  have hH := rP_HH hP
  rcases perC hc y with hy | ⟨p, hp, rfl⟩
  · refine eq_pp (c := c) (g := g) (x := x) (r := r) (c_X8_hear_no pk G I F n hn b1 hy) (c_X9_hear_no J H hc b2 hy) ?_ ?_
    · rfl
    · exact hR
  · refine eq_pp (c := c) (g := g) (x := x) (r := r) (c_X8_hear pk G I F n hn hW b1 hp) (c_X9_hear J H hc b2 hp) ?_ ?_
    · obtain ⟨d1, d2, d3, d4, a, ha, d5⟩ := hP.2.2.2 p hp
      rw [← d1, d2]
      rcases (hW.2 p hp).2.2 with e | e | e <;> rw [e] <;> rfl
    · obtain ⟨d1, d2, d3, d4, a, ha, d5⟩ := hP.2.2.2 p hp
      rw [← d1]
      rcases (hW.2 p hp).2.2 with e | e | e <;> rw [e]
      · exact Rel_tr hR 5
      · exact Rel_tr hR 4
      · exact Rel_tr hR 4
theorem e_as {l : Launch} {D : va_G} {tc : Nat → ClassId} {pk : Nat → Nat} {G : Nat → Option Nat} {I F : Nat → Nat → Int32} {n c : Nat} {g : Nat → Nat} {x r : Nat} {J H : Nat → Nat → Int32} (hn : 30 ≤ n) (hR : Rel pk G I F n c g x r J H) (y : Int32) (w : Int32) : EQ l D tc yX8_as cX8_as 4 (some .int) 1 22 0 0 yX9_as cX9_as 3 1 22 [.int y, .int w] pk G I F n J H := by
  obtain ⟨hP, hN, hO, hD, hS⟩ := id hR
  obtain ⟨b1, b2, b3, b4, b5, b6, b7, b8, b9, b10, b11, b12⟩ := id hN
  have hW := hP.1
  have hc := hW.1
  have h64 : x < 64 := by
    have h6 : 2 ^ c ≤ 2 ^ 6 := Nat.pow_le_pow_right (by decide) hc
    omega
  have hmy := my_eq (J := J) hP b3
  have hH := rP_HH hP
  rcases perC hc y with hy | ⟨p, hp, rfl⟩
  · refine eq_pp (c := c) (g := g) (x := x) (r := r) (c_X8_as_no pk G I F n hn b1 hy w) (c_X9_as_no J H hc b2 hy w) ?_ ?_
    · rfl
    · exact Rel_ft hR 0
  · refine eq_pp (c := c) (g := g) (x := x) (r := r) (c_X8_as pk G I F n hn hW b1 hp w) (c_X9_as J H hc b2 hp w) ?_ ?_
    · obtain ⟨d1, d2, d3, d4, a, ha, d5⟩ := hP.2.2.2 p hp
      rw [← d1]
      cases h1 : sW w 0 2
      · rfl
      · obtain ⟨a, ha, rfl⟩ := sW_ex (m := 2) (by decide) h1
        have h2 := one_eq ⟨a, by omega⟩
        simp only [↓reduceIte]
        rcases (hW.2 p hp).2.2 with e | e | e <;> rw [e]
        · rw [ite_congr (propext h2.1) (fun _ => rfl) (fun _ => rfl)]
        · rw [ite_congr (propext h2.2.1) (fun _ => rfl) (fun _ => rfl)]
        · rw [ite_congr (propext h2.2.2) (fun _ => rfl) (fun _ => rfl)]
    · obtain ⟨d1, d2, d3, d4, a, ha, d5⟩ := hP.2.2.2 p hp
      rw [← d1]
      cases h1 : sW w 0 2
      · exact Rel_ft hR 0
      · obtain ⟨a, ha, rfl⟩ := sW_ex (m := 2) (by decide) h1
        have h2 := one_eq ⟨a, by omega⟩
        simp only [↓reduceIte]
        have h3 : sOne (pk (g p)) (nI a) = 0 ↔ kd (pk (g p)) < nI a := by
          rcases (hW.2 p hp).2.2 with e | e | e <;> rw [e]
          · exact h2.1
          · exact h2.2.1
          · exact h2.2.2
        by_cases h4 : sOne (pk (g p)) (nI a) = 0
        · rw [if_pos h4, if_pos (h3.mp h4)]
          exact Rel_ft hR 2
        · rw [if_neg h4, if_neg (fun q => h4 (h3.mpr q))]
          exact Rel_ft hR 0
theorem e_back {l : Launch} {D : va_G} {tc : Nat → ClassId} {pk : Nat → Nat} {G : Nat → Option Nat} {I F : Nat → Nat → Int32} {n c : Nat} {g : Nat → Nat} {x r : Nat} {J H : Nat → Nat → Int32} (hn : 30 ≤ n) (hR : Rel pk G I F n c g x r J H) (w : Int32) : EQ l D tc yX8_back cX8_back 2 (some .int) 1 22 0 0 yX9_back cX9_back 2 1 22 [.int w] pk G I F n J H := by
  obtain ⟨hP, hN, hO, hD, hS⟩ := id hR
  obtain ⟨b1, b2, b3, b4, b5, b6, b7, b8, b9, b10, b11, b12⟩ := id hN
  have hW := hP.1
  have hc := hW.1
  have h64 : x < 64 := by
    have h6 : 2 ^ c ≤ 2 ^ 6 := Nat.pow_le_pow_right (by decide) hc
    omega
  have hmy := my_eq (J := J) hP b3
  have hH := rP_HH hP
  cases h1 : sW w 0 (nI r)
  · refine eq_pp (c := c) (g := g) (x := x) (r := r) (c_X8_back pk G I F n hn w) (c_X9_back J H w) ?_ ?_
    · rw [b11, b12]
    · rw [b11, b12, h1]
      exact hR
  · obtain ⟨a, ha, rfl⟩ := sW_ex (m := r) (by omega) h1
    refine eq_pp (c := c) (g := g) (x := x) (r := (r - a)) (c_X8_back pk G I F n hn (nI a)) (c_X9_back J H (nI a)) ?_ ?_
    · rw [b11, b12]
    · rw [b11, b12, h1]
      simp only [↓reduceIte]
      rw [pk_sub ha]
      refine Rel_I hR (fun b hb => ?_) ⟨b1, b2, b3, b4, b5, b6, b7, b8, b9, by omega, rfl, rfl⟩ (by omega)
      exact st_Ia (by omega)
theorem rR_s {F H : Nat → Nat → Int32} {c r p : Nat} (h : rR F H c r) (hp : p < c) (y w : Int32) : rR (rdF F r (nI p) y w) (rdM H r (nI p) y w) c (r + 1) := by
  intro k hk
  by_cases e : k = r
  · subst e
    refine ⟨?_, ?_, ?_, p, hp, ?_⟩ <;> simp [rdF, rdM, st_F, upd]
  · obtain ⟨h1, h2, h3, h4⟩ := h k (by omega)
    refine ⟨?_, ?_, ?_, ?_⟩
    · simp [rdF, rdM, st_F, upd, e]; exact h1
    · simp [rdF, rdM, st_F, upd, e]; exact h2
    · simp [rdF, rdM, st_F, upd, e]; exact h3
    · simp [rdF, rdM, st_F, upd, e]; exact h4
theorem e_reading {l : Launch} {D : va_G} {tc : Nat → ClassId} {pk : Nat → Nat} {G : Nat → Option Nat} {I F : Nat → Nat → Int32} {n c : Nat} {g : Nat → Nat} {x r : Nat} {J H : Nat → Nat → Int32} (hn : 30 ≤ n) (hR : Rel pk G I F n c g x r J H) (y : Int32) (z : Int32) (w : Int32) : EQ l D tc yX8_reading cX8_reading 4 (some .int) 2 45 0 0 yX9_reading cX9_reading 4 1 22 [.int y, .int z, .int w] pk G I F n J H := by
  obtain ⟨hP, hN, hO, hD, hS⟩ := id hR
  obtain ⟨b1, b2, b3, b4, b5, b6, b7, b8, b9, b10, b11, b12⟩ := id hN
  have hW := hP.1
  have hc := hW.1
  have h64 : x < 64 := by
    have h6 : 2 ^ c ≤ 2 ^ 6 := Nat.pow_le_pow_right (by decide) hc
    omega
  have hmy := my_eq (J := J) hP b3
  have hH := rP_HH hP
  rcases perC hc y with hy | ⟨p, hp, rfl⟩
  · refine eq_pp (c := c) (g := g) (x := x) (r := r) (c_X8_reading_no pk G I F n hn b1 hy z w) (c_X9_reading_no J H hc b2 hy z w) ?_ ?_
    · rfl
    · exact hR
  · cases h1 : (sW z 0 18 && sW w 0 1)
    · refine eq_pp (c := c) (g := g) (x := x) (r := r) (c_X8_reading pk G I F n hn hW b1 hp b10 b11 z w) (c_X9_reading J H hc b2 hp b10 b12 z w) ?_ ?_
      · rfl
      · rw [h1]
        exact hR
    · by_cases h2 : r < 8
      · refine eq_pp (c := c) (g := g) (x := x) (r := (r + 1)) (c_X8_reading pk G I F n hn hW b1 hp b10 b11 z w) (c_X9_reading J H hc b2 hp b10 b12 z w) ?_ ?_
        · rfl
        · simp only [h1, h2, ↓reduceIte]
          refine ⟨⟨hW, hP.2.1, hP.2.2.1, fun q hq => ?_⟩, ⟨b1, b2, b3, b4, b5, b6, b7, b8, b9, by omega, rfl, rfl⟩, fun a b ha hb => ?_, rR_s hD hp z w, fun k hk => ?_⟩
          · rw [st_Ia (by omega)]
            exact hP.2.2.2 q hq
          · have := hO a b ha hb
            rw [show rdF F r (nI p) z w (9 + a) = F (9 + a) from by unfold rdF; rw [st_Fn (by omega), st_Fn (by omega), st_Fn (by omega)]]
            exact this
          · have := hS k hk
            unfold rS1 at this ⊢
            rw [st_Ia (by omega), show rdF F r (nI p) z w (26 + k) = F (26 + k) from by unfold rdF; rw [st_Fn (by omega), st_Fn (by omega), st_Fn (by omega)]]
            exact this
      · refine eq_pp (c := c) (g := g) (x := x) (r := r) (c_X8_reading pk G I F n hn hW b1 hp b10 b11 z w) (c_X9_reading J H hc b2 hp b10 b12 z w) ?_ ?_
        · rfl
        · simp only [h1, h2, ↓reduceIte]
          exact hR
theorem e_hastes {l : Launch} {D : va_G} {tc : Nat → ClassId} {pk : Nat → Nat} {G : Nat → Option Nat} {I F : Nat → Nat → Int32} {n c : Nat} {g : Nat → Nat} {x r : Nat} {J H : Nat → Nat → Int32} (hn : 30 ≤ n) (hR : Rel pk G I F n c g x r J H) (y : Int32) : EQ l D tc yX8_hastes cX8_hastes 6 (some .int) 3 66 0 0 yX9_hastes cX9_hastes 5 3 65 [.int y] pk G I F n J H := by
  obtain ⟨hP, hN, hO, hD, hS⟩ := id hR
  obtain ⟨b1, b2, b3, b4, b5, b6, b7, b8, b9, b10, b11, b12⟩ := id hN
  have hW := hP.1
  have hc := hW.1
  have h64 : x < 64 := by
    have h6 : 2 ^ c ≤ 2 ^ 6 := Nat.pow_le_pow_right (by decide) hc
    omega
  have hmy := my_eq (J := J) hP b3
  have hH := rP_HH hP
  rcases perC hc y with hy | ⟨p, hp, rfl⟩
  · refine eq_pp (c := c) (g := g) (x := x) (r := r) (c_X8_hastes_no pk G I F n hn b1 hy) (c_X9_hastes_no J H hc b2 hy) ?_ ?_
    · rfl
    · exact hR
  · refine eq_sp (c := c) (g := g) (x := x) (r := r) (c_X8_hastes pk G I F n hn hW b1 hp b10 b11 (rR_in hc hD).1) (c_X9_hastes J H hc b2 hp b10 b12 (rR_in hc hD).2) ?_ ?_
    · congr 1
      refine bsN_c 10 (fun v hv => rd_eq r (fun k hk => ?_))
      obtain ⟨h1, h2, h3, w, hw, e⟩ := hD k hk
      refine ⟨h1, h2, h3, ?_⟩
      rw [e, nI_clamp (by omega)]
      obtain ⟨d1, d2, d3, d4, d5⟩ := hP.2.2.2 p hp
      by_cases q : w = p
      · subst q
        have h7 : (v = 0 ∨ v = 1 ∨ v = 2) → (nI v = 0 ∨ nI v = 1 ∨ nI v = 2) := fun q9 => by
          rcases q9 with rfl | rfl | rfl
          · exact Or.inl rfl
          · exact Or.inr (Or.inl rfl)
          · exact Or.inr (Or.inr rfl)
        simp only [upd, if_true]
        rw [may_eq kd_3, d1, d4, b3]
        simp [myM, st_F, upd]
      · simp only [upd, if_neg q]
        rw [hmy w hw]
        simp [myM, st_F, upd, q]
    · exact hR
theorem e_rooms {l : Launch} {D : va_G} {tc : Nat → ClassId} {pk : Nat → Nat} {G : Nat → Option Nat} {I F : Nat → Nat → Int32} {n c : Nat} {g : Nat → Nat} {x r : Nat} {J H : Nat → Nat → Int32} (hn : 30 ≤ n) (hR : Rel pk G I F n c g x r J H) (y : Int32) : EQ l D tc yX8_rooms cX8_rooms 6 (some .int) 3 66 0 0 yX9_rooms cX9_rooms 5 3 65 [.int y] pk G I F n J H := by
  obtain ⟨hP, hN, hO, hD, hS⟩ := id hR
  obtain ⟨b1, b2, b3, b4, b5, b6, b7, b8, b9, b10, b11, b12⟩ := id hN
  have hW := hP.1
  have hc := hW.1
  have h64 : x < 64 := by
    have h6 : 2 ^ c ≤ 2 ^ 6 := Nat.pow_le_pow_right (by decide) hc
    omega
  have hmy := my_eq (J := J) hP b3
  have hH := rP_HH hP
  rcases perC hc y with hy | ⟨p, hp, rfl⟩
  · refine eq_pp (c := c) (g := g) (x := x) (r := r) (c_X8_rooms_no pk G I F n hn b1 hy) (c_X9_rooms_no J H hc b2 hy) ?_ ?_
    · rfl
    · exact hR
  · refine eq_sp (c := c) (g := g) (x := x) (r := r) (c_X8_rooms pk G I F n hn hW b1 hp b10 b11 (rR_in hc hD).1) (c_X9_rooms J H hc b2 hp b10 b12 (rR_in hc hD).2) ?_ ?_
    · congr 1
      refine bsN_c 10 (fun v hv => rd_eq r (fun k hk => ?_))
      obtain ⟨h1, h2, h3, w, hw, e⟩ := hD k hk
      refine ⟨h1, h2, h3, ?_⟩
      rw [e, nI_clamp (by omega)]
      obtain ⟨d1, d2, d3, d4, d5⟩ := hP.2.2.2 p hp
      by_cases q : w = p
      · subst q
        have h7 : (v = 0 ∨ v = 1 ∨ v = 2) → (nI v = 0 ∨ nI v = 1 ∨ nI v = 2) := fun q9 => by
          rcases q9 with rfl | rfl | rfl
          · exact Or.inl rfl
          · exact Or.inr (Or.inl rfl)
          · exact Or.inr (Or.inr rfl)
        simp only [upd, if_true]
        rw [may_eq kd_3, d1, d3, b3]
        simp [myM, st_F, upd]
      · simp only [upd, if_neg q]
        rw [hmy w hw]
        simp [myM, st_F, upd, q]
    · exact hR
theorem e_kinds {l : Launch} {D : va_G} {tc : Nat → ClassId} {pk : Nat → Nat} {G : Nat → Option Nat} {I F : Nat → Nat → Int32} {n c : Nat} {g : Nat → Nat} {x r : Nat} {J H : Nat → Nat → Int32} (hn : 30 ≤ n) (hR : Rel pk G I F n c g x r J H) (y : Int32) : EQ l D tc yX8_kinds cX8_kinds 6 (some .int) 3 66 0 0 yX9_kinds cX9_kinds 5 3 65 [.int y] pk G I F n J H := by
  obtain ⟨hP, hN, hO, hD, hS⟩ := id hR
  obtain ⟨b1, b2, b3, b4, b5, b6, b7, b8, b9, b10, b11, b12⟩ := id hN
  have hW := hP.1
  have hc := hW.1
  have h64 : x < 64 := by
    have h6 : 2 ^ c ≤ 2 ^ 6 := Nat.pow_le_pow_right (by decide) hc
    omega
  have hmy := my_eq (J := J) hP b3
  have hH := rP_HH hP
  rcases perC hc y with hy | ⟨p, hp, rfl⟩
  · refine eq_pp (c := c) (g := g) (x := x) (r := r) (c_X8_kinds_no pk G I F n hn b1 hy) (c_X9_kinds_no J H hc b2 hy) ?_ ?_
    · rfl
    · exact hR
  · refine eq_sp (c := c) (g := g) (x := x) (r := r) (c_X8_kinds pk G I F n hn hW b1 hp b10 b11 (rR_in hc hD).1) (c_X9_kinds J H hc b2 hp b10 b12 (rR_in hc hD).2) ?_ ?_
    · congr 1
      refine bsN_c 3 (fun v hv => rd_eq r (fun k hk => ?_))
      obtain ⟨h1, h2, h3, w, hw, e⟩ := hD k hk
      refine ⟨h1, h2, h3, ?_⟩
      rw [e, nI_clamp (by omega)]
      obtain ⟨d1, d2, d3, d4, d5⟩ := hP.2.2.2 p hp
      by_cases q : w = p
      · subst q
        have h7 : (v = 0 ∨ v = 1 ∨ v = 2) → (nI v = 0 ∨ nI v = 1 ∨ nI v = 2) := fun q9 => by
          rcases q9 with rfl | rfl | rfl
          · exact Or.inl rfl
          · exact Or.inr (Or.inl rfl)
          · exact Or.inr (Or.inr rfl)
        simp only [upd, if_true]
        rw [may_eq (h7 (by omega)), d3, d4, b3]
        simp [myM, st_F, upd]
      · simp only [upd, if_neg q]
        rw [hmy w hw]
        simp [myM, st_F, upd, q]
    · exact hR
