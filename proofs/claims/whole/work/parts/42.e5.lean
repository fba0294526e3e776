theorem exN_iff {f : Nat → Bool} : ∀ m, exN f m = true ↔ ∃ q, q < m ∧ f q = true
  | 0 => by
    constructor
    · intro h; cases h
    · rintro ⟨q, h, _⟩; omega
  | m + 1 => by
    rw [exN, Bool.or_eq_true, exN_iff m]
    constructor
    · rintro (⟨q, h1, h2⟩ | h)
      · exact ⟨q, by omega, h2⟩
      · exact ⟨m, by omega, h⟩
    · rintro ⟨q, h1, h2⟩
      by_cases e : q = m
      · exact Or.inr (e ▸ h2)
      · exact Or.inl ⟨q, by omega, h2⟩
theorem fdN_iff {w : Nat → Int32} {p : Int32} {a : Nat} (ha : a ≤ 5) : ∀ m i, i + m ≤ 6 → (fdN w p i m ≤ nI a ↔ ∃ q, i ≤ q ∧ q < i + m ∧ q ≤ a ∧ w q = p)
  | 0, i, h => by
    rw [fdN]
    constructor
    · intro q
      have := (nI_leI (a := 6) (b := a) (by decide) (by omega)).mp q
      omega
    · rintro ⟨q, h1, h2, _⟩
      omega
  | m + 1, i, h => by
    rw [fdN]
    by_cases e : w i = p
    · rw [if_pos e, nI_leI (by omega) (by omega)]
      constructor
      · intro q
        exact ⟨i, by omega, by omega, q, e⟩
      · rintro ⟨q, h1, _, h3, _⟩
        omega
    · rw [if_neg e, fdN_iff ha m (i + 1) (by omega)]
      constructor
      · rintro ⟨q, h1, h2, h3, h4⟩
        exact ⟨q, by omega, by omega, h3, h4⟩
      · rintro ⟨q, h1, h2, h3, h4⟩
        have : q ≠ i := fun w9 => e (w9 ▸ h4)
        exact ⟨q, by omega, by omega, h3, h4⟩
theorem lt_lb {pl : Nat → Int32} {k : Int32} {t : Nat → Bool} (h : ∀ v, v < 10 → (pl v ≤ k ↔ t v = true)) : ∀ m, m ≤ 10 → ltN pl k (10 - m) m = lbN t m
  | 0, _ => rfl
  | m + 1, hm => by
    rw [ltN, lbN, show 10 - (m + 1) = 9 - m by omega, show 9 - m + 1 = 10 - m by omega, lt_lb h m (by omega)]
    have := h (9 - m) (by omega)
    by_cases q : t (9 - m) = true
    · rw [if_pos (this.mpr q), if_pos q]
    · rw [if_neg (fun w => q (this.mp w)), if_neg q]
theorem wrN_cb {my my' : Nat → Int32} {p v all : Int32} {c : Nat} (hc : c ≤ 6) (h : ∀ i, i < c → my i = my' i) : ∀ s, s < 2 ^ c → wrN my p v all s = wrN my' p v all s
  | 0, _ => rfl
  | s + 1, hs => by rw [wrN, wrN, wrN_cb hc h s (by omega), sDown_cb hc hs h, sCall_cb hc hs h]
theorem wrN_0 {my : Nat → Int32} {p v all : Int32} : ∀ s, ∃ k, k ≤ s ∧ (wrN my p v all s).1 = nI k ∧ (k = 0 → (wrN my p v all s).2.1 = -9)
  | 0 => ⟨0, Nat.le_refl _, rfl, fun _ => rfl⟩
  | s + 1 => by
    obtain ⟨k, h1, h2, h3⟩ := wrN_0 (my := my) (p := p) (v := v) (all := all) s
    rw [wrN]
    by_cases e : sDown my (nI (s + 1)) = p ∧ (sCall my (nI (s + 1))).1 = v
    · rw [if_pos e]
      refine ⟨k + 1, by omega, ?_, fun q => absurd q (by omega)⟩
      show (wrN my p v all s).1 + 1 = _
      rw [h2, nI_1]
    · rw [if_neg e]
      exact ⟨k, by omega, h2, h3⟩
theorem udN_cb {my my' : Nat → Int32} {p : Int32} {c : Nat} (hc : c ≤ 6) (h : ∀ i, i < c → my i = my' i) : ∀ s, s < 2 ^ c → udN my p s = udN my' p s
  | 0, _ => rfl
  | s + 1, hs => by rw [udN, udN, udN_cb hc h s (by omega), sDown_cb hc hs h]
theorem hv_eq : ∀ c : Fin 7, ∀ u : Fin 64, (hvN c.1 (nI u.1) (sBit (nI c.1))).1.toInt64 = nLg (u.1 / Nat.gcd u.1 (2 ^ c.1)) ∧ (hvN c.1 (nI u.1) (sBit (nI c.1))).2.toInt64 = nLg (2 ^ c.1 / Nat.gcd u.1 (2 ^ c.1)) := by decide +kernel

theorem e_let {l : Launch} {D : va_G} {tc : Nat → ClassId} {pk : Nat → Nat} {G : Nat → Option Nat} {I F : Nat → Nat → Int32} {n c : Nat} {g : Nat → Nat} {x r : Nat} {J H : Nat → Nat → Int32} (hn : 30 ≤ n) (hR : Rel pk G I F n c g x r J H) (y : Int32) (w : Int32) : EQ l D tc yX8_let cX8_let 6 (some .int) 6 140 0 0 yX9_let cX9_let 7 4 87 [.int y, .int w] pk G I F n J H := by
  obtain ⟨hP, hN, hO, hD, hS⟩ := id hR
  obtain ⟨b1, b2, b3, b4, b5, b6, b7, b8, b9, b10, b11, b12⟩ := id hN
  have hW := hP.1
  have hc := hW.1
  have h64 : x < 64 := by
    have h6 : 2 ^ c ≤ 2 ^ 6 := Nat.pow_le_pow_right (by decide) hc
    omega
  have hmy := my_eq (J := J) hP b3
  have hH := rP_HH hP
  rcases perC hc y with hy | ⟨p, hp, rfl⟩
  · refine eq_pp (c := c) (g := g) (x := x) (r := r) (c_X8_let_no pk G I F n hn b1 hy w) (c_X9_let_no J H hc b2 hy w) ?_ ?_
    · rfl
    · exact hR
  · refine eq_ss (c := c) (g := g) (x := x) (r := r) (c_X8_let pk G I F n hn hW b1 hp w) (c_X9_let J H hc b2 b4 b6 hH hp w) ?_ ?_
    · rw [b5]
      cases h1 : sW w 0 5
      · simp only [Bool.false_eq_true, ↓reduceIte]
      · simp only [↓reduceIte]
        cases h2 : sHas (nI x) (nI p)
        · simp only [Bool.false_eq_true, ↓reduceIte]
        · simp only [↓reduceIte]
          obtain ⟨a, ha, rfl⟩ := sW_ex (m := 5) (by decide) h1
          rw [nI_clamp (by omega)]
          refine congrArg Value.int (lt_lb (fun v hv => ?_) 10 (Nat.le_refl _))
          have hmv : ∀ i, i < c → upd (myC pk g I c) p (sMay (kd (pk (g p))) (I (g p + 30) 1) (nI v) (I 0 8)) i = myM J (st_F H 6 (upd (H 6) p (nI v))) i := by
            intro i hi
            obtain ⟨d1, d2, d3, d4, d5⟩ := hP.2.2.2 p hp
            by_cases q : i = p
            · subst q
              simp only [upd, if_true]
              rw [may_eq kd_3, d1, d3, b3]
              simp [myM, st_F, upd]
            · simp only [upd, if_neg q]
              rw [hmy i hi]
              simp [myM, st_F, upd, q]
          have hm9 : ∀ m, m < 2 ^ c → ∀ i, i < 6 → sHas (nI m) (nI i) = true → myM J (st_F H 6 (upd (H 6) p (nI v))) i ≤ 18 := fun m h => myM_le (I := J) hc (HH_6 hH) h
          unfold letT sPlace
          rw [gtM_cb hc b4 hmv hm9]
          have hg6 := gtM_le (myM J (st_F H 6 (upd (H 6) p (nI v)))) (nI x)
          rw [fdN_iff ha _ _ (by omega), exN_iff]
          constructor
          · rintro ⟨q, _, q2, q3, q4⟩
            rw [(dnN_cb hc b4 hmv hm9 q).1] at q4
            exact ⟨q, by omega, decide_eq_true q4⟩
          · rintro ⟨q, q2, q3⟩
            have q4 := of_decide_eq_true q3
            rw [← (dnN_cb hc b4 hmv hm9 q).1] at q4
            exact ⟨q, by omega, by omega, by omega, q4⟩
    · exact hR
theorem e_were {l : Launch} {D : va_G} {tc : Nat → ClassId} {pk : Nat → Nat} {G : Nat → Option Nat} {I F : Nat → Nat → Int32} {n c : Nat} {g : Nat → Nat} {x r : Nat} {J H : Nat → Nat → Int32} (hn : 30 ≤ n) (hR : Rel pk G I F n c g x r J H) (y : Int32) (z : Int32) (w : Int32) : EQ l D tc yX8_were cX8_were 9 (some .int) 4 89 0 0 yX9_were cX9_were 8 3 66 [.int y, .int z, .int w] pk G I F n J H := by
  obtain ⟨hP, hN, hO, hD, hS⟩ := id hR
  obtain ⟨b1, b2, b3, b4, b5, b6, b7, b8, b9, b10, b11, b12⟩ := id hN
  have hW := hP.1
  have hc := hW.1
  have h64 : x < 64 := by
    have h6 : 2 ^ c ≤ 2 ^ 6 := Nat.pow_le_pow_right (by decide) hc
    omega
  have hmy := my_eq (J := J) hP b3
  have hH := rP_HH hP
  rcases perC hc y with hy | ⟨p, hp, rfl⟩
  · refine eq_pp (c := c) (g := g) (x := x) (r := r) (c_X8_were_no pk G I F n hn b1 hy z w) (c_X9_were_no J H hc b2 hy z w) ?_ ?_
    · rfl
    · exact hR
  · refine eq_ss (c := c) (g := g) (x := x) (r := r) (c_X8_were pk G I F n hn hW b1 hp z w) (c_X9_were J H hc b2 hH hp z w) ?_ ?_
    · have h2c := (pw_c hc).1
      rw [wrN_cb hc hmy (2 ^ c - 1) (by omega)]
      obtain ⟨k, k1, k2, k3⟩ := wrN_0 (my := myM J H) (p := nI p) (v := z) (all := nI (2 ^ c - 1)) (2 ^ c - 1)
      generalize wrN (myM J H) (nI p) z (nI (2 ^ c - 1)) (2 ^ c - 1) = q at k2 k3 ⊢
      cases h1 : (sW z 0 18 && sW w 0 2)
      · simp only [Bool.false_eq_true, ↓reduceIte]
      · simp only [↓reduceIte]
        by_cases h2 : w = 0
        · rw [if_pos h2, if_pos h2]
        · rw [if_neg h2, if_neg h2]
          by_cases h3 : q.1 = 0
          · rw [if_pos h3, if_pos (Or.inr h3)]
            have h4c := (pw_c hc).2
            rw [k2] at h3
            rw [k3 ((nI_00 (by omega)).mp h3)]
          · rw [if_neg h3]
            by_cases h4 : w = 1
            · rw [if_pos h4, if_pos (Or.inl h4)]
            · rw [if_neg h4, if_neg (fun e => e.elim h4 h3)]
    · exact hR
theorem e_odds {l : Launch} {D : va_G} {tc : Nat → ClassId} {pk : Nat → Nat} {G : Nat → Option Nat} {I F : Nat → Nat → Int32} {n c : Nat} {g : Nat → Nat} {x r : Nat} {J H : Nat → Nat → Int32} (hn : 30 ≤ n) (hR : Rel pk G I F n c g x r J H) (y : Int32) (w : Int32) : EQ l D tc yX8_odds cX8_odds 7 (some .long) 4 89 0 0 yX9_odds cX9_odds 5 3 66 [.int y, .int w] pk G I F n J H := by
  obtain ⟨hP, hN, hO, hD, hS⟩ := id hR
  obtain ⟨b1, b2, b3, b4, b5, b6, b7, b8, b9, b10, b11, b12⟩ := id hN
  have hW := hP.1
  have hc := hW.1
  have h64 : x < 64 := by
    have h6 : 2 ^ c ≤ 2 ^ 6 := Nat.pow_le_pow_right (by decide) hc
    omega
  have hmy := my_eq (J := J) hP b3
  have hH := rP_HH hP
  rcases perC hc y with hy | ⟨p, hp, rfl⟩
  · refine eq_pp (c := c) (g := g) (x := x) (r := r) (c_X8_odds_no pk G I F n hn b1 hy w) (c_X9_odds_no J H hc b2 hy w) ?_ ?_
    · rfl
    · exact hR
  · refine eq_ss (c := c) (g := g) (x := x) (r := r) (c_X8_odds pk G I F n hn hW b1 hp w) (c_X9_odds J H hc b2 hH hp w) ?_ ?_
    · have h2c := (pw_c hc).1
      have h4c := (pw_c hc).2
      have hu := ucN_le (myM J H) (nI p) (2 ^ c - 1)
      rw [udN_cb hc hmy (2 ^ c - 1) (by omega), udN_n]
      have h9 := hv_eq ⟨c, by omega⟩ ⟨ucN (myM J H) (nI p) (2 ^ c - 1), by omega⟩
      simp only at h9
      rw [h9.1, h9.2]
    · exact hR
theorem e_go {l : Launch} {D : va_G} {tc : Nat → ClassId} {pk : Nat → Nat} {G : Nat → Option Nat} {I F : Nat → Nat → Int32} {n c : Nat} {g : Nat → Nat} {x r : Nat} {J H : Nat → Nat → Int32} (hn : 30 ≤ n) (hR : Rel pk G I F n c g x r J H) : EQ l D tc yX8_go cX8_go 2 (some .int) 4 89 0 0 yX9_go cX9_go 2 3 66 [] pk G I F n J H := by
  obtain ⟨hP, hN, hO, hD, hS⟩ := id hR
  obtain ⟨b1, b2, b3, b4, b5, b6, b7, b8, b9, b10, b11, b12⟩ := id hN
  have hW := hP.1
  have hc := hW.1
  have h64 : x < 64 := by
    have h6 : 2 ^ c ≤ 2 ^ 6 := Nat.pow_le_pow_right (by decide) hc
    omega
  have hmy := my_eq (J := J) hP b3
  have hH := rP_HH hP
  by_cases h0 : x = 0
  · subst h0
    refine eq_pp (c := c) (g := g) (x := 0) (r := r) (c_X8_go0 pk G I F n hn b5) (c_X9_go0 J H b6) ?_ ?_
    · rfl
    · exact hR
  · have hz0 : ¬ I 0 9 = 0 := fun e => h0 ((nI_00 (by omega)).mp (b5 ▸ e))
    obtain ⟨d, hd6, ed, hbd⟩ := sDown_ex (myM_le (I := J) hc hH b4) h0 h64
    have hdc := lt_c hc b4 hd6 hbd
    refine eq_ss (c := c) (g := g) (x := (nd x (2 ^ d))) (r := r) (c_X8_go pk G I F n hn hW b1 hz0) (c_X9_go J H hc b2 b4 b6 hH h0) ?_ ?_
    · rw [b5, sDown_cb hc b4 hmy]
    · rw [b5, sDown_cb hc b4 hmy, sCall_cb hc b4 hmy, ed, clr_n (by omega) (by omega)]
      have hR1 : Rel pk G (st_I I 0 9 (nI (nd x (2 ^ d)))) F n c g (nd x (2 ^ d)) r (st_I J 0 7 (nI (nd x (2 ^ d)))) H := Rel_I hR (fun a ha => st_Ia (by omega)) ⟨b1, b2, b3, nd_lt b4, rfl, rfl, b7, b8, b9, b10, b11, b12⟩ (Nat.le_refl _)
      have hs := sSec_ex (myM_le (I := J) hc hH b4)
      generalize sCall (myM J H) (nI x) = q at hs ⊢
      rcases hs with hs | ⟨e, he6, es, hbe⟩
      · rw [hs]
        have e1 : adF F (nI d) (-9) q.1 = F := by
          unfold adF
          rw [if_neg (by unfold sNum; rw [show sW (-9) 0 5 = false by decide, Bool.and_false]; decide)]
        have e2 : goF H (nI d) (-9) q.1 = H := by
          unfold goF
          rw [if_pos rfl]
        rw [e1, e2]
        exact hR1
      · have hec := lt_c hc b4 he6 hbe
        rw [es, ad_eq (by omega) (by omega)]
        have e2 : goF H (nI d) (nI e) q.1 = st_F H 7 (upd (H 7) (6 * d + e) (F (9 + d) e + q.1)) := by
          unfold goF
          rw [if_neg (nI_n9 (by omega)), nI_clamp (n := d) (by omega), nI_clamp (n := e) (by omega), (hO d e (by omega) (by omega)).1]
        rw [e2]
        exact Rel_O hR1 (fun a ha => st_Fn (by omega)) (fun a ha => st_Fn ha) (rO_add hc hO hdc hec _)
