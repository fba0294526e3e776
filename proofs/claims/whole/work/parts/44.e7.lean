theorem fg_0 {F : Nat → Nat → Int32} {p q : Nat} (hp : p < 6) (hq : q < 6) : fgF F 6 (9 + p) q = 0 := by
  unfold fgF
  rw [if_pos (by omega)]
  unfold zr
  rw [if_pos hq]
theorem fg_n {F : Nat → Nat → Int32} {a : Nat} (h : a < 9 ∨ 15 ≤ a) : fgF F 6 a = F a := by
  unfold fgF
  rw [if_neg (by omega)]
/-- a line is taken -/
theorem Rel_take {pk : Nat → Nat} {G : Nat → Option Nat} {I F : Nat → Nat → Int32} {b0 c0 : Nat} {g : Nat → Nat} {x r : Nat} {J H : Nat → Nat → Int32} (h : Rel pk G I F (b0 + 30) c0 g x r J H) {c b : Nat} (hc : c ≤ 6) {lt hs rm : Nat → Int32} {gr gr' : Int32} (hg : gr = gr') (hp : ∀ p, p < c → lt p = H 3 (b + (4 * p + 3)) ∧ ¬ ltK (lt p) = -9 ∧ hs p = H 3 (b + (4 * p + 4)) - 48 ∧ rm p = H 3 (b + (4 * p + 5)) - 48 ∧ ∃ a : Nat, a ≤ 9 ∧ H 3 (b + (4 * p + 4)) - 48 = nI a) : Rel (pkT pk b0 lt c) (GT G b0 c) (st_I (st_I (st_I (IT (st_I (st_I I 0 8 gr) 0 7 (nI c)) b0 hs rm c) 0 9 (nI (2 ^ c - 1))) 0 10 0) 17 3 0) (fgF F 6) (b0 + c + 30) c (fun p => b0 + p) (2 ^ c - 1) 0 (tkI J gr' c) (tF H b c) := by
  subst hg
  obtain ⟨⟨a1, a2, a3, a4⟩, ⟨b1, b2, b3, b4, b5, b6, b7, b8, b9, b10, b11, b12⟩, hO, hD, hS⟩ := h
  have h0c : 0 < 2 ^ c := Nat.pow_pos (by decide)
  have eI : ∀ a, 0 < a → a < 30 → a ≠ 17 → (st_I (st_I (st_I (IT (st_I (st_I I 0 8 gr) 0 7 (nI c)) b0 hs rm c) 0 9 (nI (2 ^ c - 1))) 0 10 0) 17 3 0) a = I a := by
    intro a h1 h2 h3
    rw [st_Ia h3, st_Ia (by omega), st_Ia (by omega)]
    unfold IT
    rw [if_neg (by omega), st_Ia (by omega), st_Ia (by omega)]
  have e0 : IT (st_I (st_I I 0 8 gr) 0 7 (nI c)) b0 hs rm c 0 = st_I (st_I I 0 8 gr) 0 7 (nI c) 0 := by
    unfold IT
    rw [if_neg (by omega)]
  have eT : ∀ a, a ≠ 4 → a ≠ 5 → a ≠ 6 → a ≠ 7 → tF H b c a = H a := by
    intro a h4 h5 h6 h7
    unfold tF
    rw [st_Fn h7, st_Fn h6, st_Fn h5, st_Fn h4]
  refine ⟨⟨⟨hc, fun p hp9 => ?_⟩, fun p a ha => ?_, fun p q hp9 hq9 e => by simp only at e; omega, fun p hp9 => ?_⟩, ⟨?_, rfl, ?_, by omega, ?_, rfl, rfl, ?_, ?_, by omega, rfl, rfl⟩, fun p q hp9 hq9 => ?_, fun k hk => absurd hk (by omega), fun k hk => ?_⟩
  · refine ⟨?_, by simp only; omega, ?_⟩
    · unfold GT
      rw [if_pos hp9]
    · show pKind (pkT pk b0 lt c (b0 + p))
      unfold pkT
      rw [if_pos (by omega), show b0 + p - b0 = p by omega]
      exact (lk_K (hp p hp9).2.1).2
  · unfold GT at ha
    by_cases e : p < c
    · rw [if_pos e] at ha
      cases ha
      omega
    · rw [if_neg e] at ha
      have := a2 p a ha
      omega
  · obtain ⟨q1, q2, q3, q4, q5⟩ := hp p hp9
    have hI : (st_I (st_I (st_I (IT (st_I (st_I I 0 8 gr) 0 7 (nI c)) b0 hs rm c) 0 9 (nI (2 ^ c - 1))) 0 10 0) 17 3 0) (b0 + p + 30) = fun k => if k = 2 then rm p else if k = 1 then hs p else if k = 0 then nI p else 0 := by
      rw [st_Ia (by omega), st_Ia (by omega), st_Ia (by omega)]
      unfold IT
      rw [if_pos (by omega), show b0 + p + 30 - (b0 + 30) = p by omega]
    simp only
    rw [hI]
    refine ⟨?_, rfl, ?_, ?_, ?_⟩
    · unfold pkT tF
      rw [if_pos (by omega), show b0 + p - b0 = p by omega, (lk_K q2).1, st_Fn (by decide), st_Fn (by decide), st_Fn (by decide), st_Fs]
      unfold pf
      rw [if_pos hp9, q1]
    · unfold tF
      rw [st_Fn (by decide), st_Fn (by decide), st_Fs]
      unfold pf
      rw [if_pos hp9]
      exact q3
    · unfold tF
      rw [st_Fn (by decide), st_Fs]
      unfold pf
      rw [if_pos hp9]
      exact q4
    · unfold tF
      rw [st_Fn (by decide), st_Fn (by decide), st_Fs]
      unfold pf
      rw [if_pos hp9]
      exact q5
  · rw [st_Ia (by decide), st_In (by decide), st_In (by decide), e0]
    rfl
  · rw [st_Ia (by decide), st_In (by decide), st_In (by decide), e0]
    rfl
  · rw [st_Ia (by decide), st_In (by decide), st_Is]
  · rw [st_Ia (by decide), st_In (by decide), st_In (by decide), e0]
    exact b8
  · rw [eI 21 (by decide) (by decide) (by decide)]
    exact b9
  · rw [fg_0 hp9 hq9]
    unfold tF
    rw [st_Fs]
    unfold zr
    rw [if_pos (by omega)]
    exact ⟨rfl, fun _ => rfl⟩
  · have := hS k hk
    unfold rS1 at this ⊢
    rw [eI (22 + k) (by omega) (by omega) (by omega), fg_n (by omega), eT 1 (by decide) (by decide) (by decide) (by decide), eT 2 (by decide) (by decide) (by decide) (by decide), eT 3 (by decide) (by decide) (by decide) (by decide)]
    exact this

theorem pkT_c {pk : Nat → Nat} {b0 d : Nat} {f h : Nat → Int32} (e : ∀ p, p < d → f p = h p) : pkT pk b0 f d = pkT pk b0 h d := by
  funext j
  unfold pkT
  by_cases q : b0 ≤ j ∧ j < b0 + d
  · rw [if_pos q, if_pos q, e (j - b0) (by omega)]
  · rw [if_neg q, if_neg q]
theorem IT_c {I : Nat → Nat → Int32} {b0 d : Nat} {f f' h h' : Nat → Int32} (e : ∀ p, p < d → f p = f' p) (e2 : ∀ p, p < d → h p = h' p) : IT I b0 f h d = IT I b0 f' h' d := by
  funext a
  unfold IT
  by_cases q : b0 + 30 ≤ a ∧ a < b0 + d + 30
  · rw [if_pos q, if_pos q, e (a - (b0 + 30)) (by omega), e2 (a - (b0 + 30)) (by omega)]
  · rw [if_neg q, if_neg q]
theorem ix4 (i p : Nat) : nI i + 2 + nI p * 4 + 1 = nI (i + (4 * p + 3)) := by
  rw [show (2 : Int32) = nI 2 from rfl, show (4 : Int32) = nI 4 from rfl, show (1 : Int32) = nI 1 from rfl, pk_mul, nI_add, nI_add, nI_add]
  congr 1
  omega
theorem ix4' (i p : Nat) : nI i + 2 + nI p * 4 + 2 = nI (i + (4 * p + 4)) := by
  rw [show (2 : Int32) = nI 2 from rfl, show (4 : Int32) = nI 4 from rfl, pk_mul, nI_add, nI_add, nI_add]
  congr 1
  omega
theorem ix4'' (i p : Nat) : nI i + 2 + nI p * 4 + 3 = nI (i + (4 * p + 5)) := by
  rw [show (2 : Int32) = nI 2 from rfl, show (4 : Int32) = nI 4 from rfl, show (3 : Int32) = nI 3 from rfl, pk_mul, nI_add, nI_add, nI_add]
  congr 1
  omega
theorem e_line {l : Launch} {D : va_G} {tc : Nat → ClassId} {pk : Nat → Nat} {G : Nat → Option Nat} {I F : Nat → Nat → Int32} {n c : Nat} {g : Nat → Nat} {x r : Nat} {J H : Nat → Nat → Int32} (hn : 30 ≤ n) (hR : Rel pk G I F n c g x r J H) (y : Int32) (a : Int32) (i : Int32) (m : Int32) : EQ l D tc yX8_line cX8_line 8 (some .int) 6 138 6 18 yX9_line cX9_line 7 4 87 [.int y, .int a, .int i, .int m] pk G I F n J H := by
  obtain ⟨hP, hN, hO, hD, hS⟩ := id hR
  obtain ⟨b1, b2, b3, b4, b5, b6, b7, b8, b9, b10, b11, b12⟩ := id hN
  have hW := hP.1
  have hc := hW.1
  have h64 : x < 64 := by
    have h6 : 2 ^ c ≤ 2 ^ 6 := Nat.pow_le_pow_right (by decide) hc
    omega
  have hmy := my_eq (J := J) hP b3
  have hH := rP_HH hP
  obtain ⟨b0, rfl⟩ : ∃ b0, n = b0 + 30 := ⟨n - 30, by omega⟩
  rcases shtC y with hy | ⟨k, hk, rfl⟩
  · refine ⟨.int (-1), pk, G, st_I I 0 11 0, F, b0 + 30, c, g, x, r, st_I J 0 0 0, H, am_mono (c_X8_line_no pk G I F b0 hP.2.1 (st_I I 0 11 0) rfl hy a i m) (fun v n1 h1 q => ⟨q.2.1, q.1, _, _, q.2.2, SC_refl _ _⟩), am_mono (c_X9_line_no J H (st_I J 0 0 0) rfl hy a i m) (fun v n1 h1 q => ⟨q.1, q.2.1, _, _, q.2.2, SM_refl _ _⟩), Rel_ft hR 0, Nat.le_refl _, rfl⟩
  · clear b1 b2 b3 b4 b5 b6 b7 b8 b9 b10 b11 b12 hmy
    have hR0 := Rel_ft hR 0
    generalize hI0 : st_I I 0 11 0 = I0 at hR0
    generalize hJ0 : st_I J 0 0 0 = J0 at hR0
    have hk1 := hR0.2.2.2.2 k hk
    obtain ⟨⟨z, hz, ez⟩, ⟨z2, hz2, ez2⟩, hk3⟩ := id hk1
    obtain ⟨b1, b2, b3, b4, b5, b6, b7, b8, b9, b10, b11, b12⟩ := id hR0.2.1
    have hmy := my_eq (J := J0) hR0.1 b3
    have hC8 := c_X8_line (l := l) (D := D) (tc := tc) pk G I F b0 hP.2.1 I0 hI0.symm hk hz ez a i m
    have hC9 := c_X9_line (l := l) (D := D) (tc := tc) J H J0 hJ0.symm hk hz2 ez2 a i m
    rw [ft_ag hk1] at hC8
    cases h1 : sW a 0 2
    · simp only [h1, Bool.false_eq_true, ↓reduceIte] at hC8 hC9
      exact ⟨.int (-2), pk, G, I0, F, b0 + 30, c, g, x, r, J0, H, am_mono hC8 (fun v n1 h1 q => ⟨q.2.1, q.1, _, _, q.2.2, SC_refl _ _⟩), am_mono hC9 (fun v n1 h1 q => ⟨q.1, q.2.1, _, _, q.2.2, SM_refl _ _⟩), hR0, Nat.le_refl _, rfl⟩
    · simp only [h1, ↓reduceIte] at hC8 hC9
      by_cases h2 : sAg (H 1 k) (H 2 k) a i m = 0
      · simp only [h2, ↓reduceIte] at hC8 hC9
        rw [ez2] at h2
        obtain ⟨hn9, _, i9, m9, rfl, rfl, hle⟩ := sAg_0 hz2 h2
        rw [nI_clamp (n := m9) (by omega)] at hC8 hC9
        rw [nI_clamp (n := i9) (by omega)] at hC9
        have hrd : ∀ j, j < m9 → sRead (I0 (22 + k) 3) (F (26 + k)) (nI (i9 + j)) = H 3 (60 * k + i9 + j) := fun j hj => by
          rw [rd_S hz2 ez2 hk1 hn9 (by omega), Nat.add_assoc]
        rw [ffN_cb (rd' := fun j => H 3 (60 * k + i9 + j)) m9 0 (fun j _ hj => by rw [nI_add]; exact hrd j (by omega))] at hC8
        by_cases h3 : (ffN (fun j => H 3 (60 * k + i9 + j)) (ffE (nI m9)) 0 m9) = -9
        · simp only [h3, ↓reduceIte] at hC8 hC9
          have hfit := ffN_fit (rd := fun j => H 3 (60 * k + i9 + j)) m9 0 (by omega) h3
          -- how many people
          by_cases hcc : ∃ d : Nat, 2 ≤ d ∧ d ≤ 6 ∧ m9 = 2 + 4 * d
          · obtain ⟨d, hd2, hd6, rfl⟩ := hcc
            rw [← ez] at hC8
            refine ⟨.int (nI d), _, _, _, _, b0 + d + 30, d, (fun p => b0 + p), 2 ^ d - 1, 0, _, _, am_mono hC8 (fun v n1 h1 q => ?_), am_mono hC9 (fun v n1 h1 q => ?_), Rel_take hR0 (b := 60 * k + i9) hd6 (lt := fun p => H 3 (60 * k + i9 + (4 * p + 3))) (hs := fun p => H 3 (60 * k + i9 + (4 * p + 4)) - 48) (rm := fun p => H 3 (60 * k + i9 + (4 * p + 5)) - 48) (gr := H 3 (60 * k + i9 + 1) - 48) rfl (fun p hp => ?_), by omega, rfl⟩
            · obtain ⟨d', hd6', hd2', em, e1, e2, e3⟩ := q
              have : 2 + 4 * d = 2 + 4 * d' := (nI_eq (by omega) (by omega)).mp em
              obtain rfl : d' = d := by omega
              refine ⟨e2, e1, _, _, ?_, SC_refl _ _⟩
              rw [e3]
              have r1 : sRead (I0 (22 + k) 3) (F (26 + k)) (nI i9 + 1) = H 3 (60 * k + i9 + 1) := by rw [nI_1]; exact hrd 1 (by omega)
              have r3 : pkT pk b0 (fun p => sRead (I0 (22 + k) 3) (F (26 + k)) (nI i9 + 2 + nI p * 4 + 1)) d' = pkT pk b0 (fun p => H 3 (60 * k + i9 + (4 * p + 3))) d' := pkT_c (fun p hp => by rw [ix4]; exact hrd (4 * p + 3) (by omega))
              have r4 : ∀ p, p < d' → sRead (I0 (22 + k) 3) (F (26 + k)) (nI i9 + 2 + nI p * 4 + 2) - 48 = H 3 (60 * k + i9 + (4 * p + 4)) - 48 := fun p hp => by rw [ix4', hrd (4 * p + 4) (by omega)]
              have r5 : ∀ p, p < d' → sRead (I0 (22 + k) 3) (F (26 + k)) (nI i9 + 2 + nI p * 4 + 3) - 48 = H 3 (60 * k + i9 + (4 * p + 5)) - 48 := fun p hp => by rw [ix4'', hrd (4 * p + 5) (by omega)]
              rw [r1, r3, IT_c r4 r5]
            · obtain ⟨e0, d', hd2', hd6', em, e1, J2, H2, e2, e3⟩ := q
              have : 2 + 4 * d = 2 + 4 * d' := (nI_eq (by omega) (by omega)).mp em
              obtain rfl : d' = d := by omega
              exact ⟨e0, e1, J2, H2, e2, e3⟩
            · have f1 := hfit (4 * p + 3) (by omega) (by omega)
              rw [show 4 * p + 3 = 3 + 4 * p by omega, fit_1 (by omega)] at f1
              have f2 := hfit (4 * p + 4) (by omega) (by omega)
              rw [show 4 * p + 4 = 4 + 4 * p by omega, fit_2 (by omega)] at f2
              refine ⟨rfl, ?_, rfl, rfl, ?_⟩
              · rw [show 4 * p + 3 = 3 + 4 * p by omega]
                simpa using f1
              · rw [show 4 * p + 4 = 4 + 4 * p by omega]
                exact sDig_ex f2
          · -- then neither comes back so
            have hno : ∀ d : Nat, 2 ≤ d → d ≤ 6 → ¬ nI m9 = nI (2 + 4 * d) := fun d h4 h5 e => hcc ⟨d, h4, h5, (nI_eq (by omega) (by omega)).mp e⟩
            exact ⟨.int 0, pk, G, I0, F, b0 + 30, c, g, x, r, J0, H, am_mono hC8 (fun v n1 h1 q => by
              obtain ⟨d, h4, h5, e, _⟩ := q
              exact absurd e (hno d h5 h4)), am_mono hC9 (fun v n1 h1 q => by
              obtain ⟨_, d, h4, h5, e, _⟩ := q
              exact absurd e (hno d h4 h5)), hR0, Nat.le_refl _, rfl⟩
        · simp only [h3, ↓reduceIte] at hC8 hC9
          exact ⟨_, pk, G, I0, F, b0 + 30, c, g, x, r, J0, H, am_mono hC8 (fun v n1 h1 q => ⟨q.2.1, q.1, _, _, q.2.2, SC_refl _ _⟩), am_mono hC9 (fun v n1 h1 q => ⟨q.1, q.2⟩), hR0, Nat.le_refl _, rfl⟩
      · simp only [h2, ↓reduceIte] at hC8 hC9
        exact ⟨_, pk, G, _, F, b0 + 30, c, g, x, r, _, H, am_mono hC8 (fun v n1 h1 q => ⟨q.2.1, q.1, _, _, q.2.2, SC_refl _ _⟩), am_mono hC9 (fun v n1 h1 q => ⟨q.1, q.2.1, _, _, q.2.2, SM_refl _ _⟩), Rel_ft hR0 _, Nat.le_refl _, rfl⟩
