theorem Rel_S {pk : Nat → Nat} {G : Nat → Option Nat} {I F I1 F1 : Nat → Nat → Int32} {n c : Nat} {g : Nat → Nat} {x r : Nat} {J H H1 : Nat → Nat → Int32} (h : Rel pk G I F n c g x r J H) (hI : ∀ a, a < 22 ∨ 30 ≤ a → I1 a = I a) (hF : ∀ a, a < 26 → F1 a = F a) (hH : ∀ a, a ≠ 1 → a ≠ 2 → a ≠ 3 → H1 a = H a) (hS : rS I1 F1 H1) : Rel pk G I1 F1 n c g x r J H1 := by
  obtain ⟨⟨a1, a2, a3, a4⟩, hN, hO, hD, _⟩ := h
  refine ⟨⟨a1, a2, a3, fun p hp => ?_⟩, ?_, fun p q hp hq => ?_, fun k hk => ?_, hS⟩
  · rw [hI (g p + 30) (by omega), hH 4 (by decide) (by decide) (by decide), hH 5 (by decide) (by decide) (by decide), hH 6 (by decide) (by decide) (by decide)]
    exact a4 p hp
  · unfold rN at hN ⊢
    rw [hI 0 (by decide), hI 17 (by decide), hI 21 (by decide)]
    exact hN
  · rw [hF (9 + p) (by omega), hH 7 (by decide) (by decide) (by decide)]
    exact hO p q hp hq
  · rw [hF 18 (by decide), hF 19 (by decide), hF 20 (by decide), hH 12 (by decide) (by decide) (by decide), hH 13 (by decide) (by decide) (by decide), hH 14 (by decide) (by decide) (by decide)]
    exact hD k hk
theorem sW_n9 {t : Int32} (h : sW t 0 2 = true) : ¬ t = -9 := fun e => by
  subst e
  revert h
  decide
theorem has1 {z : Nat} (hz : z ≤ 60) (i : Int32) : sHasC (nI z) i 1 = sW i 0 (nI z - 1) := by
  cases q : sW i 0 (nI z - 1)
  · cases q2 : sHasC (nI z) i 1
    · rfl
    · obtain ⟨a, b, rfl, hb, hab⟩ := (hasC_iff hz i 1).mp q2
      have hb1 : b = 1 := by
        rcases Nat.lt_or_ge b (2 ^ 31) with w | w
        · exact ((nI_eq (a := 1) (by decide) w).mp hb).symm
        · omega
      subst hb1
      obtain ⟨z2, rfl⟩ : ∃ z2, z = z2 + 1 := ⟨z - 1, by omega⟩
      rw [nI_pred, sW_nI (by omega) (by omega)] at q
      cases q
  · obtain ⟨j, hj, rfl⟩ := in1 hz rfl q
    exact (hasC_iff hz _ 1).mpr ⟨j, 1, rfl, rfl, by omega⟩
theorem ft_ag {I F H : Nat → Nat → Int32} {k : Nat} (h : rS1 I F H k) (a i m : Int32) : sFt (I (22 + k) 1) (I (22 + k) 2) (I (22 + k) 3) a i m = sAg (H 1 k) (H 2 k) a i m := by
  rcases h.2.2 with ⟨h1, h2⟩ | ⟨h1, h2, h3, h4, _⟩
  · rw [h1, h2]; rfl
  · unfold sFt sAg
    rw [h1, if_neg (by decide), if_neg (sW_n9 h3), h2, h4]
    by_cases e : I (22 + k) 2 = a
    · rw [if_pos e, if_pos e]
      by_cases e2 : 0 ≤ m
      · rw [if_pos e2, if_pos e2]
        unfold sHasC
        by_cases e3 : i < 0
        · simp [e3]
        · by_cases e4 : I (22 + k) 3 < i
          · simp [e3, e4]
          · by_cases e5 : m ≤ I (22 + k) 3 - i
            · simp only [e3, e4, e5, decide_false, Bool.not_false, Bool.true_and, if_false, if_true, show ¬ I (22 + k) 3 - i < m from Int32.not_lt.mpr e5, show ¬ m < 0 from Int32.not_lt.mpr e2, if_pos]
            · simp only [e3, e4, e5, decide_false, decide_true, Bool.not_false, Bool.not_true, Bool.true_and, if_false, if_true, show I (22 + k) 3 - i < m from Int32.not_le.mp e5, show ¬ m < 0 from Int32.not_lt.mpr e2, Bool.false_eq_true]
      · rw [if_neg e2, if_neg e2]
    · rw [if_neg e, if_neg e]
theorem ceM_1 (z a i : Int32) : ceM (-9) z a i = 1 := by
  unfold ceM
  rw [if_pos rfl]
theorem ceM_2 {t : Int32} (h : ¬ t = -9) (z i : Int32) : ceM t z t i = if sW i 0 (z - 1) then 0 else 3 := by
  unfold ceM
  rw [if_neg h, if_pos rfl]
theorem ft_ce {I F H : Nat → Nat → Int32} {k : Nat} (h : rS1 I F H k) (a i : Int32) : sFt (I (22 + k) 1) (I (22 + k) 2) (I (22 + k) 3) a i 1 = ceM (H 1 k) (H 2 k) a i := by
  obtain ⟨_, ⟨z, hz, ez⟩, h9⟩ := h
  rcases h9 with ⟨h1, h2⟩ | ⟨h1, h2, h3, h4, _⟩
  · rw [h2, ceM_1, h1]
    unfold sFt
    rw [if_pos rfl]
  · unfold sFt ceM
    rw [h1, if_neg (by decide), if_neg (sW_n9 h3), h2, ← h4, ez, has1 hz, if_pos (show (0 : Int32) ≤ 1 by decide)]
/-- one sheet told anew -/
theorem rS_k {I F H I1 F1 H1 : Nat → Nat → Int32} {k : Nat} (h : rS I F H) (hk : rS1 I1 F1 H1 k) (hI : ∀ j, j ≠ k → I1 (22 + j) = I (22 + j)) (hF : ∀ j, j ≠ k → F1 (26 + j) = F (26 + j)) (hH : ∀ j, j < 4 → j ≠ k → H1 1 j = H 1 j ∧ H1 2 j = H 2 j ∧ ∀ i, i < 60 → H1 3 (60 * j + i) = H 3 (60 * j + i)) : rS I1 F1 H1 := by
  intro j hj
  by_cases e : j = k
  · exact e ▸ hk
  · have := h j hj
    obtain ⟨q1, q2, q3⟩ := hH j hj e
    unfold rS1 at this ⊢
    rw [hI j e, hF j e, q1, q2]
    obtain ⟨t1, ⟨z, hz, ez⟩, t3⟩ := this
    refine ⟨t1, ⟨z, hz, ez⟩, ?_⟩
    rcases t3 with t3 | ⟨u1, u2, u3, u4, u5⟩
    · exact Or.inl t3
    · refine Or.inr ⟨u1, u2, u3, u4, fun i hi => ?_⟩
      rw [q3 i (by rw [ez, nI_clamp (by omega)] at hi; omega)]
      exact u5 i hi

theorem e_lose {l : Launch} {D : va_G} {tc : Nat → ClassId} {pk : Nat → Nat} {G : Nat → Option Nat} {I F : Nat → Nat → Int32} {n c : Nat} {g : Nat → Nat} {x r : Nat} {J H : Nat → Nat → Int32} (hn : 30 ≤ n) (hR : Rel pk G I F n c g x r J H) (y : Int32) : EQ l D tc yX8_lose cX8_lose 4 (some .int) 1 21 0 0 yX9_lose cX9_lose 3 2 42 [.int y] pk G I F n J H := by
  obtain ⟨hP, hN, hO, hD, hS⟩ := id hR
  obtain ⟨b1, b2, b3, b4, b5, b6, b7, b8, b9, b10, b11, b12⟩ := id hN
  have hW := hP.1
  have hc := hW.1
  have h64 : x < 64 := by
    have h6 : 2 ^ c ≤ 2 ^ 6 := Nat.pow_le_pow_right (by decide) hc
    omega
  have hmy := my_eq (J := J) hP b3
  have hH := rP_HH hP
  rcases shtC y with hy | ⟨k, hk, rfl⟩
  · refine eq_pp (c := c) (g := g) (x := x) (r := r) (c_X8_lose_no pk G I F n hn hy) (c_X9_lose_no J H hy) ?_ ?_
    · rfl
    · exact hR
  · have hk1 := hS k hk
    refine eq_pp (c := c) (g := g) (x := x) (r := r) (c_X8_lose pk G I F n hn hk) (c_X9_lose J H hk) ?_ ?_
    · rcases hk1.2.2 with ⟨h1, h2⟩ | ⟨h1, h2, h3, h4, _⟩
      · rw [h1, h2]; rfl
      · rw [h1, if_neg (sW_n9 h3)]; rfl
    · refine Rel_S hR (fun a ha => st_Ia (by omega)) (fun a ha => rfl) (fun a h1 h2 h3 => st_Fn h1) (rS_k (k := k) hS ?_ (fun j hj => st_Ia (by omega)) (fun j hj => rfl) (fun j _ hj => ⟨?_, rfl, fun i _ => rfl⟩))
      · refine ⟨?_, hk1.2.1, Or.inl ⟨st_Is _ _ _ _, ?_⟩⟩
        · rw [st_In (by omega)]
          exact hk1.1
        · rw [st_Fs]; exact if_pos rfl
      · rw [st_Fs]; exact if_neg hj
theorem e_sheet {l : Launch} {D : va_G} {tc : Nat → ClassId} {pk : Nat → Nat} {G : Nat → Option Nat} {I F : Nat → Nat → Int32} {n c : Nat} {g : Nat → Nat} {x r : Nat} {J H : Nat → Nat → Int32} (hn : 30 ≤ n) (hR : Rel pk G I F n c g x r J H) (y : Int32) (a : Int32) (m : Int32) : EQ l D tc yX8_sheet cX8_sheet 5 (some .int) 2 44 0 0 yX9_sheet cX9_sheet 5 2 42 [.int y, .int a, .int m] pk G I F n J H := by
  obtain ⟨hP, hN, hO, hD, hS⟩ := id hR
  obtain ⟨b1, b2, b3, b4, b5, b6, b7, b8, b9, b10, b11, b12⟩ := id hN
  have hW := hP.1
  have hc := hW.1
  have h64 : x < 64 := by
    have h6 : 2 ^ c ≤ 2 ^ 6 := Nat.pow_le_pow_right (by decide) hc
    omega
  have hmy := my_eq (J := J) hP b3
  have hH := rP_HH hP
  rcases shtC y with hy | ⟨k, hk, rfl⟩
  · refine eq_pp (c := c) (g := g) (x := x) (r := r) (c_X8_sheet_no pk G I F n hn (st_I I 0 11 0) rfl hy a m) (c_X9_sheet_no J H (st_I J 0 0 0) rfl hy a m) ?_ ?_
    · rfl
    · exact Rel_ft hR 0
  · have hR0 := Rel_ft hR 0
    refine eq_pp (c := c) (g := g) (x := x) (r := r) (c_X8_sheet pk G I F n hn (st_I I 0 11 0) rfl hk a m) (c_X9_sheet J H (st_I J 0 0 0) rfl hk a m) ?_ ?_
    · rfl
    · cases h1 : (sW a 0 2 && decide (m ≤ 60))
      · simp only [Bool.false_eq_true, ↓reduceIte]
        exact hR0
      · by_cases h2 : 0 ≤ m
        · simp only [h2, ↓reduceIte]
          simp only [Bool.and_eq_true, decide_eq_true_eq] at h1
          obtain ⟨m9, hm9, rfl⟩ := nI_of (Int32.not_lt.mpr h2)
          have hm60 : m9 ≤ 60 := (nI_leI (b := 60) hm9 (by decide)).mp h1.2
          rw [nI_clamp hm9]
          refine Rel_S hR0 (fun b hb => ?_) (fun b hb => st_Fn (by omega)) (fun b q1 q2 q3 => by rw [st_Fn q3, st_Fn q2, st_Fn q1]) (rS_k (k := k) hR0.2.2.2.2 ?_ (fun j hj => ?_) (fun j hj => st_Fn (by omega)) (fun j hj4 hj => ⟨?_, ?_, fun i hi => ?_⟩))
          · unfold rnI
            rw [st_Ia (by omega), st_Ia (by omega), st_Ia (by omega)]
          · refine ⟨⟨m9, hm60, st_Is _ _ _ _⟩, ⟨m9, hm60, ?_⟩, Or.inr ⟨?_, ?_, ?_, ?_, fun i hi => ?_⟩⟩
            · rw [st_Fn (by decide), st_Fs]; exact if_pos rfl
            · unfold rnI; rw [st_In (by omega), st_In (by omega), st_Is]
            · rw [st_Fn (by decide), st_Fn (by decide), st_Fs]
              unfold rnI; rw [st_In (by omega), st_Is]; exact if_pos rfl
            · rw [st_Fn (by decide), st_Fn (by decide), st_Fs]
              simp only [upd, if_true]; exact h1.1
            · rw [st_Fn (by decide), st_Fs]
              unfold rnI; rw [st_Is]; exact if_pos rfl
            · rw [st_Fn (by decide), st_Fs] at hi
              simp only [upd, if_true] at hi
              rw [nI_clamp hm9] at hi
              rw [st_Fs, st_Fs]
              unfold zr zrM
              rw [if_pos hi, if_pos (by omega)]
          · unfold rnI
            rw [st_Ia (by omega), st_Ia (by omega), st_Ia (by omega)]
          · rw [st_Fn (by decide), st_Fn (by decide), st_Fs]; exact if_neg hj
          · rw [st_Fn (by decide), st_Fs]; exact if_neg hj
          · rw [st_Fs]
            unfold zrM
            rw [if_neg (by omega)]
        · simp only [h2, ↓reduceIte]
          exact Rel_ft hR0 4
theorem e_put {l : Launch} {D : va_G} {tc : Nat → ClassId} {pk : Nat → Nat} {G : Nat → Option Nat} {I F : Nat → Nat → Int32} {n c : Nat} {g : Nat → Nat} {x r : Nat} {J H : Nat → Nat → Int32} (hn : 30 ≤ n) (hR : Rel pk G I F n c g x r J H) (y : Int32) (i : Int32) (m : Int32) : EQ l D tc yX8_put cX8_put 6 (some .int) 2 45 0 0 yX9_put cX9_put 4 2 42 [.int y, .int i, .int m] pk G I F n J H := by
  obtain ⟨hP, hN, hO, hD, hS⟩ := id hR
  obtain ⟨b1, b2, b3, b4, b5, b6, b7, b8, b9, b10, b11, b12⟩ := id hN
  have hW := hP.1
  have hc := hW.1
  have h64 : x < 64 := by
    have h6 : 2 ^ c ≤ 2 ^ 6 := Nat.pow_le_pow_right (by decide) hc
    omega
  have hmy := my_eq (J := J) hP b3
  have hH := rP_HH hP
  rcases shtC y with hy | ⟨k, hk, rfl⟩
  · refine eq_pp (c := c) (g := g) (x := x) (r := r) (c_X8_put_no pk G I F n hn (st_I I 0 11 0) rfl hy i m) (c_X9_put_no J H (st_I J 0 0 0) rfl hy i m) ?_ ?_
    · rfl
    · exact Rel_ft hR 0
  · have hR0 := Rel_ft hR 0
    generalize hI0 : st_I I 0 11 0 = I0 at hR0
    generalize hJ0 : st_I J 0 0 0 = J0 at hR0
    have hk1 := hR0.2.2.2.2 k hk
    obtain ⟨⟨z, hz, ez⟩, ⟨z2, hz2, ez2⟩, hk2⟩ := id hk1
    refine eq_pp (c := c) (g := g) (x := x) (r := r) (c_X8_put pk G I F n hn I0 hI0.symm hk hz ez i m) (c_X9_put J H J0 hJ0.symm hk hz2 ez2 i m) ?_ ?_
    · rw [ft_ce hk1]
      rcases hk2 with ⟨h1, h2⟩ | ⟨h1, h2, h3, h4, _⟩
      · rw [h2, ceM_1, if_neg (by decide), if_pos rfl, show (-10 : Int32) - 1 = -11 by decide]
      · rw [← h2, ceM_2 (sW_n9 h3), if_neg (sW_n9 h3)]
        cases sW i 0 (H 2 k - 1)
        · simp only [Bool.false_eq_true, ↓reduceIte]
          rw [if_neg (by decide), show (-10 : Int32) - 3 = -13 by decide]
        · simp only [↓reduceIte]
    · rw [ft_ce hk1]
      rcases hk2 with ⟨h1, h2⟩ | ⟨h1, h2, h3, h4, h5⟩
      · rw [h2]
        exact Rel_ft hR0 1
      · have e9 : ceM (H 1 k) (H 2 k) (I0 (22 + k) 2) i = if sW i 0 (H 2 k - 1) then 0 else 3 := by
          unfold ceM
          rw [if_neg (sW_n9 h3), if_pos h2]
        rw [e9, if_neg (sW_n9 h3), if_neg (sW_n9 h3), ← h4, ez2, has1 hz2]
        cases q : sW i 0 (nI z2 - 1)
        · simp only [Bool.false_eq_true, ↓reduceIte]
          exact Rel_ft hR0 3
        · obtain ⟨j, hj, rfl⟩ := in1 hz2 rfl q
          simp only [↓reduceIte]
          rw [nI_clamp (by omega), show sCut (I0 (22 + k) 2) m = sCutM (H 1 k) m from by rw [h2]; rfl]
          refine Rel_S hR0 (fun b hb => rfl) (fun b hb => st_Fn (by omega)) (fun b q1 q2 q3 => st_Fn q3) (rS_k (k := k) hR0.2.2.2.2 ?_ (fun j9 hj9 => rfl) (fun j9 hj9 => st_Fn (by omega)) (fun j9 hj4 hj9 => ⟨rfl, rfl, fun i9 hi9 => ?_⟩))
          · refine ⟨⟨z, hz, ez⟩, ⟨z2, hz2, ez2⟩, Or.inr ⟨h1, h2, h3, h4, fun i9 hi9 => ?_⟩⟩
            rw [st_Fs, st_Fs]
            unfold upd
            by_cases e : i9 = j
            · rw [if_pos e, if_pos (by omega)]
            · rw [if_neg e, if_neg (by omega)]
              exact h5 i9 hi9
          · rw [st_Fs]
            unfold upd
            rw [if_neg (by omega)]
theorem e_cell {l : Launch} {D : va_G} {tc : Nat → ClassId} {pk : Nat → Nat} {G : Nat → Option Nat} {I F : Nat → Nat → Int32} {n c : Nat} {g : Nat → Nat} {x r : Nat} {J H : Nat → Nat → Int32} (hn : 30 ≤ n) (hR : Rel pk G I F n c g x r J H) (y : Int32) (i : Int32) (a : Int32) : EQ l D tc yX8_cell cX8_cell 5 (some .long) 2 45 0 0 yX9_cell cX9_cell 4 2 42 [.int y, .int i, .int a] pk G I F n J H := by
  obtain ⟨hP, hN, hO, hD, hS⟩ := id hR
  obtain ⟨b1, b2, b3, b4, b5, b6, b7, b8, b9, b10, b11, b12⟩ := id hN
  have hW := hP.1
  have hc := hW.1
  have h64 : x < 64 := by
    have h6 : 2 ^ c ≤ 2 ^ 6 := Nat.pow_le_pow_right (by decide) hc
    omega
  have hmy := my_eq (J := J) hP b3
  have hH := rP_HH hP
  rcases shtC y with hy | ⟨k, hk, rfl⟩
  · refine eq_pp (c := c) (g := g) (x := x) (r := r) (c_X8_cell_no pk G I F n hn (st_I I 0 11 0) rfl hy i a) (c_X9_cell_no J H (st_I J 0 0 0) rfl hy i a) ?_ ?_
    · rfl
    · exact Rel_ft hR 0
  · have hR0 := Rel_ft hR 0
    generalize hI0 : st_I I 0 11 0 = I0 at hR0
    generalize hJ0 : st_I J 0 0 0 = J0 at hR0
    have hk1 := hR0.2.2.2.2 k hk
    obtain ⟨⟨z, hz, ez⟩, ⟨z2, hz2, ez2⟩, hk2⟩ := id hk1
    refine eq_pp (c := c) (g := g) (x := x) (r := r) (c_X8_cell pk G I F n hn I0 hI0.symm hk hz ez i a) (c_X9_cell J H J0 hJ0.symm hk hz2 ez2 i a) ?_ ?_
    · rw [ft_ce hk1]
      cases q : sW a 0 2
      · simp only [Bool.false_eq_true, ↓reduceIte]
      · simp only [↓reduceIte]
        by_cases e : ceM (H 1 k) (H 2 k) a i = 0
        · rw [if_pos e, if_pos e]
          rcases hk2 with ⟨h1, h2⟩ | ⟨h1, h2, h3, h4, h5⟩
          · rw [h2] at e
            rw [ceM_1] at e
            exact absurd e (by decide)
          · unfold ceM at e
            rw [if_neg (sW_n9 h3)] at e
            by_cases e2 : H 1 k = a
            · rw [if_pos e2, ez2] at e
              cases q2 : sW i 0 (nI z2 - 1)
              · rw [q2] at e
                exact absurd e (by decide)
              · obtain ⟨j, hj, rfl⟩ := in1 hz2 rfl q2
                unfold sRead
                rw [← h4, ez2, has1 hz2, q2, if_pos rfl, nI_clamp (by omega), h5 j (by rw [ez2, nI_clamp (by omega)]; exact hj)]
            · rw [if_neg e2] at e
              exact absurd e (by decide)
        · rw [if_neg e, if_neg e]
    · rw [ft_ce hk1]
      cases q : sW a 0 2
      · simp only [Bool.false_eq_true, ↓reduceIte]
        exact hR0
      · simp only [↓reduceIte]
        by_cases e : ceM (H 1 k) (H 2 k) a i = 0
        · rw [if_pos e, e, ← hI0, st_II, hI0]
          exact hR0
        · rw [if_neg e]
          exact Rel_ft hR0 _
