theorem rd_S {I F H : Nat → Nat → Int32} {k j z : Nat} (hz : z ≤ 60) (ez : H 2 k = nI z) (h : rS1 I F H k) (hn : ¬ H 1 k = -9) (hj : j < z) : sRead (I (22 + k) 3) (F (26 + k)) (nI j) = H 3 (60 * k + j) := by
  obtain ⟨h1, h2, h3, h4, h5⟩ := h.2.2.resolve_left (fun w => hn w.2)
  unfold sRead
  rw [← h4, ez, (hasC_iff hz _ 1).mpr ⟨j, 1, rfl, rfl, by omega⟩, if_pos rfl, nI_clamp (by omega)]
  exact h5 j (by rw [ez, nI_clamp (by omega)]; exact hj)
theorem anF_c {c : Nat} {f h : Nat → Int32} : ∀ m, (∀ k, k < m → f k = h k) → anF c f m = anF c h m
  | 0, _ => rfl
  | m + 1, e => by rw [anF, anF, anF_c m (fun k hk => e k (by omega)), e m (by omega)]
theorem ctN_cb {th : Int32} {my my' pp pp' tt tt' : Nat → Int32} : ∀ m i f h, (∀ k, i ≤ k → k < i + m → pp k = pp' k ∧ tt k = tt' k ∧ my (pp' k).toNatClampNeg = my' (pp' k).toNatClampNeg) → ctN th my pp tt i m f h = ctN th my' pp' tt' i m f h
  | 0, _, _, _, _ => rfl
  | m + 1, i, f, h, e => by
    obtain ⟨e1, e2, e3⟩ := e i (by omega) (by omega)
    rw [ctN, ctN, e1, e2, e3, ctN_cb m (i + 1) _ _ (fun k h1 h2 => e k (by omega) (by omega))]
theorem ctR_cb {th : Int32} {my my' : Nat → Int32} {c : Nat} {w : Int32} (hm : ∀ i, i < c → my i = my' i) (q : Option Nat × Int32 × Int32) : ctR th my c w q = ctR th my' c w q := by
  obtain ⟨o, f, h⟩ := q
  cases o with
  | none =>
    show (if w = 0 then f else if w = 1 then -9 else if w = 2 then h else goN th my f h c) = (if w = 0 then f else if w = 1 then -9 else if w = 2 then h else goN th my' f h c)
    rw [goN_c c hm]
  | some k => rfl
theorem ffN_cb {rd rd' : Nat → Int32} {e : Int32} : ∀ m t, (∀ j, t ≤ j → j < t + m → rd j = rd' j) → ffN rd e t m = ffN rd' e t m
  | 0, _, _ => rfl
  | m + 1, t, h => by rw [ffN, ffN, h t (by omega) (by omega), ffN_cb m (t + 1) (fun j h1 h2 => h j (by omega) (by omega))]
theorem ffN_fit {rd : Nat → Int32} {e : Int32} : ∀ m t, t + m < 2 ^ 31 → ffN rd e t m = -9 → ∀ j, t ≤ j → j < t + m → sFit (rd j) (nI j) = true
  | 0, t, _, _, j, h1, h2 => by omega
  | m + 1, t, hb, h, j, h1, h2 => by
    rw [ffN] at h
    cases q : sFit (rd t) (nI t)
    · rw [q, if_neg (by decide)] at h
      exact absurd h (nI_n9 (by omega))
    · rw [q, if_pos rfl] at h
      by_cases w : j = t
      · rw [w]; exact q
      · exact ffN_fit m (t + 1) (by omega) h j (by omega) (by omega)
theorem lk_K {x : Int32} (h : ¬ ltK x = -9) : kd (lk x) = ltK x ∧ pKind (lk x) := by
  unfold ltK at h ⊢
  unfold lk
  by_cases e1 : x = 112
  · subst e1
    rw [if_neg (by decide), if_neg (by decide), if_pos rfl]
    exact ⟨by decide, Or.inr (Or.inl rfl)⟩
  · rw [if_neg e1] at h ⊢
    by_cases e2 : x = 117
    · subst e2
      rw [if_neg (by decide), if_pos rfl, if_pos rfl]
      exact ⟨by decide, Or.inr (Or.inr rfl)⟩
    · rw [if_neg e2] at h ⊢
      by_cases e3 : x = 108
      · subst e3
        rw [if_pos rfl, if_pos rfl]
        exact ⟨by decide, Or.inl rfl⟩
      · rw [if_neg e3] at h
        exact absurd rfl h

theorem e_calls {l : Launch} {D : va_G} {tc : Nat → ClassId} {pk : Nat → Nat} {G : Nat → Option Nat} {I F : Nat → Nat → Int32} {n c : Nat} {g : Nat → Nat} {x r : Nat} {J H : Nat → Nat → Int32} (hn : 30 ≤ n) (hR : Rel pk G I F n c g x r J H) (y : Int32) (a : Int32) (i : Int32) (m : Int32) (w : Int32) : EQ l D tc yX8_calls cX8_calls 8 (some .int) 4 96 0 0 yX9_calls cX9_calls 9 3 68 [.int y, .int a, .int i, .int m, .int w] pk G I F n J H := by
  obtain ⟨hP, hN, hO, hD, hS⟩ := id hR
  obtain ⟨b1, b2, b3, b4, b5, b6, b7, b8, b9, b10, b11, b12⟩ := id hN
  have hW := hP.1
  have hc := hW.1
  have h64 : x < 64 := by
    have h6 : 2 ^ c ≤ 2 ^ 6 := Nat.pow_le_pow_right (by decide) hc
    omega
  have hmy := my_eq (J := J) hP b3
  have hH := rP_HH hP
  rcases shtC y with hy | ⟨k, hk, rfl⟩
  · refine eq_pp (c := c) (g := g) (x := x) (r := r) (c_X8_calls_no pk G I F n hn (st_I I 0 11 0) rfl hy a i m w) (c_X9_calls_no J H (st_I J 0 0 0) rfl hy a i m w) ?_ ?_
    · rfl
    · exact Rel_ft hR 0
  · clear b1 b2 b3 b4 b5 b6 b7 b8 b9 b10 b11 b12 hmy
    have hR0 := Rel_ft hR 0
    generalize hI0 : st_I I 0 11 0 = I0 at hR0
    generalize hJ0 : st_I J 0 0 0 = J0 at hR0
    have hk1 := hR0.2.2.2.2 k hk
    obtain ⟨⟨z, hz, ez⟩, ⟨z2, hz2, ez2⟩, hk3⟩ := id hk1
    obtain ⟨b1, b2, b3, b4, b5, b6, b7, b8, b9, b10, b11, b12⟩ := id hR0.2.1
    have hmy := my_eq (J := J0) hR0.1 b3
    refine eq_ss (c := c) (g := g) (x := x) (r := r) (c_X8_calls pk G I F n hn I0 hI0.symm hW b1 hk hz ez a i m w) (c_X9_calls J H J0 hJ0.symm hc b2 b4 b6 hk hz2 ez2 a i m w) ?_ ?_
    · rw [ft_ag hk1]
      cases h1 : (sW a 0 2 && sW m 0 20 && sW w 0 3)
      · simp only [Bool.false_eq_true, ↓reduceIte]
      · simp only [↓reduceIte]
        by_cases h2 : sAg (H 1 k) (H 2 k) a i (2 * m) = 0
        · rw [if_pos h2, if_pos h2, b1, b2, b5]
          by_cases h3 : nI c = 0
          · rw [if_pos h3, if_pos h3]
          · rw [if_neg h3, if_neg h3]
            rw [ez2] at h2
            simp only [Bool.and_eq_true] at h1
            obtain ⟨hn9, _, i9, m9, rfl, em, hle⟩ := sAg_0 hz2 h2
            obtain ⟨b, hb, rfl⟩ := sW_ex (m := 20) (by decide) h1.1.2
            rw [show (2 : Int32) = nI 2 from rfl, pk_mul] at em
            have em2 : 2 * b = m9 := (nI_eq (by omega) (by omega)).mp em
            rw [nI_clamp (n := b) (by omega), nI_clamp (n := i9) (by omega)]
            have hpp : ∀ k9, k9 < b → sRead (I0 (22 + k) 3) (F (26 + k)) (nI i9 + 2 * nI k9) = H 3 (60 * k + i9 + 2 * k9) := fun k9 h9 => by
              rw [ix2, rd_S hz2 ez2 hk1 hn9 (by omega), Nat.add_assoc]
            have htt : ∀ k9, k9 < b → sRead (I0 (22 + k) 3) (F (26 + k)) (nI i9 + 2 * nI k9 + 1) = H 3 (60 * k + i9 + 2 * k9 + 1) := fun k9 h9 => by
              rw [ix2, nI_1, rd_S hz2 ez2 hk1 hn9 (by omega)]
              congr 1
              omega
            rw [anF_c b hpp]
            cases h4 : anF c (fun k9 => H 3 (60 * k + i9 + 2 * k9)) b
            · simp only [Bool.false_eq_true, ↓reduceIte]
            · simp only [↓reduceIte]
              rw [ctN_cb (my' := myM J0 H) (pp' := fun k9 => H 3 (60 * k + i9 + 2 * k9)) (tt' := fun k9 => H 3 (60 * k + i9 + 2 * k9 + 1)) b 0 0 (-9) (fun k9 _ h9 => ⟨hpp k9 (by omega), htt k9 (by omega), by
                have h5 := anF_yes h4 k9 (by omega)
                obtain ⟨p9, hp9, e9⟩ := (perC hc (H 3 (60 * k + i9 + 2 * k9))).resolve_left (by rw [h5]; decide)
                rw [e9, nI_clamp (by omega)]
                exact hmy p9 hp9⟩), ctR_cb hmy]
        · rw [if_neg h2, if_neg h2]
    · rw [ft_ag hk1]
      cases h1 : (sW a 0 2 && sW m 0 20 && sW w 0 3)
      · simp only [Bool.false_eq_true, ↓reduceIte]
        exact hR0
      · simp only [↓reduceIte]
        by_cases h2 : sAg (H 1 k) (H 2 k) a i (2 * m) = 0
        · rw [if_pos h2, if_pos h2]
          exact hR0
        · rw [if_neg h2, if_neg h2]
          exact Rel_ft hR0 _
