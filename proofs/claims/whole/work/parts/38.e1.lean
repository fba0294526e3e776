theorem st_Ia {I : Nat → Nat → Int32} {a k b : Nat} {v : Int32} (h : b ≠ a) : st_I I a k v b = I b := by
  unfold st_I
  rw [if_neg h]
theorem Rel_I {pk : Nat → Nat} {G : Nat → Option Nat} {I F I1 : Nat → Nat → Int32} {n c : Nat} {g : Nat → Nat} {x r x' r' : Nat} {J H J1 : Nat → Nat → Int32} (h : Rel pk G I F n c g x r J H) (h1 : ∀ a, 22 ≤ a → I1 a = I a) (hN : rN I1 J1 c x' r') (hr : r' ≤ r) : Rel pk G I1 F n c g x' r' J1 H := by
  refine ⟨⟨h.1.1, h.1.2.1, h.1.2.2.1, fun p hp => ?_⟩, hN, h.2.2.1, fun k hk => h.2.2.2.1 k (by omega), fun k hk => ?_⟩
  · rw [h1 (g p + 30) (by omega)]
    exact h.1.2.2.2 p hp
  · have := h.2.2.2.2 k hk
    unfold rS1 at this ⊢
    rw [h1 (22 + k) (by omega)]
    exact this
theorem nI_c0 {c : Nat} (hc : c ≤ 6) : nI c = 0 ↔ c = 0 := nI_00 (by omega)
theorem sW9 {w : Int32} (h : sW w 0 9 = true) : ∃ a : Nat, a ≤ 9 ∧ w = nI a := sW_ex (m := 9) (by decide) h
/-- a person's haste or room is told anew -/
theorem Rel_per {pk : Nat → Nat} {G : Nat → Option Nat} {I F : Nat → Nat → Int32} {n c : Nat} {g : Nat → Nat} {x r p : Nat} {J H : Nat → Nat → Int32} (h : Rel pk G I F n c g x r J H) (hp : p < c) {w : Int32} (hw : ∃ a : Nat, a ≤ 9 ∧ w = nI a) : Rel pk G (st_I I (g p + 30) 1 w) F n c g x r J (st_F H 5 (upd (H 5) p w)) ∧ Rel pk G (st_I I (g p + 30) 2 w) F n c g x r J (st_F H 6 (upd (H 6) p w)) := by
  obtain ⟨⟨a1, a2, a3, a4⟩, hN, hO, hD, hS⟩ := h
  have e (k b : Nat) (hb : b < 30) : st_I I (g p + 30) k w b = I b := st_Ia (by omega)
  have hN2 : ∀ k, rN (st_I I (g p + 30) k w) J c x r := fun k => by
    unfold rN at hN ⊢
    rw [e k 0 (by decide), e k 21 (by decide), e k 17 (by decide)]
    exact hN
  have hS2 : ∀ k a v, a ≠ 1 → a ≠ 2 → a ≠ 3 → rS (st_I I (g p + 30) k w) F (st_F H a v) := fun k a v h1 h2 h3 j hj => by
    have := hS j hj
    unfold rS1 at this ⊢
    rw [e k (22 + j) (by omega), st_Fn (Ne.symm h1), st_Fn (Ne.symm h2), st_Fn (Ne.symm h3)]
    exact this
  constructor
  · refine ⟨⟨a1, a2, a3, fun q hq => ?_⟩, hN2 1, hO, hD, hS2 1 5 _ (by decide) (by decide) (by decide)⟩
    obtain ⟨d1, d2, d3, d4, d5⟩ := a4 q hq
    rw [st_Fn (show 4 ≠ 5 by decide), st_Fn (show 6 ≠ 5 by decide), st_Fs]
    by_cases eq : q = p
    · subst eq
      rw [st_In (by omega), st_Is, st_In (by omega)]
      refine ⟨d1, d2, ?_, d4, ?_⟩
      · simp [upd]
      · simp only [upd, if_true]; exact hw
    · have hne : g q + 30 ≠ g p + 30 := fun q9 => eq (a3 q p hq hp (by omega))
      rw [st_Ia hne]
      simp only [upd, if_neg eq]
      exact ⟨d1, d2, d3, d4, d5⟩
  · refine ⟨⟨a1, a2, a3, fun q hq => ?_⟩, hN2 2, hO, hD, hS2 2 6 _ (by decide) (by decide) (by decide)⟩
    obtain ⟨d1, d2, d3, d4, d5⟩ := a4 q hq
    rw [st_Fn (show 4 ≠ 6 by decide), st_Fn (show 5 ≠ 6 by decide), st_Fs]
    by_cases eq : q = p
    · subst eq
      rw [st_In (by omega), st_Is, st_In (by omega)]
      refine ⟨d1, d2, d3, ?_, d5⟩
      simp [upd]
    · have hne : g q + 30 ≠ g p + 30 := fun q9 => eq (a3 q p hq hp (by omega))
      rw [st_Ia hne]
      simp only [upd, if_neg eq]
      exact ⟨d1, d2, d3, d4, d5⟩

theorem e_trace {l : Launch} {D : va_G} {tc : Nat → ClassId} {pk : Nat → Nat} {G : Nat → Option Nat} {I F : Nat → Nat → Int32} {n c : Nat} {g : Nat → Nat} {x r : Nat} {J H : Nat → Nat → Int32} (hn : 30 ≤ n) (hR : Rel pk G I F n c g x r J H) : EQ l D tc yX8_trace cX8_trace 1 (some .int) 0 0 0 0 yX9_trace cX9_trace 1 0 0 [] pk G I F n J H := by
  obtain ⟨hP, hN, hO, hD, hS⟩ := id hR
  obtain ⟨b1, b2, b3, b4, b5, b6, b7, b8, b9, b10, b11, b12⟩ := id hN
  have hW := hP.1
  have hc := hW.1
  have h64 : x < 64 := by
    have h6 : 2 ^ c ≤ 2 ^ 6 := Nat.pow_le_pow_right (by decide) hc
    omega
  have hmy := my_eq (J := J) hP b3
  have hH := rP_HH hP
  refine eq_pp (c := c) (g := g) (x := x) (r := r) (c_X8_trace pk G I F n hn) (c_X9_trace J H) ?_ ?_
  · rw [b9]
  · exact hR
theorem e_fault {l : Launch} {D : va_G} {tc : Nat → ClassId} {pk : Nat → Nat} {G : Nat → Option Nat} {I F : Nat → Nat → Int32} {n c : Nat} {g : Nat → Nat} {x r : Nat} {J H : Nat → Nat → Int32} (hn : 30 ≤ n) (hR : Rel pk G I F n c g x r J H) : EQ l D tc yX8_fault cX8_fault 1 (some .int) 0 0 0 0 yX9_fault cX9_fault 1 0 0 [] pk G I F n J H := by
  obtain ⟨hP, hN, hO, hD, hS⟩ := id hR
  obtain ⟨b1, b2, b3, b4, b5, b6, b7, b8, b9, b10, b11, b12⟩ := id hN
  have hW := hP.1
  have hc := hW.1
  have h64 : x < 64 := by
    have h6 : 2 ^ c ≤ 2 ^ 6 := Nat.pow_le_pow_right (by decide) hc
    omega
  have hmy := my_eq (J := J) hP b3
  have hH := rP_HH hP
  refine eq_pp (c := c) (g := g) (x := x) (r := r) (c_X8_fault pk G I F n hn) (c_X9_fault J H) ?_ ?_
  · rw [b8]
  · exact hR
theorem e_many {l : Launch} {D : va_G} {tc : Nat → ClassId} {pk : Nat → Nat} {G : Nat → Option Nat} {I F : Nat → Nat → Int32} {n c : Nat} {g : Nat → Nat} {x r : Nat} {J H : Nat → Nat → Int32} (hn : 30 ≤ n) (hR : Rel pk G I F n c g x r J H) (w : Int32) : EQ l D tc yX8_many cX8_many 2 (some .int) 1 20 0 0 yX9_many cX9_many 2 1 22 [.int w] pk G I F n J H := by
  obtain ⟨hP, hN, hO, hD, hS⟩ := id hR
  obtain ⟨b1, b2, b3, b4, b5, b6, b7, b8, b9, b10, b11, b12⟩ := id hN
  have hW := hP.1
  have hc := hW.1
  have h64 : x < 64 := by
    have h6 : 2 ^ c ≤ 2 ^ 6 := Nat.pow_le_pow_right (by decide) hc
    omega
  have hmy := my_eq (J := J) hP b3
  have hH := rP_HH hP
  refine eq_pp (c := c) (g := g) (x := x) (r := r) (c_X8_many pk G I F n hn w) (c_X9_many J H h64 b6 w) ?_ ?_
  · rw [b1, b2, b3, b5, pop_sz ⟨x, h64⟩, b7, b11, b12]
  · exact hR
theorem e_lease {l : Launch} {D : va_G} {tc : Nat → ClassId} {pk : Nat → Nat} {G : Nat → Option Nat} {I F : Nat → Nat → Int32} {n c : Nat} {g : Nat → Nat} {x r : Nat} {J H : Nat → Nat → Int32} (hn : 30 ≤ n) (hR : Rel pk G I F n c g x r J H) (w : Int32) : EQ l D tc yX8_lease cX8_lease 3 (some .int) 1 22 0 0 yX9_lease cX9_lease 3 1 22 [.int w] pk G I F n J H := by
  obtain ⟨hP, hN, hO, hD, hS⟩ := id hR
  obtain ⟨b1, b2, b3, b4, b5, b6, b7, b8, b9, b10, b11, b12⟩ := id hN
  have hW := hP.1
  have hc := hW.1
  have h64 : x < 64 := by
    have h6 : 2 ^ c ≤ 2 ^ 6 := Nat.pow_le_pow_right (by decide) hc
    omega
  have hmy := my_eq (J := J) hP b3
  have hH := rP_HH hP
  refine eq_pp (c := c) (g := g) (x := x) (r := r) (c_X8_lease pk G I F n hn w) (c_X9_lease J H w) ?_ ?_
  · rw [b1, b2, b3]
  · rw [b1, b2]
    cases h1 : sW w 0 9
    · exact hR
    · by_cases h2 : nI c = 0
      · simp only [h2, ↓reduceIte]
        exact hR
      · simp only [h2, ↓reduceIte]
        exact Rel_I hR (fun a ha => st_Ia (by omega)) ⟨b1, b2, rfl, b4, b5, b6, b7, b8, b9, b10, b11, b12⟩ (Nat.le_refl _)
theorem e_morning {l : Launch} {D : va_G} {tc : Nat → ClassId} {pk : Nat → Nat} {G : Nat → Option Nat} {I F : Nat → Nat → Int32} {n c : Nat} {g : Nat → Nat} {x r : Nat} {J H : Nat → Nat → Int32} (hn : 30 ≤ n) (hR : Rel pk G I F n c g x r J H) : EQ l D tc yX8_morning cX8_morning 2 (some .int) 2 40 0 0 yX9_morning cX9_morning 3 1 22 [] pk G I F n J H := by
  obtain ⟨hP, hN, hO, hD, hS⟩ := id hR
  obtain ⟨b1, b2, b3, b4, b5, b6, b7, b8, b9, b10, b11, b12⟩ := id hN
  have hW := hP.1
  have hc := hW.1
  have h64 : x < 64 := by
    have h6 : 2 ^ c ≤ 2 ^ 6 := Nat.pow_le_pow_right (by decide) hc
    omega
  have hmy := my_eq (J := J) hP b3
  have hH := rP_HH hP
  by_cases h2 : nI c = 0
  · refine eq_pp (c := c) (g := g) (x := x) (r := r) (c_X8_morning pk G I F n hn) (c_X9_morning J H h64 b6) ?_ ?_
    · rw [b1, b2, if_pos h2, if_pos h2]
    · rw [b1, b2, if_pos h2, if_pos h2]
      exact hR
  · refine eq_pp (c := c) (g := g) (x := 2 ^ c - 1) (r := r) (c_X8_morning pk G I F n hn) (c_X9_morning J H h64 b6) ?_ ?_
    · rw [b1, b2, if_neg h2, if_neg h2, b5, pop_sz ⟨x, h64⟩]
    · rw [b1, b2, if_neg h2, if_neg h2, ev_nI c hc]
      refine Rel_I hR (fun a ha => ?_) ⟨b1, b2, b3, ?_, rfl, rfl, ?_, b8, b9, b10, b11, b12⟩ (Nat.le_refl _)
      · rw [st_Ia (by omega), st_Ia (by omega)]
      · have : 0 < 2 ^ c := Nat.pow_pos (by decide)
        omega
      · show I 0 10 + 1 = J 0 8 + 1
        rw [b7]
theorem e_hurry {l : Launch} {D : va_G} {tc : Nat → ClassId} {pk : Nat → Nat} {G : Nat → Option Nat} {I F : Nat → Nat → Int32} {n c : Nat} {g : Nat → Nat} {x r : Nat} {J H : Nat → Nat → Int32} (hn : 30 ≤ n) (hR : Rel pk G I F n c g x r J H) (y : Int32) (w : Int32) : EQ l D tc yX8_hurry cX8_hurry 5 (some .int) 1 22 0 0 yX9_hurry cX9_hurry 4 1 22 [.int y, .int w] pk G I F n J H := by
  obtain ⟨hP, hN, hO, hD, hS⟩ := id hR
  obtain ⟨b1, b2, b3, b4, b5, b6, b7, b8, b9, b10, b11, b12⟩ := id hN
  have hW := hP.1
  have hc := hW.1
  have h64 : x < 64 := by
    have h6 : 2 ^ c ≤ 2 ^ 6 := Nat.pow_le_pow_right (by decide) hc
    omega
  have hmy := my_eq (J := J) hP b3
  have hH := rP_HH hP
  rcases perC hc y with hy | ⟨p, hp, rfl⟩
  · refine eq_pp (c := c) (g := g) (x := x) (r := r) (c_X8_hurry_no pk G I F n hn b1 hy w) (c_X9_hurry_no J H hc b2 hy w) ?_ ?_
    · rfl
    · exact hR
  · refine eq_pp (c := c) (g := g) (x := x) (r := r) (c_X8_hurry pk G I F n hn hW b1 hp w) (c_X9_hurry J H hc b2 hp w) ?_ ?_
    · rw [(hP.2.2.2 p hp).2.2.1]
    · cases h1 : sW w 0 9
      · exact hR
      · simp only [↓reduceIte]
        exact (Rel_per hR hp (sW9 h1)).1
theorem e_wall {l : Launch} {D : va_G} {tc : Nat → ClassId} {pk : Nat → Nat} {G : Nat → Option Nat} {I F : Nat → Nat → Int32} {n c : Nat} {g : Nat → Nat} {x r : Nat} {J H : Nat → Nat → Int32} (hn : 30 ≤ n) (hR : Rel pk G I F n c g x r J H) (y : Int32) (w : Int32) : EQ l D tc yX8_wall cX8_wall 5 (some .int) 1 22 0 0 yX9_wall cX9_wall 4 1 22 [.int y, .int w] pk G I F n J H := by
  obtain ⟨hP, hN, hO, hD, hS⟩ := id hR
  obtain ⟨b1, b2, b3, b4, b5, b6, b7, b8, b9, b10, b11, b12⟩ := id hN
  have hW := hP.1
  have hc := hW.1
  have h64 : x < 64 := by
    have h6 : 2 ^ c ≤ 2 ^ 6 := Nat.pow_le_pow_right (by decide) hc
    omega
  have hmy := my_eq (J := J) hP b3
  have hH := rP_HH hP
  rcases perC hc y with hy | ⟨p, hp, rfl⟩
  · refine eq_pp (c := c) (g := g) (x := x) (r := r) (c_X8_wall_no pk G I F n hn b1 hy w) (c_X9_wall_no J H hc b2 hy w) ?_ ?_
    · rfl
    · exact hR
  · refine eq_pp (c := c) (g := g) (x := x) (r := r) (c_X8_wall pk G I F n hn hW b1 hp w) (c_X9_wall J H hc b2 hp w) ?_ ?_
    · rw [(hP.2.2.2 p hp).2.2.2.1]
    · cases h1 : sW w 0 9
      · exact hR
      · simp only [↓reduceIte]
        exact (Rel_per hR hp (sW9 h1)).2
theorem of_b2i {m k : Nat} (hm : m < 2 ^ 31) (hk : k < 31) : b2i (sHas (nI m) (nI k)) = (nI m >>> (nI k &&& 31)) &&& 1 := by
  have h := of_tb hm hk
  rw [has_tb hm hk, ← h]
  have h31 : nI k &&& 31 = nI k := by
    have := pk_andN (n := k) (by omega) (m := 31) 5 (by decide)
    rw [this, Nat.mod_eq_of_lt (by omega)]
  rw [h31, pk_shrN hm (nI k) k (by
    have : (nI k).toBitVec = BitVec.ofNat 32 k := rfl
    rw [this, BitVec.smod_eq]
    simp [BitVec.msb_eq_decide, BitVec.toNat_ofNat, Nat.mod_eq_of_lt (show k < 4294967296 by omega), show ¬ (2147483648 ≤ k) by omega]
    omega)]
  have hd : m / 2 ^ k ≤ m := Nat.div_le_self _ _
  rw [pk_andN (n := m / 2 ^ k) (by omega) (m := 1) 1 (by decide)]
  rcases Nat.mod_two_eq_zero_or_one (m / 2 ^ k) with e | e
  · rw [show 2 ^ 1 = 2 from rfl, e]; rfl
  · rw [show 2 ^ 1 = 2 from rfl, e]; rfl
theorem e_ofPerson {l : Launch} {D : va_G} {tc : Nat → ClassId} {pk : Nat → Nat} {G : Nat → Option Nat} {I F : Nat → Nat → Int32} {n c : Nat} {g : Nat → Nat} {x r : Nat} {J H : Nat → Nat → Int32} (hn : 30 ≤ n) (hR : Rel pk G I F n c g x r J H) (y : Int32) (w : Int32) : EQ l D tc yX8_ofPerson cX8_ofPerson 4 (some .int) 4 88 0 0 yX9_ofPerson cX9_ofPerson 3 2 43 [.int y, .int w] pk G I F n J H := by
  obtain ⟨hP, hN, hO, hD, hS⟩ := id hR
  obtain ⟨b1, b2, b3, b4, b5, b6, b7, b8, b9, b10, b11, b12⟩ := id hN
  have hW := hP.1
  have hc := hW.1
  have h64 : x < 64 := by
    have h6 : 2 ^ c ≤ 2 ^ 6 := Nat.pow_le_pow_right (by decide) hc
    omega
  have hmy := my_eq (J := J) hP b3
  have hH := rP_HH hP
  rcases perC hc y with hy | ⟨p, hp, rfl⟩
  · refine eq_pp (c := c) (g := g) (x := x) (r := r) (c_X8_ofPerson_no pk G I F n hn b1 hy w) (c_X9_ofPerson_no J H hc b2 hy w) ?_ ?_
    · rfl
    · exact hR
  · refine eq_pp (c := c) (g := g) (x := x) (r := r) (c_X8_ofPerson pk G I F n hn hW b1 hp w) (c_X9_ofPerson J H hc b2 hp w) ?_ ?_
    · obtain ⟨d1, d2, d3, d4, d5⟩ := hP.2.2.2 p hp
      rw [wo_eq kd_3, may_eq kd_3, d1, d3, d4, b3, by_eq hc hO (by omega), to_eq hc hO (by omega), b5, b6, of_b2i (by omega) (by omega)]
      rfl
    · exact hR
theorem e_owes {l : Launch} {D : va_G} {tc : Nat → ClassId} {pk : Nat → Nat} {G : Nat → Option Nat} {I F : Nat → Nat → Int32} {n c : Nat} {g : Nat → Nat} {x r : Nat} {J H : Nat → Nat → Int32} (hn : 30 ≤ n) (hR : Rel pk G I F n c g x r J H) (y : Int32) (w : Int32) : EQ l D tc yX8_owes cX8_owes 3 (some .int) 3 65 0 0 yX9_owes cX9_owes 3 2 43 [.int y, .int w] pk G I F n J H := by
  obtain ⟨hP, hN, hO, hD, hS⟩ := id hR
  obtain ⟨b1, b2, b3, b4, b5, b6, b7, b8, b9, b10, b11, b12⟩ := id hN
  have hW := hP.1
  have hc := hW.1
  have h64 : x < 64 := by
    have h6 : 2 ^ c ≤ 2 ^ 6 := Nat.pow_le_pow_right (by decide) hc
    omega
  have hmy := my_eq (J := J) hP b3
  have hH := rP_HH hP
  refine eq_pp (c := c) (g := g) (x := x) (r := r) (c_X8_owes pk G I F n hn hW b1 y w) (c_X9_owes J H hc b2 y w) ?_ ?_
  · cases h1 : (sP c y && sP c w && !decide (y = w))
    · rfl
    · obtain ⟨p, q, hp, hq, hpq, rfl, rfl⟩ := two_ex hc h1
      simp only [↓reduceIte]
      rw [btw_eq hO (by omega) (by omega), owM, nI_clamp (by omega), nI_clamp (by omega)]
  · exact hR
theorem rO_add {F H : Nat → Nat → Int32} {c p q : Nat} (hc : c ≤ 6) (h : rO F H c) (hp : p < c) (hq : q < c) (v : Int32) : rO (st_F F (9 + p) (upd (F (9 + p)) q v)) (st_F H 7 (upd (H 7) (6 * p + q) v)) c := by
  intro a b ha hb
  rw [st_Fs]
  by_cases e : a = p
  · subst e
    rw [st_Fs]
    by_cases e2 : b = q
    · subst e2
      simp only [upd, if_true]
      exact ⟨trivial, fun q9 => by omega⟩
    · simp only [upd, if_neg e2, if_neg (show ¬ 6 * a + b = 6 * a + q by omega)]
      exact h a b ha hb
  · rw [st_Fn (by omega)]
    simp only [upd, if_neg (show ¬ 6 * a + b = 6 * p + q by omega)]
    exact h a b ha hb
theorem Rel_O {pk : Nat → Nat} {G : Nat → Option Nat} {I F F1 : Nat → Nat → Int32} {n c : Nat} {g : Nat → Nat} {x r : Nat} {J H H1 : Nat → Nat → Int32} (h : Rel pk G I F n c g x r J H) (hF : ∀ a, a < 9 ∨ 15 ≤ a → F1 a = F a) (hH : ∀ a, a ≠ 7 → H1 a = H a) (hO : rO F1 H1 c) : Rel pk G I F1 n c g x r J H1 := by
  obtain ⟨⟨a1, a2, a3, a4⟩, hN, _, hD, hS⟩ := h
  refine ⟨⟨a1, a2, a3, ?_⟩, hN, hO, fun k hk => ?_, fun k hk => ?_⟩
  · rw [hH 4 (by decide), hH 5 (by decide), hH 6 (by decide)]
    exact a4
  · rw [hF 18 (by decide), hF 19 (by decide), hF 20 (by decide), hH 12 (by decide), hH 13 (by decide), hH 14 (by decide)]
    exact hD k hk
  · have := hS k hk
    unfold rS1 at this ⊢
    rw [hF (26 + k) (by omega), hH 1 (by decide), hH 2 (by decide), hH 3 (by decide)]
    exact this
theorem ad_eq {F : Nat → Nat → Int32} {p q : Nat} (hp : p < 6) (hq : q < 6) (s : Int32) : adF F (nI p) (nI q) s = st_F F (9 + p) (upd (F (9 + p)) q (F (9 + p) q + s)) := by
  unfold adF
  rw [if_pos (sNum_n hp hq), nI_clamp (by omega), nI_clamp (by omega)]
theorem e_pays {l : Launch} {D : va_G} {tc : Nat → ClassId} {pk : Nat → Nat} {G : Nat → Option Nat} {I F : Nat → Nat → Int32} {n c : Nat} {g : Nat → Nat} {x r : Nat} {J H : Nat → Nat → Int32} (hn : 30 ≤ n) (hR : Rel pk G I F n c g x r J H) (y : Int32) (z : Int32) (w : Int32) : EQ l D tc yX8_pays cX8_pays 4 (some .int) 3 66 0 0 yX9_pays cX9_pays 4 2 43 [.int y, .int z, .int w] pk G I F n J H := by
  obtain ⟨hP, hN, hO, hD, hS⟩ := id hR
  obtain ⟨b1, b2, b3, b4, b5, b6, b7, b8, b9, b10, b11, b12⟩ := id hN
  have hW := hP.1
  have hc := hW.1
  have h64 : x < 64 := by
    have h6 : 2 ^ c ≤ 2 ^ 6 := Nat.pow_le_pow_right (by decide) hc
    omega
  have hmy := my_eq (J := J) hP b3
  have hH := rP_HH hP
  refine eq_pp (c := c) (g := g) (x := x) (r := r) (c_X8_pays pk G I F n hn hW b1 y z w) (c_X9_pays J H hc b2 y z w) ?_ ?_
  · cases h1 : (sP c y && sP c z && !decide (y = z))
    · simp only [Bool.false_eq_true, ↓reduceIte]
    · obtain ⟨p, q, hp, hq, hpq, rfl, rfl⟩ := two_ex hc h1
      simp only [↓reduceIte]
      rw [ad_eq (by omega) (by omega), btw_eq hO (by omega) (by omega), owM, nI_clamp (n := p) (by omega), nI_clamp (n := q) (by omega), (hO p q (by omega) (by omega)).1]
      have e9 : sBtw (st_F F (9 + p) (upd (F (9 + p)) q (H 7 (6 * p + q) + -w))) (nI p) (nI q) = H 7 (6 * p + q) - w := by
        unfold sBtw
        rw [if_pos (sNum_n (by omega) (by omega)), nI_clamp (by omega), nI_clamp (by omega), st_Fs]
        simp only [upd, if_true]
        exact (Int32.sub_eq_add_neg _ _).symm
      rw [e9]
  · cases h1 : (sP c y && sP c z && !decide (y = z))
    · simp only [Bool.false_eq_true, ↓reduceIte]
      exact hR
    · obtain ⟨p, q, hp, hq, hpq, rfl, rfl⟩ := two_ex hc h1
      simp only [↓reduceIte]
      rw [ad_eq (by omega) (by omega), btw_eq hO (by omega) (by omega), owM, nI_clamp (n := p) (by omega), nI_clamp (n := q) (by omega), (hO p q (by omega) (by omega)).1]
      cases h2 : sW w 1 99
      · simp only [Bool.false_eq_true, ↓reduceIte]
        exact hR
      · by_cases h3 : w ≤ H 7 (6 * p + q)
        · simp only [h3, ↓reduceIte]
          rw [← Int32.sub_eq_add_neg]
          exact Rel_O hR (fun a ha => st_Fn (by omega)) (fun a ha => st_Fn ha) (rO_add hc hO hp hq _)
        · simp only [h3, ↓reduceIte]
          exact hR
theorem e_balance {l : Launch} {D : va_G} {tc : Nat → ClassId} {pk : Nat → Nat} {G : Nat → Option Nat} {I F : Nat → Nat → Int32} {n c : Nat} {g : Nat → Nat} {x r : Nat} {J H : Nat → Nat → Int32} (hn : 30 ≤ n) (hR : Rel pk G I F n c g x r J H) (y : Int32) : EQ l D tc yX8_balance cX8_balance 2 (some .int) 5 109 0 0 yX9_balance cX9_balance 2 2 45 [.int y] pk G I F n J H := by
  obtain ⟨hP, hN, hO, hD, hS⟩ := id hR
  obtain ⟨b1, b2, b3, b4, b5, b6, b7, b8, b9, b10, b11, b12⟩ := id hN
  have hW := hP.1
  have hc := hW.1
  have h64 : x < 64 := by
    have h6 : 2 ^ c ≤ 2 ^ 6 := Nat.pow_le_pow_right (by decide) hc
    omega
  have hmy := my_eq (J := J) hP b3
  have hH := rP_HH hP
  rcases perC hc y with hy | ⟨p, hp, rfl⟩
  · refine eq_pp (c := c) (g := g) (x := x) (r := r) (c_X8_balance_no pk G I F n hn b1 hy) (c_X9_balance_no J H hc b2 hy) ?_ ?_
    · rfl
    · exact hR
  · refine eq_pp (c := c) (g := g) (x := x) (r := r) (c_X8_balance pk G I F n hn hW b1 hp) (c_X9_balance J H hc b2 hp) ?_ ?_
    · rw [bal_eq hc hO (by omega), Int32.add_comm]
    · exact hR
