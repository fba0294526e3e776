theorem bool7 : ∀ a b c d e f h : Bool, ((a && d && c && f) && (b && e && c && h)) = (a && b && c && d && e && f && h) := by decide
theorem cp_eq {I F H : Nat → Nat → Int32} {k k2 : Nat} (h : rS1 I F H k) (h' : rS1 I F H k2) (i j m : Int32) : cpE (I (22 + k) 1) (I (22 + k) 2) (I (22 + k) 3) (I (22 + k2) 1) (I (22 + k2) 2) (I (22 + k2) 3) i j m = cpM (H 1 k) (H 2 k) (H 1 k2) (H 2 k2) i j m := by
  rcases h.2.2 with ⟨h1, h2⟩ | ⟨h1, h2, h3, h4, _⟩
  · unfold cpE cpM
    rw [h1, h2, if_pos rfl, if_pos rfl]
  · rcases h'.2.2 with ⟨g1, g2⟩ | ⟨g1, g2, g3, g4, _⟩
    · unfold cpE cpM
      rw [h1, g1, g2, if_neg (by decide), if_pos rfl, if_neg (sW_n9 h3), if_pos rfl]
    · unfold cpE cpM
      rw [h1, g1, if_neg (by decide), if_neg (by decide), if_neg (sW_n9 h3), if_neg (sW_n9 g3), h2, g2, h4, g4]
      unfold sHasC
      rw [bool7]
      have e9 : decide (m ≤ I (22 + k2) 3 - j) = !decide (I (22 + k2) 3 - j < m) := by
        by_cases q : m ≤ I (22 + k2) 3 - j
        · rw [decide_eq_true q, decide_eq_false (Int32.not_lt.mpr q)]; rfl
        · rw [decide_eq_false q, decide_eq_true (Int32.not_le.mp q)]; rfl
      rw [e9]
theorem cpM_0 {t1 t2 i j m : Int32} {z1 z2 : Nat} (hz1 : z1 ≤ 60) (hz2 : z2 ≤ 60) (h : cpM t1 (nI z1) t2 (nI z2) i j m = 0) : ¬ t1 = -9 ∧ ¬ t2 = -9 ∧ ∃ i' j' m' : Nat, i = nI i' ∧ j = nI j' ∧ m = nI m' ∧ i' + m' ≤ z1 ∧ j' + m' ≤ z2 := by
  unfold cpM at h
  split at h
  · exact absurd h (by decide)
  · split at h
    · exact absurd h (by decide)
    · split at h
      · split at h
        · rename_i q1 q2 q3 q4
          refine ⟨q1, q2, ?_⟩
          simp only [Bool.and_eq_true, Bool.not_eq_true', decide_eq_false_iff_not, decide_eq_true_eq] at q4
          obtain ⟨⟨⟨⟨⟨⟨a1, a2⟩, a3⟩, a4⟩, a5⟩, a6⟩, a7⟩ := q4
          obtain ⟨i', hi', rfl⟩ := nI_of a1
          obtain ⟨j', hj', rfl⟩ := nI_of a2
          obtain ⟨m', hm', rfl⟩ := nI_of a3
          have c4 : i' ≤ z1 := le_9 hi' a4
          have c5 : j' ≤ z2 := le_9 hj' a5
          rw [pk_sub c4] at a6
          have c6 := le_9 hm' a6
          rw [pk_sub c5, nI_leI hm' (by omega)] at a7
          exact ⟨i', j', m', rfl, rfl, rfl, by omega, by omega⟩
        · exact absurd h (by decide)
      · exact absurd h (by decide)

theorem e_copy {l : Launch} {D : va_G} {tc : Nat → ClassId} {pk : Nat → Nat} {G : Nat → Option Nat} {I F : Nat → Nat → Int32} {n c : Nat} {g : Nat → Nat} {x r : Nat} {J H : Nat → Nat → Int32} (hn : 30 ≤ n) (hR : Rel pk G I F n c g x r J H) (y : Int32) (i : Int32) (o : Int32) (j : Int32) (m : Int32) : EQ l D tc yX8_copy cX8_copy 8 (some .int) 1 44 0 0 yX9_copy cX9_copy 10 2 42 [.int y, .int i, .int o, .int j, .int m] pk G I F n J H := by
  obtain ⟨hP, hN, hO, hD, hS⟩ := id hR
  obtain ⟨b1, b2, b3, b4, b5, b6, b7, b8, b9, b10, b11, b12⟩ := id hN
  have hW := hP.1
  have hc := hW.1
  have h64 : x < 64 := by
    have h6 : 2 ^ c ≤ 2 ^ 6 := Nat.pow_le_pow_right (by decide) hc
    omega
  have hmy := my_eq (J := J) hP b3
  have hH := rP_HH hP
  rcases shtC y with hy | ⟨k, hk, rfl⟩
  · refine eq_pp (c := c) (g := g) (x := x) (r := r) (c_X8_copy_no1 pk G I F n hn (st_I I 0 11 0) rfl hy i o j m) (c_X9_copy_no1 J H (st_I J 0 0 0) rfl hy i o j m) ?_ ?_
    · rfl
    · exact Rel_ft hR 0
  · rcases shtC o with ho | ⟨k2, hk2, rfl⟩
    · refine eq_pp (c := c) (g := g) (x := x) (r := r) (c_X8_copy_no2 pk G I F n hn (st_I I 0 11 0) rfl hk ho i j m) (c_X9_copy_no2 J H (st_I J 0 0 0) rfl hk ho i j m) ?_ ?_
      · rfl
      · exact Rel_ft hR 0
    · have hR0 := Rel_ft hR 0
      generalize hI0 : st_I I 0 11 0 = I0 at hR0
      generalize hJ0 : st_I J 0 0 0 = J0 at hR0
      have hk1 := hR0.2.2.2.2 k hk
      have hl1 := hR0.2.2.2.2 k2 hk2
      obtain ⟨⟨z, hz, ez⟩, ⟨z2, hz2, ez2⟩, hk3⟩ := id hk1
      obtain ⟨⟨u, hu, eu⟩, ⟨u2, hu2, eu2⟩, hl3⟩ := id hl1
      refine eq_pp (c := c) (g := g) (x := x) (r := r) (c_X8_copy pk G I F n hn I0 hI0.symm hk hk2 hz ez hu eu i j m) (c_X9_copy J H J0 hJ0.symm hk hk2 hz2 ez2 hu2 eu2 i j m) ?_ ?_
      · rw [cp_eq hk1 hl1]
      · rw [cp_eq hk1 hl1]
        by_cases q : cpM (H 1 k) (H 2 k) (H 1 k2) (H 2 k2) i j m = 0
        · rw [if_pos q, if_pos q, if_pos q, if_pos q]
          rw [ez2, eu2] at q
          obtain ⟨n1, n2, i9, j9, m9, rfl, rfl, rfl, h5, h6⟩ := cpM_0 hz2 hu2 q
          rw [nI_clamp (n := i9) (by omega), nI_clamp (n := j9) (by omega), nI_clamp (n := m9) (by omega)]
          obtain ⟨f1, f2, f3, f4, f5⟩ := hk3.resolve_left (fun w => n1 w.2)
          obtain ⟨e1, e2, e3, e4, e5⟩ := hl3.resolve_left (fun w => n2 w.2)
          refine Rel_S hR0 (fun b hb => rfl) (fun b hb => st_Fn (by omega)) (fun b q1 q2 q3 => st_Fn q3) (rS_k (k := k2) hR0.2.2.2.2 ?_ (fun j hj => rfl) (fun j hj => st_Fn (by omega)) (fun j hj4 hj => ⟨rfl, rfl, fun i hi => ?_⟩))
          · refine ⟨⟨u, hu, eu⟩, ⟨u2, hu2, eu2⟩, Or.inr ⟨e1, e2, e3, e4, fun t ht => ?_⟩⟩
            rw [st_Fs, st_Fs]
            unfold va_cpy cpR
            by_cases w : j9 ≤ t ∧ t < j9 + m9
            · rw [if_pos w, if_pos (by omega), f5 (i9 + (t - j9)) (by rw [ez2, nI_clamp (by omega)]; omega), show 60 * k + (i9 + (t - j9)) = 60 * k + i9 + (60 * k2 + t - (60 * k2 + j9)) by omega]
            · rw [if_neg w, if_neg (by omega)]
              exact e5 t ht
          · rw [st_Fs]
            unfold cpR
            rw [if_neg (by omega)]
        · rw [if_neg q, if_neg q, if_neg q, if_neg q]
          exact Rel_ft hR0 _
theorem e_order {l : Launch} {D : va_G} {tc : Nat → ClassId} {pk : Nat → Nat} {G : Nat → Option Nat} {I F : Nat → Nat → Int32} {n c : Nat} {g : Nat → Nat} {x r : Nat} {J H : Nat → Nat → Int32} (hn : 30 ≤ n) (hR : Rel pk G I F n c g x r J H) (y : Int32) (w : Int32) : EQ l D tc yX8_order cX8_order 4 (some .int) 5 115 0 0 yX9_order cX9_order 3 4 87 [.int y, .int w] pk G I F n J H := by
  obtain ⟨hP, hN, hO, hD, hS⟩ := id hR
  obtain ⟨b1, b2, b3, b4, b5, b6, b7, b8, b9, b10, b11, b12⟩ := id hN
  have hW := hP.1
  have hc := hW.1
  have h64 : x < 64 := by
    have h6 : 2 ^ c ≤ 2 ^ 6 := Nat.pow_le_pow_right (by decide) hc
    omega
  have hmy := my_eq (J := J) hP b3
  have hH := rP_HH hP
  refine eq_ss (c := c) (g := g) (x := x) (r := r) (c_X8_order pk G I F n hn hW b1 y w) (c_X9_order J H hc b2 b4 b6 hH y w) ?_ ?_
  · rw [b1, b2, b5, gtM_cb hc b4 hmy (fun m h => myM_le (I := J) hc hH h), (dnN_cb hc b4 hmy (fun m h => myM_le (I := J) hc hH h) _).1, (dnN_cb hc b4 hmy (fun m h => myM_le (I := J) hc hH h) _).2]
  · exact hR
theorem sumN_add (f h : Nat → Int32) : ∀ c, sumN (fun i => f i + h i) c = sumN f c + sumN h c
  | 0 => rfl
  | c + 1 => by
    rw [sumN, sumN, sumN, sumN_add f h c]
    ac_rfl
theorem sumN_mul (a : Int32) (b : Nat → Bool) : ∀ c, a * sumN (fun q => if b q then 1 else 0) c = sumN (fun q => if b q then a else 0) c
  | 0 => Int32.mul_zero
  | c + 1 => by
    rw [sumN, sumN, Int32.mul_add, sumN_mul a b c]
    cases b c
    · simp
    · simp
def ahB (th : Int32) (hs : Nat → Int32) (p q : Nat) : Bool := sHas th (nI q) && (decide (hs p < hs q) || (decide (hs q = hs p) && !decide (nI p ≤ nI q)))
def ddF (th : Int32) (hs : Nat → Int32) (p q : Nat) : Int32 := if sHas th (nI p) then (if ahB th hs p q then hs p else 0) else 0
theorem ll_dd (th : Int32) (hs : Nat → Int32) (c p : Nat) : llF th hs c p = sumN (fun q => ddF th hs p q) c := by
  unfold llF
  cases e : sHas th (nI p)
  · rw [if_neg (by decide), sumN_c (g := fun _ => 0) c (fun i hi => by unfold ddF; rw [e]; rfl)]
    have : ∀ m, sumN (fun _ => (0 : Int32)) m = 0 := fun m => by
      induction m with
      | zero => rfl
      | succ m ih => rw [sumN, ih]; rfl
    exact (this c).symm
  · rw [if_pos rfl]
    have h1 := sumN_mul (hs p) (ahB th hs p) c
    have h2 : sumN (ahF th hs p) c = sumN (fun q => if ahB th hs p q then 1 else 0) c := rfl
    rw [h2, h1]
    exact sumN_c c (fun i hi => by unfold ddF; rw [e]; rfl)
theorem dd_pp (th : Int32) (hs : Nat → Int32) (p : Nat) : ddF th hs p p = 0 := by
  unfold ddF ahB
  rw [decide_eq_false (show ¬ hs p < hs p from Int32.lt_irrefl), decide_eq_true (show nI p ≤ nI p from Int32.le_refl _)]
  simp
theorem dd_2 {th : Int32} {hs : Nat → Int32} {p q : Nat} (hq : q < p) (hp : p < 2 ^ 31) : ddF th hs p q + ddF th hs q p = if sHas th (nI p) && sHas th (nI q) then (if hs q < hs p then hs q else hs p) else 0 := by
  have h1 : ¬ nI p ≤ nI q := fun w => by
    have := (nI_leI hp (by omega)).mp w
    omega
  have h2 : nI q ≤ nI p := (nI_leI (by omega) hp).mpr (by omega)
  unfold ddF ahB
  rw [decide_eq_false h1, decide_eq_true h2]
  cases sHas th (nI p) <;> cases sHas th (nI q) <;> simp
  by_cases e : hs q < hs p
  · have e2 : ¬ hs p < hs q := fun w => Int32.lt_irrefl (Int32.lt_trans e w)
    have e3 : ¬ hs q = hs p := fun w => by rw [w] at e; exact Int32.lt_irrefl e
    simp [e, e2, e3]
  · by_cases e2 : hs p < hs q
    · have e3 : ¬ hs q = hs p := fun w => by rw [w] at e2; exact Int32.lt_irrefl e2
      simp [e, e2, e3]
    · have e3 : hs q = hs p := Int32.le_antisymm (Int32.not_lt.mp e2) (Int32.not_lt.mp e)
      simp [e3]
theorem in_dd {th : Int32} {hs : Nat → Int32} {p : Nat} (hp : p < 2 ^ 31) : ∀ m, m ≤ p → inN th hs p m = sumN (fun q => ddF th hs p q + ddF th hs q p) m
  | 0, _ => rfl
  | m + 1, h => by
    rw [inN, sumN, in_dd hp m (by omega), dd_2 (by omega) hp]
theorem ss_s (d : Nat → Nat → Int32) (m : Nat) : ∀ c, sumN (fun p => sumN (fun q => d p q) (m + 1)) c = sumN (fun p => sumN (fun q => d p q) m) c + sumN (fun p => d p m) c := fun c => by
  rw [← sumN_add]
  rfl
theorem ou_ll (th : Int32) (hs : Nat → Int32) : ∀ c, c < 2 ^ 31 → ouN th hs c = sumN (llF th hs c) c
  | 0, _ => rfl
  | c + 1, h => by
    rw [ouN, ou_ll th hs c (by omega), in_dd (by omega) c (Nat.le_refl _), sumN_add]
    rw [sumN_c (f := llF th hs (c + 1)) (g := fun p => sumN (fun q => ddF th hs p q) (c + 1)) (c + 1) (fun i hi => ll_dd th hs (c + 1) i), sumN_c (f := llF th hs c) (g := fun p => sumN (fun q => ddF th hs p q) c) c (fun i hi => ll_dd th hs c i)]
    rw [sumN, ss_s (ddF th hs) c c]
    show _ = _ + (sumN (fun q => ddF th hs c q) c + ddF th hs c c)
    rw [dd_pp, Int32.add_zero, show sumN (fun q => ddF th hs c q) c = sumN (ddF th hs c) c from rfl]
    ac_rfl
theorem ouN_c {th : Int32} {hs hs' : Nat → Int32} : ∀ c, (∀ i, i < c → hs i = hs' i) → ouN th hs c = ouN th hs' c
  | 0, _ => rfl
  | c + 1, h => by
    have hin : ∀ m, m ≤ c → inN th hs c m = inN th hs' c m := fun m => by
      induction m with
      | zero => exact fun _ => rfl
      | succ m ih =>
        intro hm
        rw [inN, inN, ih (by omega), h c (by omega), h m (by omega)]
    rw [ouN, ouN, ouN_c c (fun i hi => h i (by omega)), hin c (Nat.le_refl _)]
theorem hx_eq {pk : Nat → Nat} {G : Nat → Option Nat} {I : Nat → Nat → Int32} {n c : Nat} {g : Nat → Nat} {H : Nat → Nat → Int32} (h : rP pk G I n c g H) {d : Nat} (hd : d < c) : sHx g I c (nI d) = H 5 d := by
  have hc := h.1.1
  unfold sHx
  rw [sP_nI hc hd, if_pos rfl, nI_clamp (by omega)]
  exact (h.2.2.2 d hd).2.2.1
theorem e_loss {l : Launch} {D : va_G} {tc : Nat → ClassId} {pk : Nat → Nat} {G : Nat → Option Nat} {I F : Nat → Nat → Int32} {n c : Nat} {g : Nat → Nat} {x r : Nat} {J H : Nat → Nat → Int32} (hn : 30 ≤ n) (hR : Rel pk G I F n c g x r J H) (w : Int32) : EQ l D tc yX8_loss cX8_loss 2 (some .int) 6 138 0 0 yX9_loss cX9_loss 4 4 87 [.int w] pk G I F n J H := by
  obtain ⟨hP, hN, hO, hD, hS⟩ := id hR
  obtain ⟨b1, b2, b3, b4, b5, b6, b7, b8, b9, b10, b11, b12⟩ := id hN
  have hW := hP.1
  have hc := hW.1
  have h64 : x < 64 := by
    have h6 : 2 ^ c ≤ 2 ^ 6 := Nat.pow_le_pow_right (by decide) hc
    omega
  have hmy := my_eq (J := J) hP b3
  have hH := rP_HH hP
  refine eq_ss (c := c) (g := g) (x := x) (r := r) (c_X8_loss pk G I F n hn hW b1 w) (c_X9_loss J H hc b2 b4 b6 hH w) ?_ ?_
  · rw [b1, b2, b5]
    cases h1 : sW w 0 1
    · simp only [Bool.false_eq_true, ↓reduceIte]
    · simp only [↓reduceIte]
      by_cases h2 : nI c = 0
      · rw [if_pos h2, if_pos h2]
      · rw [if_neg h2, if_neg h2]
        obtain ⟨a, ha, rfl⟩ := sW_ex (m := 1) (by decide) h1
        have ha2 : a = 0 ∨ a = 1 := by omega
        rcases ha2 with rfl | rfl
        · rw [if_pos (by rfl), if_neg (by decide), gtM_cb hc b4 hmy (fun m h => myM_le (I := J) hc hH h)]
          refine congrArg Value.int (sumN_c _ (fun i hi => ?_))
          obtain ⟨d, hd, ed⟩ := dnN_n (my := myM J H) hc b4 (fun m h => myM_le (I := J) hc hH h) hi
          rw [(dnN_cb hc b4 hmy (fun m h => myM_le (I := J) hc hH h) i).1, ed, hx_eq hP hd, nI_clamp (by omega), Int32.mul_comm]
        · rw [if_neg (by decide), if_pos (by rfl), ouN_c (hs' := H 5) c (fun i hi => hx_eq hP hi), ou_ll _ _ c (by omega)]
  · exact hR
